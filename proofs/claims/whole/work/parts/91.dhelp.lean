/-! Rows of the law's helpers. -/
theorem dL_addPerson_0 : decode cL_addPerson 0 = .ok (.aload_n 3, 1) := by decide +kernel
theorem dL_addPerson_1 : decode cL_addPerson 1 = .ok (.iconst 0, 1) := by decide +kernel
theorem dL_addPerson_2 : decode cL_addPerson 2 = .ok (.aload_n 0, 1) := by decide +kernel
theorem dL_addPerson_3 : decode cL_addPerson 3 = .ok (.iload_n 1, 1) := by decide +kernel
theorem dL_addPerson_4 : decode cL_addPerson 4 = .ok (.iload_n 2, 1) := by decide +kernel
theorem dL_addPerson_5 : decode cL_addPerson 5 = .ok (.invokevirtual 7, 3) := by decide +kernel
theorem dL_addPerson_8 : decode cL_addPerson 8 = .ok (.i2l, 1) := by decide +kernel
theorem dL_addPerson_9 : decode cL_addPerson 9 = .ok (.lastore, 1) := by decide +kernel
theorem dL_addPerson_10 : decode cL_addPerson 10 = .ok (.goto 15, 3) := by decide +kernel
theorem dL_addPerson_13 : decode cL_addPerson 13 = .ok (.astore 4, 2) := by decide +kernel
theorem dL_addPerson_15 : decode cL_addPerson 15 = .ok (.iconst 1, 1) := by decide +kernel
theorem dL_addPerson_16 : decode cL_addPerson 16 = .ok (.ireturn, 1) := by decide +kernel
theorem dL_addPerson_17 : decode cL_addPerson 17 = .ok (.astore 4, 2) := by decide +kernel
theorem dL_addPerson_19 : decode cL_addPerson 19 = .ok (.iconst 2, 1) := by decide +kernel
theorem dL_addPerson_20 : decode cL_addPerson 20 = .ok (.ireturn, 1) := by decide +kernel
theorem dL_addPerson_21 : decode cL_addPerson 21 = .ok (.astore 4, 2) := by decide +kernel
theorem dL_addPerson_23 : decode cL_addPerson 23 = .ok (.iconst 3, 1) := by decide +kernel
theorem dL_addPerson_24 : decode cL_addPerson 24 = .ok (.ireturn, 1) := by decide +kernel
theorem dL_addPerson_25 : decode cL_addPerson 25 = .ok (.iconst 0, 1) := by decide +kernel
theorem dL_addPerson_26 : decode cL_addPerson 26 = .ok (.ireturn, 1) := by decide +kernel
set_option maxRecDepth 20000 in
theorem ggL_setAbsent_X6_setAbsent : GoodIn wsL_setAbsent wsX6_setAbsent := goodIn_ca (goodIn_ca (goodIn_r _ [6, 7, 8, 9, 10, 11, 5, 12, 13, 14, 15, 16, 17, 18, 19, 20, 21, 22, 23, 24, 25, 26, 27, 28, 29, 30, 31, 32, 33, 34] (by decide +kernel) (by decide +kernel)) (goodIn_sub (fun _ h => List.mem_cons_of_mem _ (List.mem_append_left _ (List.mem_append_right _ h))) (by decide +kernel))) (goodIn_sub (fun _ h => List.mem_cons_of_mem _ (List.mem_append_right _ h)) (by decide +kernel))
set_option maxRecDepth 20000 in
theorem gL_setAbsent_X6_setAbsent : GoodIn wsL_setAbsent (wsV RL 19 RX6 yX6_setAbsent wsX6_setAbsent) := goodIn_app (goodIn_of _ (by decide +kernel)) ggL_setAbsent_X6_setAbsent
theorem dL_setAbsent_0 : decode cL_setAbsent 0 = .ok (.aload_n 3, 1) := by decide +kernel
theorem dL_setAbsent_1 : decode cL_setAbsent 1 = .ok (.iconst 0, 1) := by decide +kernel
theorem dL_setAbsent_2 : decode cL_setAbsent 2 = .ok (.aload_n 0, 1) := by decide +kernel
theorem dL_setAbsent_3 : decode cL_setAbsent 3 = .ok (.iload_n 1, 1) := by decide +kernel
theorem dL_setAbsent_4 : decode cL_setAbsent 4 = .ok (.iload_n 2, 1) := by decide +kernel
theorem dL_setAbsent_5 : decode cL_setAbsent 5 = .ok (.invokevirtual 19, 3) := by decide +kernel
theorem dL_setAbsent_8 : decode cL_setAbsent 8 = .ok (.ifCond .eq 7, 3) := by decide +kernel
theorem dL_setAbsent_11 : decode cL_setAbsent 11 = .ok (.lconst 1, 1) := by decide +kernel
theorem dL_setAbsent_12 : decode cL_setAbsent 12 = .ok (.goto 4, 3) := by decide +kernel
theorem dL_setAbsent_15 : decode cL_setAbsent 15 = .ok (.lconst 0, 1) := by decide +kernel
theorem dL_setAbsent_16 : decode cL_setAbsent 16 = .ok (.lastore, 1) := by decide +kernel
theorem dL_setAbsent_17 : decode cL_setAbsent 17 = .ok (.goto 7, 3) := by decide +kernel
theorem dL_setAbsent_20 : decode cL_setAbsent 20 = .ok (.astore 4, 2) := by decide +kernel
theorem dL_setAbsent_22 : decode cL_setAbsent 22 = .ok (.iconst 1, 1) := by decide +kernel
theorem dL_setAbsent_23 : decode cL_setAbsent 23 = .ok (.ireturn, 1) := by decide +kernel
theorem dL_setAbsent_24 : decode cL_setAbsent 24 = .ok (.iconst 0, 1) := by decide +kernel
theorem dL_setAbsent_25 : decode cL_setAbsent 25 = .ok (.ireturn, 1) := by decide +kernel
set_option maxRecDepth 20000 in
theorem ggL_setSubstitute_X6_setSubstitute : GoodIn wsL_setSubstitute wsX6_setSubstitute := goodIn_ca (goodIn_ca (goodIn_ca (goodIn_r _ [6, 7, 8, 9, 10, 11, 12, 13, 5, 14, 15, 16, 17, 18, 19, 20, 21, 22, 23, 24, 25, 26, 27, 28, 29, 30, 31, 32, 33, 34, 35, 36] (by decide +kernel) (by decide +kernel)) (goodIn_sub (fun _ h => List.mem_cons_of_mem _ (List.mem_append_left _ (List.mem_append_right _ h))) (by decide +kernel))) (goodIn_sub (fun _ h => List.mem_cons_of_mem _ (List.mem_append_left _ (List.mem_append_left _ (List.mem_append_right _ h)))) (by decide +kernel))) (goodIn_sub (fun _ h => List.mem_cons_of_mem _ (List.mem_append_right _ h)) (by decide +kernel))
set_option maxRecDepth 20000 in
theorem gL_setSubstitute_X6_setSubstitute : GoodIn wsL_setSubstitute (wsV RL 23 RX6 yX6_setSubstitute wsX6_setSubstitute) := goodIn_app (goodIn_of _ (by decide +kernel)) ggL_setSubstitute_X6_setSubstitute
theorem dL_setSubstitute_0 : decode cL_setSubstitute 0 = .ok (.aload_n 3, 1) := by decide +kernel
theorem dL_setSubstitute_1 : decode cL_setSubstitute 1 = .ok (.iconst 0, 1) := by decide +kernel
theorem dL_setSubstitute_2 : decode cL_setSubstitute 2 = .ok (.aload_n 0, 1) := by decide +kernel
theorem dL_setSubstitute_3 : decode cL_setSubstitute 3 = .ok (.iload_n 1, 1) := by decide +kernel
theorem dL_setSubstitute_4 : decode cL_setSubstitute 4 = .ok (.iload_n 2, 1) := by decide +kernel
theorem dL_setSubstitute_5 : decode cL_setSubstitute 5 = .ok (.invokevirtual 23, 3) := by decide +kernel
theorem dL_setSubstitute_8 : decode cL_setSubstitute 8 = .ok (.i2l, 1) := by decide +kernel
theorem dL_setSubstitute_9 : decode cL_setSubstitute 9 = .ok (.lastore, 1) := by decide +kernel
theorem dL_setSubstitute_10 : decode cL_setSubstitute 10 = .ok (.goto 11, 3) := by decide +kernel
theorem dL_setSubstitute_13 : decode cL_setSubstitute 13 = .ok (.astore 4, 2) := by decide +kernel
theorem dL_setSubstitute_15 : decode cL_setSubstitute 15 = .ok (.iconst 1, 1) := by decide +kernel
theorem dL_setSubstitute_16 : decode cL_setSubstitute 16 = .ok (.ireturn, 1) := by decide +kernel
theorem dL_setSubstitute_17 : decode cL_setSubstitute 17 = .ok (.astore 4, 2) := by decide +kernel
theorem dL_setSubstitute_19 : decode cL_setSubstitute 19 = .ok (.iconst 2, 1) := by decide +kernel
theorem dL_setSubstitute_20 : decode cL_setSubstitute 20 = .ok (.ireturn, 1) := by decide +kernel
theorem dL_setSubstitute_21 : decode cL_setSubstitute 21 = .ok (.iconst 0, 1) := by decide +kernel
theorem dL_setSubstitute_22 : decode cL_setSubstitute 22 = .ok (.ireturn, 1) := by decide +kernel
set_option maxRecDepth 20000 in
theorem ggL_addGroup_X6_addGroup : GoodIn wsL_addGroup wsX6_addGroup := goodIn_ca (goodIn_ca (goodIn_ca (goodIn_r _ [6, 7, 8, 9, 10, 11, 12, 13, 5, 14, 15, 16, 17, 18, 19, 20, 21, 22, 23, 24, 25, 26, 27, 28, 29, 30, 31, 32, 33, 34, 35, 36, 37, 38, 39, 40, 41, 42, 43, 44, 45, 46, 47, 48, 49] (by decide +kernel) (by decide +kernel)) (goodIn_sub (fun _ h => List.mem_cons_of_mem _ (List.mem_append_left _ (List.mem_append_right _ h))) (by decide +kernel))) (goodIn_sub (fun _ h => List.mem_cons_of_mem _ (List.mem_append_right _ h)) (by decide +kernel))) (goodIn_sub (fun _ h => List.mem_cons_of_mem _ (List.mem_append_left _ (List.mem_append_left _ (List.mem_append_right _ h)))) (by decide +kernel))
set_option maxRecDepth 20000 in
theorem gL_addGroup_X6_addGroup : GoodIn wsL_addGroup (wsV RL 26 RX6 yX6_addGroup wsX6_addGroup) := goodIn_app (goodIn_of _ (by decide +kernel)) ggL_addGroup_X6_addGroup
theorem dL_addGroup_0 : decode cL_addGroup 0 = .ok (.aload_n 2, 1) := by decide +kernel
theorem dL_addGroup_1 : decode cL_addGroup 1 = .ok (.iconst 0, 1) := by decide +kernel
theorem dL_addGroup_2 : decode cL_addGroup 2 = .ok (.aload_n 0, 1) := by decide +kernel
theorem dL_addGroup_3 : decode cL_addGroup 3 = .ok (.iload_n 1, 1) := by decide +kernel
theorem dL_addGroup_4 : decode cL_addGroup 4 = .ok (.invokevirtual 26, 3) := by decide +kernel
theorem dL_addGroup_7 : decode cL_addGroup 7 = .ok (.i2l, 1) := by decide +kernel
theorem dL_addGroup_8 : decode cL_addGroup 8 = .ok (.lastore, 1) := by decide +kernel
theorem dL_addGroup_9 : decode cL_addGroup 9 = .ok (.goto 9, 3) := by decide +kernel
theorem dL_addGroup_12 : decode cL_addGroup 12 = .ok (.astore_n 3, 1) := by decide +kernel
theorem dL_addGroup_13 : decode cL_addGroup 13 = .ok (.iconst 1, 1) := by decide +kernel
theorem dL_addGroup_14 : decode cL_addGroup 14 = .ok (.ireturn, 1) := by decide +kernel
theorem dL_addGroup_15 : decode cL_addGroup 15 = .ok (.astore_n 3, 1) := by decide +kernel
theorem dL_addGroup_16 : decode cL_addGroup 16 = .ok (.iconst 2, 1) := by decide +kernel
theorem dL_addGroup_17 : decode cL_addGroup 17 = .ok (.ireturn, 1) := by decide +kernel
theorem dL_addGroup_18 : decode cL_addGroup 18 = .ok (.iconst 0, 1) := by decide +kernel
theorem dL_addGroup_19 : decode cL_addGroup 19 = .ok (.ireturn, 1) := by decide +kernel
set_option maxRecDepth 20000 in
theorem ggL_addMember_X6_addMember : GoodIn wsL_addMember wsX6_addMember := goodIn_ca (goodIn_ca (goodIn_ca (goodIn_r _ [6, 7, 8, 9, 10, 11, 12, 13, 5, 14, 15, 16, 17, 18, 19, 20, 21, 22, 23, 24, 25, 26, 27, 28, 29, 30, 31, 32, 33, 34, 35, 36, 37, 38, 39, 40, 41, 42, 43, 44, 45, 46, 47, 48, 49, 50, 51, 52, 53, 54, 55, 56, 57, 58, 59, 60, 61, 62, 63, 64, 65, 66, 67, 68, 69, 70, 71, 72, 73, 74, 75, 76, 77, 78, 79, 80] (by decide +kernel) (by decide +kernel)) (goodIn_sub (fun _ h => List.mem_cons_of_mem _ (List.mem_append_left _ (List.mem_append_left _ (List.mem_append_right _ h)))) (by decide +kernel))) (goodIn_sub (fun _ h => List.mem_cons_of_mem _ (List.mem_append_left _ (List.mem_append_right _ h))) (by decide +kernel))) (goodIn_sub (fun _ h => List.mem_cons_of_mem _ (List.mem_append_right _ h)) (by decide +kernel))
set_option maxRecDepth 20000 in
theorem gL_addMember_X6_addMember : GoodIn wsL_addMember (wsV RL 30 RX6 yX6_addMember wsX6_addMember) := goodIn_app (goodIn_of _ (by decide +kernel)) ggL_addMember_X6_addMember
theorem dL_addMember_0 : decode cL_addMember 0 = .ok (.aload_n 3, 1) := by decide +kernel
theorem dL_addMember_1 : decode cL_addMember 1 = .ok (.iconst 0, 1) := by decide +kernel
theorem dL_addMember_2 : decode cL_addMember 2 = .ok (.aload_n 0, 1) := by decide +kernel
theorem dL_addMember_3 : decode cL_addMember 3 = .ok (.iload_n 1, 1) := by decide +kernel
theorem dL_addMember_4 : decode cL_addMember 4 = .ok (.iload_n 2, 1) := by decide +kernel
theorem dL_addMember_5 : decode cL_addMember 5 = .ok (.invokevirtual 30, 3) := by decide +kernel
theorem dL_addMember_8 : decode cL_addMember 8 = .ok (.i2l, 1) := by decide +kernel
theorem dL_addMember_9 : decode cL_addMember 9 = .ok (.lastore, 1) := by decide +kernel
theorem dL_addMember_10 : decode cL_addMember 10 = .ok (.goto 11, 3) := by decide +kernel
theorem dL_addMember_13 : decode cL_addMember 13 = .ok (.astore 4, 2) := by decide +kernel
theorem dL_addMember_15 : decode cL_addMember 15 = .ok (.iconst 1, 1) := by decide +kernel
theorem dL_addMember_16 : decode cL_addMember 16 = .ok (.ireturn, 1) := by decide +kernel
theorem dL_addMember_17 : decode cL_addMember 17 = .ok (.astore 4, 2) := by decide +kernel
theorem dL_addMember_19 : decode cL_addMember 19 = .ok (.iconst 2, 1) := by decide +kernel
theorem dL_addMember_20 : decode cL_addMember 20 = .ok (.ireturn, 1) := by decide +kernel
theorem dL_addMember_21 : decode cL_addMember 21 = .ok (.iconst 0, 1) := by decide +kernel
theorem dL_addMember_22 : decode cL_addMember 22 = .ok (.ireturn, 1) := by decide +kernel
set_option maxRecDepth 20000 in
theorem ggL_removeMember_X6_removeMember : GoodIn wsL_removeMember wsX6_removeMember := goodIn_ca (goodIn_ca (goodIn_ca (goodIn_r _ [6, 7, 8, 9, 10, 11, 12, 13, 5, 14, 15, 16, 17, 18, 19, 20, 21, 22, 23, 24, 25, 26, 27, 28, 29, 30, 31, 32, 33, 34, 35, 36, 37, 38, 39, 40, 41, 42, 43, 44, 45, 46, 47, 48, 49, 50, 51, 52, 53, 54, 55, 56, 57, 58, 59, 60, 61, 62, 63, 64, 65, 66, 67, 68, 69, 70, 71, 72, 73, 74, 75, 76, 77, 78, 79, 80] (by decide +kernel) (by decide +kernel)) (goodIn_sub (fun _ h => List.mem_cons_of_mem _ (List.mem_append_left _ (List.mem_append_left _ (List.mem_append_right _ h)))) (by decide +kernel))) (goodIn_sub (fun _ h => List.mem_cons_of_mem _ (List.mem_append_left _ (List.mem_append_right _ h))) (by decide +kernel))) (goodIn_sub (fun _ h => List.mem_cons_of_mem _ (List.mem_append_right _ h)) (by decide +kernel))
set_option maxRecDepth 20000 in
theorem gL_removeMember_X6_removeMember : GoodIn wsL_removeMember (wsV RL 33 RX6 yX6_removeMember wsX6_removeMember) := goodIn_app (goodIn_of _ (by decide +kernel)) ggL_removeMember_X6_removeMember
theorem dL_removeMember_0 : decode cL_removeMember 0 = .ok (.aload_n 3, 1) := by decide +kernel
theorem dL_removeMember_1 : decode cL_removeMember 1 = .ok (.iconst 0, 1) := by decide +kernel
theorem dL_removeMember_2 : decode cL_removeMember 2 = .ok (.aload_n 0, 1) := by decide +kernel
theorem dL_removeMember_3 : decode cL_removeMember 3 = .ok (.iload_n 1, 1) := by decide +kernel
theorem dL_removeMember_4 : decode cL_removeMember 4 = .ok (.iload_n 2, 1) := by decide +kernel
theorem dL_removeMember_5 : decode cL_removeMember 5 = .ok (.invokevirtual 33, 3) := by decide +kernel
theorem dL_removeMember_8 : decode cL_removeMember 8 = .ok (.i2l, 1) := by decide +kernel
theorem dL_removeMember_9 : decode cL_removeMember 9 = .ok (.lastore, 1) := by decide +kernel
theorem dL_removeMember_10 : decode cL_removeMember 10 = .ok (.goto 11, 3) := by decide +kernel
theorem dL_removeMember_13 : decode cL_removeMember 13 = .ok (.astore 4, 2) := by decide +kernel
theorem dL_removeMember_15 : decode cL_removeMember 15 = .ok (.iconst 1, 1) := by decide +kernel
theorem dL_removeMember_16 : decode cL_removeMember 16 = .ok (.ireturn, 1) := by decide +kernel
theorem dL_removeMember_17 : decode cL_removeMember 17 = .ok (.astore 4, 2) := by decide +kernel
theorem dL_removeMember_19 : decode cL_removeMember 19 = .ok (.iconst 2, 1) := by decide +kernel
theorem dL_removeMember_20 : decode cL_removeMember 20 = .ok (.ireturn, 1) := by decide +kernel
theorem dL_removeMember_21 : decode cL_removeMember 21 = .ok (.iconst 0, 1) := by decide +kernel
theorem dL_removeMember_22 : decode cL_removeMember 22 = .ok (.ireturn, 1) := by decide +kernel
set_option maxRecDepth 20000 in
theorem ggL_nest_X6_nest : GoodIn wsL_nest wsX6_nest := goodIn_ca (goodIn_ca (goodIn_ca (goodIn_ca (goodIn_r _ [6, 7, 8, 9, 10, 11, 12, 13, 14, 15, 5, 16, 17, 18, 19, 20, 21, 22, 23, 24, 25, 26, 27, 28, 29, 30, 31, 32, 33, 34, 35, 36, 37, 38, 39, 40, 41, 42, 43, 44, 45, 46, 47, 48, 49, 50, 51, 52, 53, 54, 55, 56, 57, 58, 59, 60, 61, 62, 63, 64, 65, 66, 67] (by decide +kernel) (by decide +kernel)) (goodIn_sub (fun _ h => List.mem_cons_of_mem _ (List.mem_append_left _ (List.mem_append_left _ (List.mem_append_right _ h)))) (by decide +kernel))) (goodIn_sub (fun _ h => List.mem_cons_of_mem _ (List.mem_append_left _ (List.mem_append_left _ (List.mem_append_left _ (List.mem_append_right _ h))))) (by decide +kernel))) (goodIn_sub (fun _ h => List.mem_cons_of_mem _ (List.mem_append_left _ (List.mem_append_right _ h))) (by decide +kernel))) (goodIn_sub (fun _ h => List.mem_cons_of_mem _ (List.mem_append_right _ h)) (by decide +kernel))
set_option maxRecDepth 20000 in
theorem gL_nest_X6_nest : GoodIn wsL_nest (wsV RL 36 RX6 yX6_nest wsX6_nest) := goodIn_app (goodIn_of _ (by decide +kernel)) ggL_nest_X6_nest
theorem dL_nest_0 : decode cL_nest 0 = .ok (.aload_n 3, 1) := by decide +kernel
theorem dL_nest_1 : decode cL_nest 1 = .ok (.iconst 0, 1) := by decide +kernel
theorem dL_nest_2 : decode cL_nest 2 = .ok (.aload_n 0, 1) := by decide +kernel
theorem dL_nest_3 : decode cL_nest 3 = .ok (.iload_n 1, 1) := by decide +kernel
theorem dL_nest_4 : decode cL_nest 4 = .ok (.iload_n 2, 1) := by decide +kernel
theorem dL_nest_5 : decode cL_nest 5 = .ok (.invokevirtual 36, 3) := by decide +kernel
theorem dL_nest_8 : decode cL_nest 8 = .ok (.i2l, 1) := by decide +kernel
theorem dL_nest_9 : decode cL_nest 9 = .ok (.lastore, 1) := by decide +kernel
theorem dL_nest_10 : decode cL_nest 10 = .ok (.goto 15, 3) := by decide +kernel
theorem dL_nest_13 : decode cL_nest 13 = .ok (.astore 4, 2) := by decide +kernel
theorem dL_nest_15 : decode cL_nest 15 = .ok (.iconst 1, 1) := by decide +kernel
theorem dL_nest_16 : decode cL_nest 16 = .ok (.ireturn, 1) := by decide +kernel
theorem dL_nest_17 : decode cL_nest 17 = .ok (.astore 4, 2) := by decide +kernel
theorem dL_nest_19 : decode cL_nest 19 = .ok (.iconst 2, 1) := by decide +kernel
theorem dL_nest_20 : decode cL_nest 20 = .ok (.ireturn, 1) := by decide +kernel
theorem dL_nest_21 : decode cL_nest 21 = .ok (.astore 4, 2) := by decide +kernel
theorem dL_nest_23 : decode cL_nest 23 = .ok (.iconst 3, 1) := by decide +kernel
theorem dL_nest_24 : decode cL_nest 24 = .ok (.ireturn, 1) := by decide +kernel
theorem dL_nest_25 : decode cL_nest 25 = .ok (.iconst 0, 1) := by decide +kernel
theorem dL_nest_26 : decode cL_nest 26 = .ok (.ireturn, 1) := by decide +kernel
set_option maxRecDepth 20000 in
theorem ggL_addRight_X6_addRight : GoodIn wsL_addRight wsX6_addRight := goodIn_ca (goodIn_ca (goodIn_ca (goodIn_ca (goodIn_r _ [6, 7, 8, 9, 10, 11, 12, 13, 14, 15, 5, 16, 17, 18, 19, 20, 21, 22, 23, 24, 25, 26, 27, 28, 29, 30, 31, 32, 33, 34, 35, 36, 37, 38, 39, 40, 41, 42, 43, 44, 45, 46, 47, 48, 49, 50, 51, 52, 53] (by decide +kernel) (by decide +kernel)) (goodIn_sub (fun _ h => List.mem_cons_of_mem _ (List.mem_append_left _ (List.mem_append_left _ (List.mem_append_right _ h)))) (by decide +kernel))) (goodIn_sub (fun _ h => List.mem_cons_of_mem _ (List.mem_append_left _ (List.mem_append_right _ h))) (by decide +kernel))) (goodIn_sub (fun _ h => List.mem_cons_of_mem _ (List.mem_append_right _ h)) (by decide +kernel))) (goodIn_sub (fun _ h => List.mem_cons_of_mem _ (List.mem_append_left _ (List.mem_append_left _ (List.mem_append_left _ (List.mem_append_right _ h))))) (by decide +kernel))
set_option maxRecDepth 20000 in
theorem gL_addRight_X6_addRight : GoodIn wsL_addRight (wsV RL 41 RX6 yX6_addRight wsX6_addRight) := goodIn_app (goodIn_of _ (by decide +kernel)) ggL_addRight_X6_addRight
theorem dL_addRight_0 : decode cL_addRight 0 = .ok (.aload 4, 2) := by decide +kernel
theorem dL_addRight_2 : decode cL_addRight 2 = .ok (.iconst 0, 1) := by decide +kernel
theorem dL_addRight_3 : decode cL_addRight 3 = .ok (.aload_n 0, 1) := by decide +kernel
theorem dL_addRight_4 : decode cL_addRight 4 = .ok (.iload_n 1, 1) := by decide +kernel
theorem dL_addRight_5 : decode cL_addRight 5 = .ok (.iload_n 2, 1) := by decide +kernel
theorem dL_addRight_6 : decode cL_addRight 6 = .ok (.iload_n 3, 1) := by decide +kernel
theorem dL_addRight_7 : decode cL_addRight 7 = .ok (.invokevirtual 41, 3) := by decide +kernel
theorem dL_addRight_10 : decode cL_addRight 10 = .ok (.i2l, 1) := by decide +kernel
theorem dL_addRight_11 : decode cL_addRight 11 = .ok (.lastore, 1) := by decide +kernel
theorem dL_addRight_12 : decode cL_addRight 12 = .ok (.goto 15, 3) := by decide +kernel
theorem dL_addRight_15 : decode cL_addRight 15 = .ok (.astore 5, 2) := by decide +kernel
theorem dL_addRight_17 : decode cL_addRight 17 = .ok (.iconst 1, 1) := by decide +kernel
theorem dL_addRight_18 : decode cL_addRight 18 = .ok (.ireturn, 1) := by decide +kernel
theorem dL_addRight_19 : decode cL_addRight 19 = .ok (.astore 5, 2) := by decide +kernel
theorem dL_addRight_21 : decode cL_addRight 21 = .ok (.iconst 2, 1) := by decide +kernel
theorem dL_addRight_22 : decode cL_addRight 22 = .ok (.ireturn, 1) := by decide +kernel
theorem dL_addRight_23 : decode cL_addRight 23 = .ok (.astore 5, 2) := by decide +kernel
theorem dL_addRight_25 : decode cL_addRight 25 = .ok (.iconst 3, 1) := by decide +kernel
theorem dL_addRight_26 : decode cL_addRight 26 = .ok (.ireturn, 1) := by decide +kernel
theorem dL_addRight_27 : decode cL_addRight 27 = .ok (.iconst 0, 1) := by decide +kernel
theorem dL_addRight_28 : decode cL_addRight 28 = .ok (.ireturn, 1) := by decide +kernel
set_option maxRecDepth 20000 in
theorem ggL_grantPerson_X6_grantPerson : GoodIn wsL_grantPerson wsX6_grantPerson := goodIn_ca (goodIn_ca (goodIn_ca (goodIn_r _ [6, 7, 8, 9, 10, 11, 12, 13, 5, 14, 15, 16, 17, 18, 19, 20, 21, 22, 23, 24, 25, 26, 27, 28, 29, 30, 31, 32, 33, 34, 35, 36, 37, 38, 39, 40, 41, 42, 43, 44, 45, 46, 47, 48, 49, 50, 51, 52, 53, 54, 55, 56, 57, 58, 59, 60, 61, 62, 63, 64, 65, 66, 67, 68, 69, 70, 71, 72, 73, 74, 75, 76, 77, 78, 79, 80, 81, 82, 83, 84, 85, 86, 87, 88] (by decide +kernel) (by decide +kernel)) (goodIn_sub (fun _ h => List.mem_cons_of_mem _ (List.mem_append_left _ (List.mem_append_left _ (List.mem_append_right _ h)))) (by decide +kernel))) (goodIn_sub (fun _ h => List.mem_cons_of_mem _ (List.mem_append_left _ (List.mem_append_right _ h))) (by decide +kernel))) (goodIn_sub (fun _ h => List.mem_cons_of_mem _ (List.mem_append_right _ h)) (by decide +kernel))
set_option maxRecDepth 20000 in
theorem gL_grantPerson_X6_grantPerson : GoodIn wsL_grantPerson (wsV RL 45 RX6 yX6_grantPerson wsX6_grantPerson) := goodIn_app (goodIn_of _ (by decide +kernel)) ggL_grantPerson_X6_grantPerson
theorem dL_grantPerson_0 : decode cL_grantPerson 0 = .ok (.aload_n 3, 1) := by decide +kernel
theorem dL_grantPerson_1 : decode cL_grantPerson 1 = .ok (.iconst 0, 1) := by decide +kernel
theorem dL_grantPerson_2 : decode cL_grantPerson 2 = .ok (.aload_n 0, 1) := by decide +kernel
theorem dL_grantPerson_3 : decode cL_grantPerson 3 = .ok (.iload_n 1, 1) := by decide +kernel
theorem dL_grantPerson_4 : decode cL_grantPerson 4 = .ok (.iload_n 2, 1) := by decide +kernel
theorem dL_grantPerson_5 : decode cL_grantPerson 5 = .ok (.invokevirtual 45, 3) := by decide +kernel
theorem dL_grantPerson_8 : decode cL_grantPerson 8 = .ok (.i2l, 1) := by decide +kernel
theorem dL_grantPerson_9 : decode cL_grantPerson 9 = .ok (.lastore, 1) := by decide +kernel
theorem dL_grantPerson_10 : decode cL_grantPerson 10 = .ok (.goto 11, 3) := by decide +kernel
theorem dL_grantPerson_13 : decode cL_grantPerson 13 = .ok (.astore 4, 2) := by decide +kernel
theorem dL_grantPerson_15 : decode cL_grantPerson 15 = .ok (.iconst 1, 1) := by decide +kernel
theorem dL_grantPerson_16 : decode cL_grantPerson 16 = .ok (.ireturn, 1) := by decide +kernel
theorem dL_grantPerson_17 : decode cL_grantPerson 17 = .ok (.astore 4, 2) := by decide +kernel
theorem dL_grantPerson_19 : decode cL_grantPerson 19 = .ok (.iconst 2, 1) := by decide +kernel
theorem dL_grantPerson_20 : decode cL_grantPerson 20 = .ok (.ireturn, 1) := by decide +kernel
theorem dL_grantPerson_21 : decode cL_grantPerson 21 = .ok (.iconst 0, 1) := by decide +kernel
theorem dL_grantPerson_22 : decode cL_grantPerson 22 = .ok (.ireturn, 1) := by decide +kernel
set_option maxRecDepth 20000 in
theorem ggL_grantGroup_X6_grantGroup : GoodIn wsL_grantGroup wsX6_grantGroup := goodIn_ca (goodIn_ca (goodIn_ca (goodIn_r _ [6, 7, 8, 9, 10, 11, 5, 12, 13, 14, 15, 16, 17, 18, 19, 20, 21, 22, 23, 24, 25, 26, 27, 28, 29, 30, 31, 32, 33, 34, 35, 36, 37, 38, 39, 40, 41, 42, 43, 44, 45, 46, 47, 48, 49, 50, 51, 52, 53, 54, 55, 56, 57, 58, 59, 60, 61, 62, 63, 64, 65, 66, 67, 68, 69, 70, 71, 72, 73, 74, 75, 76, 77, 78, 79, 80, 81, 82, 83, 84] (by decide +kernel) (by decide +kernel)) (goodIn_sub (fun _ h => List.mem_cons_of_mem _ (List.mem_append_left _ (List.mem_append_right _ h))) (by decide +kernel))) (goodIn_sub (fun _ h => List.mem_cons_of_mem _ (List.mem_append_right _ h)) (by decide +kernel))) (goodIn_sub (fun _ h => List.mem_cons_of_mem _ (List.mem_append_left _ (List.mem_append_left _ (List.mem_append_right _ h)))) (by decide +kernel))
set_option maxRecDepth 20000 in
theorem gL_grantGroup_X6_grantGroup : GoodIn wsL_grantGroup (wsV RL 48 RX6 yX6_grantGroup wsX6_grantGroup) := goodIn_app (goodIn_of _ (by decide +kernel)) ggL_grantGroup_X6_grantGroup
theorem dL_grantGroup_0 : decode cL_grantGroup 0 = .ok (.aload_n 3, 1) := by decide +kernel
theorem dL_grantGroup_1 : decode cL_grantGroup 1 = .ok (.iconst 0, 1) := by decide +kernel
theorem dL_grantGroup_2 : decode cL_grantGroup 2 = .ok (.aload_n 0, 1) := by decide +kernel
theorem dL_grantGroup_3 : decode cL_grantGroup 3 = .ok (.iload_n 1, 1) := by decide +kernel
theorem dL_grantGroup_4 : decode cL_grantGroup 4 = .ok (.iload_n 2, 1) := by decide +kernel
theorem dL_grantGroup_5 : decode cL_grantGroup 5 = .ok (.invokevirtual 48, 3) := by decide +kernel
theorem dL_grantGroup_8 : decode cL_grantGroup 8 = .ok (.i2l, 1) := by decide +kernel
theorem dL_grantGroup_9 : decode cL_grantGroup 9 = .ok (.lastore, 1) := by decide +kernel
theorem dL_grantGroup_10 : decode cL_grantGroup 10 = .ok (.goto 11, 3) := by decide +kernel
theorem dL_grantGroup_13 : decode cL_grantGroup 13 = .ok (.astore 4, 2) := by decide +kernel
theorem dL_grantGroup_15 : decode cL_grantGroup 15 = .ok (.iconst 1, 1) := by decide +kernel
theorem dL_grantGroup_16 : decode cL_grantGroup 16 = .ok (.ireturn, 1) := by decide +kernel
theorem dL_grantGroup_17 : decode cL_grantGroup 17 = .ok (.astore 4, 2) := by decide +kernel
theorem dL_grantGroup_19 : decode cL_grantGroup 19 = .ok (.iconst 2, 1) := by decide +kernel
theorem dL_grantGroup_20 : decode cL_grantGroup 20 = .ok (.ireturn, 1) := by decide +kernel
theorem dL_grantGroup_21 : decode cL_grantGroup 21 = .ok (.iconst 0, 1) := by decide +kernel
theorem dL_grantGroup_22 : decode cL_grantGroup 22 = .ok (.ireturn, 1) := by decide +kernel
set_option maxRecDepth 20000 in
theorem ggL_use_X6_use : GoodIn wsL_use wsX6_use := goodIn_ca (goodIn_ca (goodIn_ca (goodIn_r _ [6, 7, 8, 9, 10, 11, 12, 13, 14, 15, 5, 16, 17, 18, 19, 20, 21, 22, 23, 24, 25, 26, 27, 28, 29, 30, 31, 32, 33, 34, 35, 36, 37, 38, 39, 40, 41, 42, 43, 44, 45, 46, 47, 48, 49, 50, 51, 52, 53, 54, 55, 56, 57, 58, 59, 60, 61, 62, 63, 64, 65, 66, 67, 68, 69, 70, 71, 72, 73, 74, 75, 76, 77, 78, 79, 80, 81, 82, 83, 84, 85, 86, 87, 88, 89, 90, 91, 92, 93, 94, 95, 96, 97, 98, 99, 100, 101, 102, 103] (by decide +kernel) (by decide +kernel)) (goodIn_sub (fun _ h => List.mem_cons_of_mem _ (List.mem_append_left _ (List.mem_append_right _ h))) (by decide +kernel))) (goodIn_sub (fun _ h => List.mem_cons_of_mem _ (List.mem_append_left _ (List.mem_append_left _ (List.mem_append_right _ h)))) (by decide +kernel))) (goodIn_sub (fun _ h => List.mem_cons_of_mem _ (List.mem_append_right _ h)) (by decide +kernel))
set_option maxRecDepth 20000 in
theorem gL_use_X6_use : GoodIn wsL_use (wsV RL 51 RX6 yX6_use wsX6_use) := goodIn_app (goodIn_of _ (by decide +kernel)) ggL_use_X6_use
theorem dL_use_0 : decode cL_use 0 = .ok (.aload_n 3, 1) := by decide +kernel
theorem dL_use_1 : decode cL_use 1 = .ok (.iconst 0, 1) := by decide +kernel
theorem dL_use_2 : decode cL_use 2 = .ok (.aload_n 0, 1) := by decide +kernel
theorem dL_use_3 : decode cL_use 3 = .ok (.iload_n 1, 1) := by decide +kernel
theorem dL_use_4 : decode cL_use 4 = .ok (.iload_n 2, 1) := by decide +kernel
theorem dL_use_5 : decode cL_use 5 = .ok (.invokevirtual 51, 3) := by decide +kernel
theorem dL_use_8 : decode cL_use 8 = .ok (.i2l, 1) := by decide +kernel
theorem dL_use_9 : decode cL_use 9 = .ok (.lastore, 1) := by decide +kernel
theorem dL_use_10 : decode cL_use 10 = .ok (.goto 11, 3) := by decide +kernel
theorem dL_use_13 : decode cL_use 13 = .ok (.astore 4, 2) := by decide +kernel
theorem dL_use_15 : decode cL_use 15 = .ok (.iconst 1, 1) := by decide +kernel
theorem dL_use_16 : decode cL_use 16 = .ok (.ireturn, 1) := by decide +kernel
theorem dL_use_17 : decode cL_use 17 = .ok (.astore 4, 2) := by decide +kernel
theorem dL_use_19 : decode cL_use 19 = .ok (.iconst 2, 1) := by decide +kernel
theorem dL_use_20 : decode cL_use 20 = .ok (.ireturn, 1) := by decide +kernel
theorem dL_use_21 : decode cL_use 21 = .ok (.iconst 0, 1) := by decide +kernel
theorem dL_use_22 : decode cL_use 22 = .ok (.ireturn, 1) := by decide +kernel
set_option maxRecDepth 20000 in
theorem ggL_pass_X6_pass : GoodIn wsL_pass wsX6_pass := goodIn_ca (goodIn_ca (goodIn_ca (goodIn_r _ [6, 7, 8, 9, 10, 11, 12, 13, 5, 14, 15, 16, 17, 18, 19, 20, 21, 22, 23, 24, 25, 26, 27, 28, 29, 30, 31, 32, 33, 34, 35, 36, 37, 38, 39, 40, 41, 42, 43, 44, 45, 46, 47, 48, 49, 50, 51, 52, 53, 54, 55, 56, 57, 58, 59, 60, 61, 62, 63, 64, 65, 66, 67, 68, 69, 70, 71, 72, 73, 74, 75, 76, 77, 78, 79, 80, 81, 82, 83, 84, 85, 86, 87, 88, 89, 90, 91, 92, 93, 94, 95, 96, 97, 98, 99, 100, 101, 102, 103, 104, 105, 106, 107, 108, 109, 110, 111, 112, 113, 114, 115, 116, 117, 118, 119, 120, 121, 122, 123, 124, 125, 126, 127, 128, 129, 130, 131, 132, 133, 134, 135, 136, 137, 138, 139, 140, 141, 142, 143, 144, 145, 146, 147, 148, 149, 150, 151, 152, 153, 154, 155, 156, 157, 158, 159, 160, 161, 162, 163, 164, 165, 166, 167, 168, 169, 170, 171, 172, 173, 174, 175, 176, 177, 178, 179, 180, 181, 182, 183, 184, 185, 186, 187, 188, 189, 190] (by decide +kernel) (by decide +kernel)) (goodIn_sub (fun _ h => List.mem_cons_of_mem _ (List.mem_append_left _ (List.mem_append_right _ h))) (by decide +kernel))) (goodIn_sub (fun _ h => List.mem_cons_of_mem _ (List.mem_append_left _ (List.mem_append_left _ (List.mem_append_right _ h)))) (by decide +kernel))) (goodIn_sub (fun _ h => List.mem_cons_of_mem _ (List.mem_append_right _ h)) (by decide +kernel))
set_option maxRecDepth 20000 in
theorem gL_pass_X6_pass : GoodIn wsL_pass (wsV RL 54 RX6 yX6_pass wsX6_pass) := goodIn_app (goodIn_of _ (by decide +kernel)) ggL_pass_X6_pass
theorem dL_pass_0 : decode cL_pass 0 = .ok (.aload_n 2, 1) := by decide +kernel
theorem dL_pass_1 : decode cL_pass 1 = .ok (.iconst 0, 1) := by decide +kernel
theorem dL_pass_2 : decode cL_pass 2 = .ok (.aload_n 0, 1) := by decide +kernel
theorem dL_pass_3 : decode cL_pass 3 = .ok (.iload_n 1, 1) := by decide +kernel
theorem dL_pass_4 : decode cL_pass 4 = .ok (.invokevirtual 54, 3) := by decide +kernel
theorem dL_pass_7 : decode cL_pass 7 = .ok (.i2l, 1) := by decide +kernel
theorem dL_pass_8 : decode cL_pass 8 = .ok (.lastore, 1) := by decide +kernel
theorem dL_pass_9 : decode cL_pass 9 = .ok (.goto 6, 3) := by decide +kernel
theorem dL_pass_12 : decode cL_pass 12 = .ok (.astore_n 3, 1) := by decide +kernel
theorem dL_pass_13 : decode cL_pass 13 = .ok (.iconst 1, 1) := by decide +kernel
theorem dL_pass_14 : decode cL_pass 14 = .ok (.ireturn, 1) := by decide +kernel
theorem dL_pass_15 : decode cL_pass 15 = .ok (.iconst 0, 1) := by decide +kernel
theorem dL_pass_16 : decode cL_pass 16 = .ok (.ireturn, 1) := by decide +kernel
set_option maxRecDepth 20000 in
theorem ggL_setLimit_X6_setLimit : GoodIn wsL_setLimit wsX6_setLimit := goodIn_ca (goodIn_r _ [6, 7, 8, 9, 10, 11, 12, 13, 14, 15, 16, 17, 18] (by decide +kernel) (by decide +kernel)) (goodIn_sub (fun _ h => List.mem_cons_of_mem _ (List.mem_append_right _ h)) (by decide +kernel))
set_option maxRecDepth 20000 in
theorem gL_setLimit_X6_setLimit : GoodIn wsL_setLimit (wsV RL 57 RX6 yX6_setLimit wsX6_setLimit) := goodIn_app (goodIn_of _ (by decide +kernel)) ggL_setLimit_X6_setLimit
theorem dL_setLimit_0 : decode cL_setLimit 0 = .ok (.aload_n 2, 1) := by decide +kernel
theorem dL_setLimit_1 : decode cL_setLimit 1 = .ok (.iconst 0, 1) := by decide +kernel
theorem dL_setLimit_2 : decode cL_setLimit 2 = .ok (.aload_n 0, 1) := by decide +kernel
theorem dL_setLimit_3 : decode cL_setLimit 3 = .ok (.iload_n 1, 1) := by decide +kernel
theorem dL_setLimit_4 : decode cL_setLimit 4 = .ok (.invokevirtual 57, 3) := by decide +kernel
theorem dL_setLimit_7 : decode cL_setLimit 7 = .ok (.i2l, 1) := by decide +kernel
theorem dL_setLimit_8 : decode cL_setLimit 8 = .ok (.lastore, 1) := by decide +kernel
theorem dL_setLimit_9 : decode cL_setLimit 9 = .ok (.goto 6, 3) := by decide +kernel
theorem dL_setLimit_12 : decode cL_setLimit 12 = .ok (.astore_n 3, 1) := by decide +kernel
theorem dL_setLimit_13 : decode cL_setLimit 13 = .ok (.iconst 1, 1) := by decide +kernel
theorem dL_setLimit_14 : decode cL_setLimit 14 = .ok (.ireturn, 1) := by decide +kernel
theorem dL_setLimit_15 : decode cL_setLimit 15 = .ok (.iconst 0, 1) := by decide +kernel
theorem dL_setLimit_16 : decode cL_setLimit 16 = .ok (.ireturn, 1) := by decide +kernel
set_option maxRecDepth 20000 in
theorem ggL_setGrace_X6_setGrace : GoodIn wsL_setGrace wsX6_setGrace := goodIn_ca (goodIn_r _ [6, 7, 8, 9, 10, 11, 12, 13, 14, 15, 16, 17, 18] (by decide +kernel) (by decide +kernel)) (goodIn_sub (fun _ h => List.mem_cons_of_mem _ (List.mem_append_right _ h)) (by decide +kernel))
set_option maxRecDepth 20000 in
theorem gL_setGrace_X6_setGrace : GoodIn wsL_setGrace (wsV RL 60 RX6 yX6_setGrace wsX6_setGrace) := goodIn_app (goodIn_of _ (by decide +kernel)) ggL_setGrace_X6_setGrace
theorem dL_setGrace_0 : decode cL_setGrace 0 = .ok (.aload_n 2, 1) := by decide +kernel
theorem dL_setGrace_1 : decode cL_setGrace 1 = .ok (.iconst 0, 1) := by decide +kernel
theorem dL_setGrace_2 : decode cL_setGrace 2 = .ok (.aload_n 0, 1) := by decide +kernel
theorem dL_setGrace_3 : decode cL_setGrace 3 = .ok (.iload_n 1, 1) := by decide +kernel
theorem dL_setGrace_4 : decode cL_setGrace 4 = .ok (.invokevirtual 60, 3) := by decide +kernel
theorem dL_setGrace_7 : decode cL_setGrace 7 = .ok (.i2l, 1) := by decide +kernel
theorem dL_setGrace_8 : decode cL_setGrace 8 = .ok (.lastore, 1) := by decide +kernel
theorem dL_setGrace_9 : decode cL_setGrace 9 = .ok (.goto 6, 3) := by decide +kernel
theorem dL_setGrace_12 : decode cL_setGrace 12 = .ok (.astore_n 3, 1) := by decide +kernel
theorem dL_setGrace_13 : decode cL_setGrace 13 = .ok (.iconst 1, 1) := by decide +kernel
theorem dL_setGrace_14 : decode cL_setGrace 14 = .ok (.ireturn, 1) := by decide +kernel
theorem dL_setGrace_15 : decode cL_setGrace 15 = .ok (.iconst 0, 1) := by decide +kernel
theorem dL_setGrace_16 : decode cL_setGrace 16 = .ok (.ireturn, 1) := by decide +kernel
set_option maxRecDepth 20000 in
theorem ggL_openCampaign_X6_openCampaign : GoodIn wsL_openCampaign wsX6_openCampaign := goodIn_ca (goodIn_ca (goodIn_ca (goodIn_r _ [6, 7, 8, 9, 10, 11, 12, 13, 14, 15, 16, 17, 18, 5, 19, 20, 21, 22, 23, 24, 25, 26, 27, 28, 29, 30, 31, 32, 33, 34, 35, 36, 37, 38, 39, 40, 41, 42, 43, 44, 45, 46, 47, 48, 49, 50, 51, 52, 53, 54, 55, 56, 57, 58, 59, 60, 61, 62, 63, 64, 65, 66] (by decide +kernel) (by decide +kernel)) (goodIn_sub (fun _ h => List.mem_cons_of_mem _ (List.mem_append_left _ (List.mem_append_right _ h))) (by decide +kernel))) (goodIn_sub (fun _ h => List.mem_cons_of_mem _ (List.mem_append_left _ (List.mem_append_left _ (List.mem_append_right _ h)))) (by decide +kernel))) (goodIn_sub (fun _ h => List.mem_cons_of_mem _ (List.mem_append_right _ h)) (by decide +kernel))
set_option maxRecDepth 20000 in
theorem gL_openCampaign_X6_openCampaign : GoodIn wsL_openCampaign (wsV RL 63 RX6 yX6_openCampaign wsX6_openCampaign) := goodIn_app (goodIn_of _ (by decide +kernel)) ggL_openCampaign_X6_openCampaign
theorem dL_openCampaign_0 : decode cL_openCampaign 0 = .ok (.aload_n 2, 1) := by decide +kernel
theorem dL_openCampaign_1 : decode cL_openCampaign 1 = .ok (.iconst 0, 1) := by decide +kernel
theorem dL_openCampaign_2 : decode cL_openCampaign 2 = .ok (.aload_n 0, 1) := by decide +kernel
theorem dL_openCampaign_3 : decode cL_openCampaign 3 = .ok (.iload_n 1, 1) := by decide +kernel
theorem dL_openCampaign_4 : decode cL_openCampaign 4 = .ok (.invokevirtual 63, 3) := by decide +kernel
theorem dL_openCampaign_7 : decode cL_openCampaign 7 = .ok (.i2l, 1) := by decide +kernel
theorem dL_openCampaign_8 : decode cL_openCampaign 8 = .ok (.lastore, 1) := by decide +kernel
theorem dL_openCampaign_9 : decode cL_openCampaign 9 = .ok (.goto 9, 3) := by decide +kernel
theorem dL_openCampaign_12 : decode cL_openCampaign 12 = .ok (.astore_n 3, 1) := by decide +kernel
theorem dL_openCampaign_13 : decode cL_openCampaign 13 = .ok (.iconst 1, 1) := by decide +kernel
theorem dL_openCampaign_14 : decode cL_openCampaign 14 = .ok (.ireturn, 1) := by decide +kernel
theorem dL_openCampaign_15 : decode cL_openCampaign 15 = .ok (.astore_n 3, 1) := by decide +kernel
theorem dL_openCampaign_16 : decode cL_openCampaign 16 = .ok (.iconst 2, 1) := by decide +kernel
theorem dL_openCampaign_17 : decode cL_openCampaign 17 = .ok (.ireturn, 1) := by decide +kernel
theorem dL_openCampaign_18 : decode cL_openCampaign 18 = .ok (.iconst 0, 1) := by decide +kernel
theorem dL_openCampaign_19 : decode cL_openCampaign 19 = .ok (.ireturn, 1) := by decide +kernel
set_option maxRecDepth 20000 in
theorem ggL_answer_X6_answer : GoodIn wsL_answer wsX6_answer := goodIn_ca (goodIn_ca (goodIn_ca (goodIn_ca (goodIn_ca (goodIn_r _ [6, 7, 8, 9, 10, 11, 12, 13, 14, 15, 16, 17, 18, 19, 5, 20, 21, 22, 23, 24, 25, 26, 27, 28, 29, 30, 31, 32, 33, 34, 35, 36, 37, 38, 39, 40, 41, 42, 43, 44, 45, 46, 47, 48, 49, 50, 51, 52, 53, 54, 55, 56, 57, 58, 59, 60, 61, 62, 63, 64, 65, 66, 67, 68, 69, 70, 71, 72, 73, 74, 75, 76, 77, 78, 79, 80, 81, 82, 83, 84, 85, 86, 87, 88, 89, 90, 91, 92, 93, 94, 95, 96, 97, 98, 99, 100, 101, 102, 103, 104, 105, 106, 107, 108, 109, 110, 111, 112, 113, 114, 115, 116, 117, 118, 119, 120, 121, 122, 123, 124, 125, 126, 127, 128, 129, 130, 131, 132, 133, 134, 135, 136, 137, 138, 139, 140, 141, 142, 143, 144, 145, 146, 147, 148, 149, 150, 151, 152, 153, 154, 155, 156, 157, 158, 159, 160, 161, 162, 163, 164, 165, 166, 167, 168, 169, 170, 171, 172, 173, 174, 175, 176, 177, 178, 179, 180, 181, 182, 183, 184, 185, 186, 187, 188, 189, 190, 191, 192, 193] (by decide +kernel) (by decide +kernel)) (goodIn_sub (fun _ h => List.mem_cons_of_mem _ (List.mem_append_left _ (List.mem_append_left _ (List.mem_append_left _ (List.mem_append_right _ h))))) (by decide +kernel))) (goodIn_sub (fun _ h => List.mem_cons_of_mem _ (List.mem_append_left _ (List.mem_append_left _ (List.mem_append_right _ h)))) (by decide +kernel))) (goodIn_sub (fun _ h => List.mem_cons_of_mem _ (List.mem_append_left _ (List.mem_append_left _ (List.mem_append_left _ (List.mem_append_left _ (List.mem_append_right _ h)))))) (by decide +kernel))) (goodIn_sub (fun _ h => List.mem_cons_of_mem _ (List.mem_append_left _ (List.mem_append_right _ h))) (by decide +kernel))) (goodIn_sub (fun _ h => List.mem_cons_of_mem _ (List.mem_append_right _ h)) (by decide +kernel))
set_option maxRecDepth 20000 in
theorem gL_answer_X6_answer : GoodIn wsL_answer (wsV RL 66 RX6 yX6_answer wsX6_answer) := goodIn_app (goodIn_of _ (by decide +kernel)) ggL_answer_X6_answer
theorem dL_answer_0 : decode cL_answer 0 = .ok (.aload 4, 2) := by decide +kernel
theorem dL_answer_2 : decode cL_answer 2 = .ok (.iconst 0, 1) := by decide +kernel
theorem dL_answer_3 : decode cL_answer 3 = .ok (.aload_n 0, 1) := by decide +kernel
theorem dL_answer_4 : decode cL_answer 4 = .ok (.iload_n 1, 1) := by decide +kernel
theorem dL_answer_5 : decode cL_answer 5 = .ok (.iload_n 2, 1) := by decide +kernel
theorem dL_answer_6 : decode cL_answer 6 = .ok (.iload_n 3, 1) := by decide +kernel
theorem dL_answer_7 : decode cL_answer 7 = .ok (.invokevirtual 66, 3) := by decide +kernel
theorem dL_answer_10 : decode cL_answer 10 = .ok (.i2l, 1) := by decide +kernel
theorem dL_answer_11 : decode cL_answer 11 = .ok (.lastore, 1) := by decide +kernel
theorem dL_answer_12 : decode cL_answer 12 = .ok (.goto 19, 3) := by decide +kernel
theorem dL_answer_15 : decode cL_answer 15 = .ok (.astore 5, 2) := by decide +kernel
theorem dL_answer_17 : decode cL_answer 17 = .ok (.iconst 1, 1) := by decide +kernel
theorem dL_answer_18 : decode cL_answer 18 = .ok (.ireturn, 1) := by decide +kernel
theorem dL_answer_19 : decode cL_answer 19 = .ok (.astore 5, 2) := by decide +kernel
theorem dL_answer_21 : decode cL_answer 21 = .ok (.iconst 2, 1) := by decide +kernel
theorem dL_answer_22 : decode cL_answer 22 = .ok (.ireturn, 1) := by decide +kernel
theorem dL_answer_23 : decode cL_answer 23 = .ok (.astore 5, 2) := by decide +kernel
theorem dL_answer_25 : decode cL_answer 25 = .ok (.iconst 3, 1) := by decide +kernel
theorem dL_answer_26 : decode cL_answer 26 = .ok (.ireturn, 1) := by decide +kernel
theorem dL_answer_27 : decode cL_answer 27 = .ok (.astore 5, 2) := by decide +kernel
theorem dL_answer_29 : decode cL_answer 29 = .ok (.iconst 4, 1) := by decide +kernel
theorem dL_answer_30 : decode cL_answer 30 = .ok (.ireturn, 1) := by decide +kernel
theorem dL_answer_31 : decode cL_answer 31 = .ok (.iconst 0, 1) := by decide +kernel
theorem dL_answer_32 : decode cL_answer 32 = .ok (.ireturn, 1) := by decide +kernel
set_option maxRecDepth 20000 in
theorem ggL_standIn_X6_standIn : GoodIn wsL_standIn wsX6_standIn := goodIn_ca (goodIn_ca (goodIn_r _ [6, 7, 8, 9, 10, 5, 11, 12, 13, 14, 15, 16, 17, 18, 19, 20, 21, 22, 23, 24, 25, 26, 27, 28, 29, 30, 31, 32, 33, 34, 35, 36, 37, 38, 39, 40] (by decide +kernel) (by decide +kernel)) (goodIn_sub (fun _ h => List.mem_cons_of_mem _ (List.mem_append_right _ h)) (by decide +kernel))) (goodIn_sub (fun _ h => List.mem_cons_of_mem _ (List.mem_append_left _ (List.mem_append_right _ h))) (by decide +kernel))
set_option maxRecDepth 20000 in
theorem gL_standIn_X6_standIn : GoodIn wsL_standIn (wsV RL 70 RX6 yX6_standIn wsX6_standIn) := goodIn_app (goodIn_of _ (by decide +kernel)) ggL_standIn_X6_standIn
theorem dL_standIn_0 : decode cL_standIn 0 = .ok (.aload_n 2, 1) := by decide +kernel
theorem dL_standIn_1 : decode cL_standIn 1 = .ok (.iconst 0, 1) := by decide +kernel
theorem dL_standIn_2 : decode cL_standIn 2 = .ok (.aload_n 0, 1) := by decide +kernel
theorem dL_standIn_3 : decode cL_standIn 3 = .ok (.iload_n 1, 1) := by decide +kernel
theorem dL_standIn_4 : decode cL_standIn 4 = .ok (.invokevirtual 70, 3) := by decide +kernel
theorem dL_standIn_7 : decode cL_standIn 7 = .ok (.i2l, 1) := by decide +kernel
theorem dL_standIn_8 : decode cL_standIn 8 = .ok (.lastore, 1) := by decide +kernel
theorem dL_standIn_9 : decode cL_standIn 9 = .ok (.goto 6, 3) := by decide +kernel
theorem dL_standIn_12 : decode cL_standIn 12 = .ok (.astore_n 3, 1) := by decide +kernel
theorem dL_standIn_13 : decode cL_standIn 13 = .ok (.iconst 1, 1) := by decide +kernel
theorem dL_standIn_14 : decode cL_standIn 14 = .ok (.ireturn, 1) := by decide +kernel
theorem dL_standIn_15 : decode cL_standIn 15 = .ok (.iconst 0, 1) := by decide +kernel
theorem dL_standIn_16 : decode cL_standIn 16 = .ok (.ireturn, 1) := by decide +kernel
set_option maxRecDepth 20000 in
theorem ggL_isMember_X6_isMember : GoodIn wsL_isMember wsX6_isMember := goodIn_ca (goodIn_ca (goodIn_r _ [6, 7, 8, 9, 10, 11, 5, 12, 13, 14, 15, 16, 17, 18, 19, 20, 21, 22, 23, 24, 25, 26, 27, 28, 29, 30, 31, 32, 33, 34, 35, 36, 37, 38, 39, 40, 41, 42, 43, 44, 45, 46, 47, 48, 49, 50, 51, 52, 53, 54, 55, 56] (by decide +kernel) (by decide +kernel)) (goodIn_sub (fun _ h => List.mem_cons_of_mem _ (List.mem_append_left _ (List.mem_append_right _ h))) (by decide +kernel))) (goodIn_sub (fun _ h => List.mem_cons_of_mem _ (List.mem_append_right _ h)) (by decide +kernel))
set_option maxRecDepth 20000 in
theorem gL_isMember_X6_isMember : GoodIn wsL_isMember (wsV RL 73 RX6 yX6_isMember wsX6_isMember) := goodIn_app (goodIn_of _ (by decide +kernel)) ggL_isMember_X6_isMember
theorem dL_isMember_0 : decode cL_isMember 0 = .ok (.aload_n 3, 1) := by decide +kernel
theorem dL_isMember_1 : decode cL_isMember 1 = .ok (.iconst 0, 1) := by decide +kernel
theorem dL_isMember_2 : decode cL_isMember 2 = .ok (.aload_n 0, 1) := by decide +kernel
theorem dL_isMember_3 : decode cL_isMember 3 = .ok (.iload_n 1, 1) := by decide +kernel
theorem dL_isMember_4 : decode cL_isMember 4 = .ok (.iload_n 2, 1) := by decide +kernel
theorem dL_isMember_5 : decode cL_isMember 5 = .ok (.invokevirtual 73, 3) := by decide +kernel
theorem dL_isMember_8 : decode cL_isMember 8 = .ok (.ifCond .eq 7, 3) := by decide +kernel
theorem dL_isMember_11 : decode cL_isMember 11 = .ok (.lconst 1, 1) := by decide +kernel
theorem dL_isMember_12 : decode cL_isMember 12 = .ok (.goto 4, 3) := by decide +kernel
theorem dL_isMember_15 : decode cL_isMember 15 = .ok (.lconst 0, 1) := by decide +kernel
theorem dL_isMember_16 : decode cL_isMember 16 = .ok (.lastore, 1) := by decide +kernel
theorem dL_isMember_17 : decode cL_isMember 17 = .ok (.goto 7, 3) := by decide +kernel
theorem dL_isMember_20 : decode cL_isMember 20 = .ok (.astore 4, 2) := by decide +kernel
theorem dL_isMember_22 : decode cL_isMember 22 = .ok (.iconst 1, 1) := by decide +kernel
theorem dL_isMember_23 : decode cL_isMember 23 = .ok (.ireturn, 1) := by decide +kernel
theorem dL_isMember_24 : decode cL_isMember 24 = .ok (.iconst 0, 1) := by decide +kernel
theorem dL_isMember_25 : decode cL_isMember 25 = .ok (.ireturn, 1) := by decide +kernel
set_option maxRecDepth 20000 in
theorem ggL_members_X6_members : GoodIn wsL_members wsX6_members := goodIn_ca (goodIn_ca (goodIn_r _ [6, 7, 8, 9, 10, 11, 5, 12, 13, 14, 15, 16, 17, 18, 19, 20, 21, 22, 23, 24, 25, 26, 27, 28, 29, 30, 31, 32, 33, 34, 35, 36, 37, 38, 39, 40, 41] (by decide +kernel) (by decide +kernel)) (goodIn_sub (fun _ h => List.mem_cons_of_mem _ (List.mem_append_left _ (List.mem_append_right _ h))) (by decide +kernel))) (goodIn_sub (fun _ h => List.mem_cons_of_mem _ (List.mem_append_right _ h)) (by decide +kernel))
set_option maxRecDepth 20000 in
theorem gL_members_X6_members : GoodIn wsL_members (wsV RL 77 RX6 yX6_members wsX6_members) := goodIn_app (goodIn_of _ (by decide +kernel)) ggL_members_X6_members
theorem dL_members_0 : decode cL_members 0 = .ok (.aload_n 2, 1) := by decide +kernel
theorem dL_members_1 : decode cL_members 1 = .ok (.iconst 0, 1) := by decide +kernel
theorem dL_members_2 : decode cL_members 2 = .ok (.aload_n 0, 1) := by decide +kernel
theorem dL_members_3 : decode cL_members 3 = .ok (.iload_n 1, 1) := by decide +kernel
theorem dL_members_4 : decode cL_members 4 = .ok (.invokevirtual 77, 3) := by decide +kernel
theorem dL_members_7 : decode cL_members 7 = .ok (.i2l, 1) := by decide +kernel
theorem dL_members_8 : decode cL_members 8 = .ok (.lastore, 1) := by decide +kernel
theorem dL_members_9 : decode cL_members 9 = .ok (.goto 6, 3) := by decide +kernel
theorem dL_members_12 : decode cL_members 12 = .ok (.astore_n 3, 1) := by decide +kernel
theorem dL_members_13 : decode cL_members 13 = .ok (.iconst 1, 1) := by decide +kernel
theorem dL_members_14 : decode cL_members 14 = .ok (.ireturn, 1) := by decide +kernel
theorem dL_members_15 : decode cL_members 15 = .ok (.iconst 0, 1) := by decide +kernel
theorem dL_members_16 : decode cL_members 16 = .ok (.ireturn, 1) := by decide +kernel
set_option maxRecDepth 20000 in
theorem ggL_holds_X6_holds : GoodIn wsL_holds wsX6_holds := goodIn_ca (goodIn_ca (goodIn_r _ [6, 7, 8, 9, 5, 10, 11, 12, 13, 14, 15, 16, 17, 18, 19, 20, 21, 22, 23, 24, 25, 26, 27, 28, 29, 30, 31, 32, 33, 34, 35, 36, 37, 38, 39, 40, 41, 42, 43, 44, 45, 46, 47, 48, 49, 50, 51, 52, 53, 54, 55, 56, 57, 58, 59, 60, 61, 62, 63, 64, 65, 66, 67, 68, 69, 70, 71, 72, 73, 74, 75, 76, 77, 78, 79, 80, 81, 82, 83, 84, 85, 86, 87, 88, 89, 90, 91, 92, 93, 94, 95, 96, 97, 98, 99] (by decide +kernel) (by decide +kernel)) (goodIn_sub (fun _ h => List.mem_cons_of_mem _ (List.mem_append_right _ h)) (by decide +kernel))) (goodIn_sub (fun _ h => List.mem_cons_of_mem _ (List.mem_append_left _ (List.mem_append_right _ h))) (by decide +kernel))
set_option maxRecDepth 20000 in
theorem gL_holds_X6_holds : GoodIn wsL_holds (wsV RL 80 RX6 yX6_holds wsX6_holds) := goodIn_app (goodIn_of _ (by decide +kernel)) ggL_holds_X6_holds
theorem dL_holds_0 : decode cL_holds 0 = .ok (.aload_n 3, 1) := by decide +kernel
theorem dL_holds_1 : decode cL_holds 1 = .ok (.iconst 0, 1) := by decide +kernel
theorem dL_holds_2 : decode cL_holds 2 = .ok (.aload_n 0, 1) := by decide +kernel
theorem dL_holds_3 : decode cL_holds 3 = .ok (.iload_n 1, 1) := by decide +kernel
theorem dL_holds_4 : decode cL_holds 4 = .ok (.iload_n 2, 1) := by decide +kernel
theorem dL_holds_5 : decode cL_holds 5 = .ok (.invokevirtual 80, 3) := by decide +kernel
theorem dL_holds_8 : decode cL_holds 8 = .ok (.ifCond .eq 7, 3) := by decide +kernel
theorem dL_holds_11 : decode cL_holds 11 = .ok (.lconst 1, 1) := by decide +kernel
theorem dL_holds_12 : decode cL_holds 12 = .ok (.goto 4, 3) := by decide +kernel
theorem dL_holds_15 : decode cL_holds 15 = .ok (.lconst 0, 1) := by decide +kernel
theorem dL_holds_16 : decode cL_holds 16 = .ok (.lastore, 1) := by decide +kernel
theorem dL_holds_17 : decode cL_holds 17 = .ok (.goto 7, 3) := by decide +kernel
theorem dL_holds_20 : decode cL_holds 20 = .ok (.astore 4, 2) := by decide +kernel
theorem dL_holds_22 : decode cL_holds 22 = .ok (.iconst 1, 1) := by decide +kernel
theorem dL_holds_23 : decode cL_holds 23 = .ok (.ireturn, 1) := by decide +kernel
theorem dL_holds_24 : decode cL_holds 24 = .ok (.iconst 0, 1) := by decide +kernel
theorem dL_holds_25 : decode cL_holds 25 = .ok (.ireturn, 1) := by decide +kernel
set_option maxRecDepth 20000 in
theorem ggL_holdsByPaths_X6_holdsByPaths : GoodIn wsL_holdsByPaths wsX6_holdsByPaths := goodIn_ca (goodIn_ca (goodIn_r _ [6, 7, 8, 9, 10, 11, 5, 12, 13, 14, 15, 16, 17, 18, 19, 20, 21, 22, 23, 24, 25, 26, 27, 28, 29, 30, 31, 32, 33, 34, 35, 36, 37, 38, 39, 40, 41, 42, 43, 44, 45, 46, 47, 48, 49, 50, 51, 52, 53, 54, 55, 56, 57, 58, 59, 60, 61, 62, 63, 64, 65, 66, 67, 68, 69, 70, 71, 72, 73, 74, 75, 76, 77, 78, 79, 80, 81, 82, 83, 84, 85, 86, 87, 88, 89, 90, 91, 92, 93, 94] (by decide +kernel) (by decide +kernel)) (goodIn_sub (fun _ h => List.mem_cons_of_mem _ (List.mem_append_left _ (List.mem_append_right _ h))) (by decide +kernel))) (goodIn_sub (fun _ h => List.mem_cons_of_mem _ (List.mem_append_right _ h)) (by decide +kernel))
set_option maxRecDepth 20000 in
theorem gL_holdsByPaths_X6_holdsByPaths : GoodIn wsL_holdsByPaths (wsV RL 83 RX6 yX6_holdsByPaths wsX6_holdsByPaths) := goodIn_app (goodIn_of _ (by decide +kernel)) ggL_holdsByPaths_X6_holdsByPaths
theorem dL_holdsByPaths_0 : decode cL_holdsByPaths 0 = .ok (.aload_n 3, 1) := by decide +kernel
theorem dL_holdsByPaths_1 : decode cL_holdsByPaths 1 = .ok (.iconst 0, 1) := by decide +kernel
theorem dL_holdsByPaths_2 : decode cL_holdsByPaths 2 = .ok (.aload_n 0, 1) := by decide +kernel
theorem dL_holdsByPaths_3 : decode cL_holdsByPaths 3 = .ok (.iload_n 1, 1) := by decide +kernel
theorem dL_holdsByPaths_4 : decode cL_holdsByPaths 4 = .ok (.iload_n 2, 1) := by decide +kernel
theorem dL_holdsByPaths_5 : decode cL_holdsByPaths 5 = .ok (.invokevirtual 83, 3) := by decide +kernel
theorem dL_holdsByPaths_8 : decode cL_holdsByPaths 8 = .ok (.ifCond .eq 7, 3) := by decide +kernel
theorem dL_holdsByPaths_11 : decode cL_holdsByPaths 11 = .ok (.lconst 1, 1) := by decide +kernel
theorem dL_holdsByPaths_12 : decode cL_holdsByPaths 12 = .ok (.goto 4, 3) := by decide +kernel
theorem dL_holdsByPaths_15 : decode cL_holdsByPaths 15 = .ok (.lconst 0, 1) := by decide +kernel
theorem dL_holdsByPaths_16 : decode cL_holdsByPaths 16 = .ok (.lastore, 1) := by decide +kernel
theorem dL_holdsByPaths_17 : decode cL_holdsByPaths 17 = .ok (.goto 7, 3) := by decide +kernel
theorem dL_holdsByPaths_20 : decode cL_holdsByPaths 20 = .ok (.astore 4, 2) := by decide +kernel
theorem dL_holdsByPaths_22 : decode cL_holdsByPaths 22 = .ok (.iconst 1, 1) := by decide +kernel
theorem dL_holdsByPaths_23 : decode cL_holdsByPaths 23 = .ok (.ireturn, 1) := by decide +kernel
theorem dL_holdsByPaths_24 : decode cL_holdsByPaths 24 = .ok (.iconst 0, 1) := by decide +kernel
theorem dL_holdsByPaths_25 : decode cL_holdsByPaths 25 = .ok (.ireturn, 1) := by decide +kernel
set_option maxRecDepth 20000 in
theorem ggL_rightsOf_X6_rightsOf : GoodIn wsL_rightsOf wsX6_rightsOf := goodIn_ca (goodIn_ca (goodIn_r _ [6, 7, 8, 9, 5, 10, 11, 12, 13, 14, 15, 16, 17, 18, 19, 20, 21, 22, 23, 24, 25, 26, 27, 28, 29, 30, 31, 32, 33, 34, 35, 36, 37, 38, 39, 40, 41, 42, 43, 44, 45, 46, 47, 48, 49, 50, 51, 52, 53, 54, 55, 56, 57, 58, 59, 60, 61, 62, 63, 64, 65, 66, 67, 68, 69, 70, 71, 72, 73, 74, 75, 76, 77, 78, 79, 80, 81, 82, 83, 84, 85, 86, 87, 88, 89, 90, 91, 92, 93, 94, 95, 96, 97, 98, 99, 100, 101] (by decide +kernel) (by decide +kernel)) (goodIn_sub (fun _ h => List.mem_cons_of_mem _ (List.mem_append_right _ h)) (by decide +kernel))) (goodIn_sub (fun _ h => List.mem_cons_of_mem _ (List.mem_append_left _ (List.mem_append_right _ h))) (by decide +kernel))
set_option maxRecDepth 20000 in
theorem gL_rightsOf_X6_rightsOf : GoodIn wsL_rightsOf (wsV RL 86 RX6 yX6_rightsOf wsX6_rightsOf) := goodIn_app (goodIn_of _ (by decide +kernel)) ggL_rightsOf_X6_rightsOf
theorem dL_rightsOf_0 : decode cL_rightsOf 0 = .ok (.aload_n 2, 1) := by decide +kernel
theorem dL_rightsOf_1 : decode cL_rightsOf 1 = .ok (.iconst 0, 1) := by decide +kernel
theorem dL_rightsOf_2 : decode cL_rightsOf 2 = .ok (.aload_n 0, 1) := by decide +kernel
theorem dL_rightsOf_3 : decode cL_rightsOf 3 = .ok (.iload_n 1, 1) := by decide +kernel
theorem dL_rightsOf_4 : decode cL_rightsOf 4 = .ok (.invokevirtual 86, 3) := by decide +kernel
theorem dL_rightsOf_7 : decode cL_rightsOf 7 = .ok (.i2l, 1) := by decide +kernel
theorem dL_rightsOf_8 : decode cL_rightsOf 8 = .ok (.lastore, 1) := by decide +kernel
theorem dL_rightsOf_9 : decode cL_rightsOf 9 = .ok (.goto 6, 3) := by decide +kernel
theorem dL_rightsOf_12 : decode cL_rightsOf 12 = .ok (.astore_n 3, 1) := by decide +kernel
theorem dL_rightsOf_13 : decode cL_rightsOf 13 = .ok (.iconst 1, 1) := by decide +kernel
theorem dL_rightsOf_14 : decode cL_rightsOf 14 = .ok (.ireturn, 1) := by decide +kernel
theorem dL_rightsOf_15 : decode cL_rightsOf 15 = .ok (.iconst 0, 1) := by decide +kernel
theorem dL_rightsOf_16 : decode cL_rightsOf 16 = .ok (.ireturn, 1) := by decide +kernel
set_option maxRecDepth 20000 in
theorem ggL_holdersOf_X6_holdersOf : GoodIn wsL_holdersOf wsX6_holdersOf := goodIn_ca (goodIn_ca (goodIn_r _ [6, 7, 8, 9, 5, 10, 11, 12, 13, 14, 15, 16, 17, 18, 19, 20, 21, 22, 23, 24, 25, 26, 27, 28, 29, 30, 31, 32, 33, 34, 35, 36, 37, 38, 39, 40, 41, 42, 43, 44, 45, 46, 47, 48, 49, 50, 51, 52, 53, 54, 55, 56, 57, 58, 59, 60, 61, 62, 63, 64, 65, 66, 67, 68, 69, 70, 71, 72, 73, 74, 75, 76, 77, 78, 79, 80, 81, 82, 83, 84, 85, 86, 87] (by decide +kernel) (by decide +kernel)) (goodIn_sub (fun _ h => List.mem_cons_of_mem _ (List.mem_append_right _ h)) (by decide +kernel))) (goodIn_sub (fun _ h => List.mem_cons_of_mem _ (List.mem_append_left _ (List.mem_append_right _ h))) (by decide +kernel))
set_option maxRecDepth 20000 in
theorem gL_holdersOf_X6_holdersOf : GoodIn wsL_holdersOf (wsV RL 89 RX6 yX6_holdersOf wsX6_holdersOf) := goodIn_app (goodIn_of _ (by decide +kernel)) ggL_holdersOf_X6_holdersOf
theorem dL_holdersOf_0 : decode cL_holdersOf 0 = .ok (.aload_n 2, 1) := by decide +kernel
theorem dL_holdersOf_1 : decode cL_holdersOf 1 = .ok (.iconst 0, 1) := by decide +kernel
theorem dL_holdersOf_2 : decode cL_holdersOf 2 = .ok (.aload_n 0, 1) := by decide +kernel
theorem dL_holdersOf_3 : decode cL_holdersOf 3 = .ok (.iload_n 1, 1) := by decide +kernel
theorem dL_holdersOf_4 : decode cL_holdersOf 4 = .ok (.invokevirtual 89, 3) := by decide +kernel
theorem dL_holdersOf_7 : decode cL_holdersOf 7 = .ok (.i2l, 1) := by decide +kernel
theorem dL_holdersOf_8 : decode cL_holdersOf 8 = .ok (.lastore, 1) := by decide +kernel
theorem dL_holdersOf_9 : decode cL_holdersOf 9 = .ok (.goto 6, 3) := by decide +kernel
theorem dL_holdersOf_12 : decode cL_holdersOf 12 = .ok (.astore_n 3, 1) := by decide +kernel
theorem dL_holdersOf_13 : decode cL_holdersOf 13 = .ok (.iconst 1, 1) := by decide +kernel
theorem dL_holdersOf_14 : decode cL_holdersOf 14 = .ok (.ireturn, 1) := by decide +kernel
theorem dL_holdersOf_15 : decode cL_holdersOf 15 = .ok (.iconst 0, 1) := by decide +kernel
theorem dL_holdersOf_16 : decode cL_holdersOf 16 = .ok (.ireturn, 1) := by decide +kernel
set_option maxRecDepth 20000 in
theorem ggL_rightBits_X6_rightBits : GoodIn wsL_rightBits wsX6_rightBits := goodIn_ca (goodIn_ca (goodIn_r _ [6, 7, 8, 9, 5, 10, 11, 12, 13, 14, 15, 16, 17, 18, 19, 20, 21, 22, 23, 24, 25, 26, 27, 28, 29, 30, 31, 32, 33, 34, 35, 36, 37, 38, 39, 40, 41, 42, 43, 44, 45, 46, 47, 48, 49, 50, 51, 52, 53, 54, 55, 56, 57, 58, 59, 60, 61, 62, 63, 64, 65, 66, 67, 68, 69, 70, 71, 72, 73, 74, 75, 76, 77, 78, 79, 80, 81, 82, 83, 84, 85, 86, 87, 88, 89, 90, 91, 92, 93, 94] (by decide +kernel) (by decide +kernel)) (goodIn_sub (fun _ h => List.mem_cons_of_mem _ (List.mem_append_right _ h)) (by decide +kernel))) (goodIn_sub (fun _ h => List.mem_cons_of_mem _ (List.mem_append_left _ (List.mem_append_right _ h))) (by decide +kernel))
set_option maxRecDepth 20000 in
theorem gL_rightBits_X6_rightBits : GoodIn wsL_rightBits (wsV RL 92 RX6 yX6_rightBits wsX6_rightBits) := goodIn_app (goodIn_of _ (by decide +kernel)) ggL_rightBits_X6_rightBits
theorem dL_rightBits_0 : decode cL_rightBits 0 = .ok (.aload_n 2, 1) := by decide +kernel
theorem dL_rightBits_1 : decode cL_rightBits 1 = .ok (.iconst 0, 1) := by decide +kernel
theorem dL_rightBits_2 : decode cL_rightBits 2 = .ok (.aload_n 0, 1) := by decide +kernel
theorem dL_rightBits_3 : decode cL_rightBits 3 = .ok (.iload_n 1, 1) := by decide +kernel
theorem dL_rightBits_4 : decode cL_rightBits 4 = .ok (.invokevirtual 92, 3) := by decide +kernel
theorem dL_rightBits_7 : decode cL_rightBits 7 = .ok (.i2l, 1) := by decide +kernel
theorem dL_rightBits_8 : decode cL_rightBits 8 = .ok (.lastore, 1) := by decide +kernel
theorem dL_rightBits_9 : decode cL_rightBits 9 = .ok (.goto 6, 3) := by decide +kernel
theorem dL_rightBits_12 : decode cL_rightBits 12 = .ok (.astore_n 3, 1) := by decide +kernel
theorem dL_rightBits_13 : decode cL_rightBits 13 = .ok (.iconst 1, 1) := by decide +kernel
theorem dL_rightBits_14 : decode cL_rightBits 14 = .ok (.ireturn, 1) := by decide +kernel
theorem dL_rightBits_15 : decode cL_rightBits 15 = .ok (.iconst 0, 1) := by decide +kernel
theorem dL_rightBits_16 : decode cL_rightBits 16 = .ok (.ireturn, 1) := by decide +kernel
set_option maxRecDepth 20000 in
theorem ggL_apart_X6_apart : GoodIn wsL_apart wsX6_apart := goodIn_ca (goodIn_ca (goodIn_r _ [6, 7, 8, 9, 5, 10, 11, 12, 13, 14, 15, 16, 17, 18, 19, 20, 21, 22, 23, 24, 25, 26, 27, 28, 29, 30, 31, 32, 33, 34, 35, 36, 37, 38, 39, 40, 41, 42, 43, 44, 45, 46, 47, 48, 49, 50, 51, 52, 53, 54, 55, 56, 57, 58, 59, 60, 61, 62, 63, 64, 65, 66, 67, 68, 69, 70, 71, 72, 73, 74, 75, 76, 77, 78, 79, 80, 81, 82, 83, 84, 85, 86, 87, 88, 89, 90, 91, 92, 93, 94, 95, 96, 97, 98, 99, 100, 101] (by decide +kernel) (by decide +kernel)) (goodIn_sub (fun _ h => List.mem_cons_of_mem _ (List.mem_append_right _ h)) (by decide +kernel))) (goodIn_sub (fun _ h => List.mem_cons_of_mem _ (List.mem_append_left _ (List.mem_append_right _ h))) (by decide +kernel))
set_option maxRecDepth 20000 in
theorem gL_apart_X6_apart : GoodIn wsL_apart (wsV RL 95 RX6 yX6_apart wsX6_apart) := goodIn_app (goodIn_of _ (by decide +kernel)) ggL_apart_X6_apart
theorem dL_apart_0 : decode cL_apart 0 = .ok (.aload_n 3, 1) := by decide +kernel
theorem dL_apart_1 : decode cL_apart 1 = .ok (.iconst 0, 1) := by decide +kernel
theorem dL_apart_2 : decode cL_apart 2 = .ok (.aload_n 0, 1) := by decide +kernel
theorem dL_apart_3 : decode cL_apart 3 = .ok (.iload_n 1, 1) := by decide +kernel
theorem dL_apart_4 : decode cL_apart 4 = .ok (.iload_n 2, 1) := by decide +kernel
theorem dL_apart_5 : decode cL_apart 5 = .ok (.invokevirtual 95, 3) := by decide +kernel
theorem dL_apart_8 : decode cL_apart 8 = .ok (.i2l, 1) := by decide +kernel
theorem dL_apart_9 : decode cL_apart 9 = .ok (.lastore, 1) := by decide +kernel
theorem dL_apart_10 : decode cL_apart 10 = .ok (.goto 7, 3) := by decide +kernel
theorem dL_apart_13 : decode cL_apart 13 = .ok (.astore 4, 2) := by decide +kernel
theorem dL_apart_15 : decode cL_apart 15 = .ok (.iconst 1, 1) := by decide +kernel
theorem dL_apart_16 : decode cL_apart 16 = .ok (.ireturn, 1) := by decide +kernel
theorem dL_apart_17 : decode cL_apart 17 = .ok (.iconst 0, 1) := by decide +kernel
theorem dL_apart_18 : decode cL_apart 18 = .ok (.ireturn, 1) := by decide +kernel
set_option maxRecDepth 20000 in
theorem ggL_isDenied_X6_isDenied : GoodIn wsL_isDenied wsX6_isDenied := goodIn_ca (goodIn_ca (goodIn_r _ [6, 7, 8, 9, 10, 11, 5, 12, 13, 14, 15, 16, 17, 18, 19, 20, 21, 22, 23, 24, 25, 26, 27, 28, 29, 30, 31, 32, 33, 34, 35, 36, 37, 38, 39, 40, 41, 42, 43, 44, 45, 46, 47, 48, 49, 50, 51, 52, 53, 54, 55, 56] (by decide +kernel) (by decide +kernel)) (goodIn_sub (fun _ h => List.mem_cons_of_mem _ (List.mem_append_left _ (List.mem_append_right _ h))) (by decide +kernel))) (goodIn_sub (fun _ h => List.mem_cons_of_mem _ (List.mem_append_right _ h)) (by decide +kernel))
set_option maxRecDepth 20000 in
theorem gL_isDenied_X6_isDenied : GoodIn wsL_isDenied (wsV RL 98 RX6 yX6_isDenied wsX6_isDenied) := goodIn_app (goodIn_of _ (by decide +kernel)) ggL_isDenied_X6_isDenied
theorem dL_isDenied_0 : decode cL_isDenied 0 = .ok (.aload_n 3, 1) := by decide +kernel
theorem dL_isDenied_1 : decode cL_isDenied 1 = .ok (.iconst 0, 1) := by decide +kernel
theorem dL_isDenied_2 : decode cL_isDenied 2 = .ok (.aload_n 0, 1) := by decide +kernel
theorem dL_isDenied_3 : decode cL_isDenied 3 = .ok (.iload_n 1, 1) := by decide +kernel
theorem dL_isDenied_4 : decode cL_isDenied 4 = .ok (.iload_n 2, 1) := by decide +kernel
theorem dL_isDenied_5 : decode cL_isDenied 5 = .ok (.invokevirtual 98, 3) := by decide +kernel
theorem dL_isDenied_8 : decode cL_isDenied 8 = .ok (.ifCond .eq 7, 3) := by decide +kernel
theorem dL_isDenied_11 : decode cL_isDenied 11 = .ok (.lconst 1, 1) := by decide +kernel
theorem dL_isDenied_12 : decode cL_isDenied 12 = .ok (.goto 4, 3) := by decide +kernel
theorem dL_isDenied_15 : decode cL_isDenied 15 = .ok (.lconst 0, 1) := by decide +kernel
theorem dL_isDenied_16 : decode cL_isDenied 16 = .ok (.lastore, 1) := by decide +kernel
theorem dL_isDenied_17 : decode cL_isDenied 17 = .ok (.goto 7, 3) := by decide +kernel
theorem dL_isDenied_20 : decode cL_isDenied 20 = .ok (.astore 4, 2) := by decide +kernel
theorem dL_isDenied_22 : decode cL_isDenied 22 = .ok (.iconst 1, 1) := by decide +kernel
theorem dL_isDenied_23 : decode cL_isDenied 23 = .ok (.ireturn, 1) := by decide +kernel
theorem dL_isDenied_24 : decode cL_isDenied 24 = .ok (.iconst 0, 1) := by decide +kernel
theorem dL_isDenied_25 : decode cL_isDenied 25 = .ok (.ireturn, 1) := by decide +kernel
set_option maxRecDepth 20000 in
theorem ggL_paths_X6_paths : GoodIn wsL_paths wsX6_paths := goodIn_ca (goodIn_ca (goodIn_r _ [6, 7, 8, 9, 5, 10, 11, 12, 13, 14, 15, 16, 17, 18, 19, 20, 21, 22, 23, 24, 25, 26, 27, 28, 29, 30, 31, 32, 33, 34, 35, 36, 37, 38, 39, 40, 41, 42, 43, 44, 45, 46, 47, 48, 49, 50, 51, 52, 53, 54, 55, 56, 57, 58, 59, 60, 61, 62, 63, 64, 65, 66, 67, 68, 69, 70, 71, 72, 73, 74, 75, 76, 77, 78, 79, 80, 81, 82, 83, 84, 85, 86, 87, 88, 89, 90, 91, 92] (by decide +kernel) (by decide +kernel)) (goodIn_sub (fun _ h => List.mem_cons_of_mem _ (List.mem_append_right _ h)) (by decide +kernel))) (goodIn_sub (fun _ h => List.mem_cons_of_mem _ (List.mem_append_left _ (List.mem_append_right _ h))) (by decide +kernel))
set_option maxRecDepth 20000 in
theorem gL_paths_X6_paths : GoodIn wsL_paths (wsV RL 101 RX6 yX6_paths wsX6_paths) := goodIn_app (goodIn_of _ (by decide +kernel)) ggL_paths_X6_paths
theorem dL_paths_0 : decode cL_paths 0 = .ok (.aload_n 3, 1) := by decide +kernel
theorem dL_paths_1 : decode cL_paths 1 = .ok (.iconst 0, 1) := by decide +kernel
theorem dL_paths_2 : decode cL_paths 2 = .ok (.aload_n 0, 1) := by decide +kernel
theorem dL_paths_3 : decode cL_paths 3 = .ok (.iload_n 1, 1) := by decide +kernel
theorem dL_paths_4 : decode cL_paths 4 = .ok (.iload_n 2, 1) := by decide +kernel
theorem dL_paths_5 : decode cL_paths 5 = .ok (.invokevirtual 101, 3) := by decide +kernel
theorem dL_paths_8 : decode cL_paths 8 = .ok (.i2l, 1) := by decide +kernel
theorem dL_paths_9 : decode cL_paths 9 = .ok (.lastore, 1) := by decide +kernel
theorem dL_paths_10 : decode cL_paths 10 = .ok (.goto 7, 3) := by decide +kernel
theorem dL_paths_13 : decode cL_paths 13 = .ok (.astore 4, 2) := by decide +kernel
theorem dL_paths_15 : decode cL_paths 15 = .ok (.iconst 1, 1) := by decide +kernel
theorem dL_paths_16 : decode cL_paths 16 = .ok (.ireturn, 1) := by decide +kernel
theorem dL_paths_17 : decode cL_paths 17 = .ok (.iconst 0, 1) := by decide +kernel
theorem dL_paths_18 : decode cL_paths 18 = .ok (.ireturn, 1) := by decide +kernel
set_option maxRecDepth 20000 in
theorem ggL_pathLength_X6_pathLength : GoodIn wsL_pathLength wsX6_pathLength := goodIn_ca (goodIn_ca (goodIn_ca (goodIn_r _ [6, 7, 8, 9, 10, 11, 5, 12, 13, 14, 15, 16, 17, 18, 19, 20, 21, 22, 23, 24, 25, 26, 27, 28, 29, 30, 31, 32, 33, 34, 35, 36, 37, 38, 39, 40, 41, 42, 43, 44, 45, 46, 47, 48, 49, 50, 51, 52, 53, 54, 55, 56, 57, 58, 59, 60, 61, 62, 63, 64, 65, 66, 67, 68, 69, 70, 71, 72, 73, 74, 75, 76, 77, 78, 79, 80, 81, 82, 83, 84, 85, 86, 87, 88, 89, 90, 91, 92, 93, 94, 95, 96, 97, 98, 99, 100, 101, 102, 103, 104] (by decide +kernel) (by decide +kernel)) (goodIn_sub (fun _ h => List.mem_cons_of_mem _ (List.mem_append_left _ (List.mem_append_right _ h))) (by decide +kernel))) (goodIn_sub (fun _ h => List.mem_cons_of_mem _ (List.mem_append_right _ h)) (by decide +kernel))) (goodIn_sub (fun _ h => List.mem_cons_of_mem _ (List.mem_append_left _ (List.mem_append_left _ (List.mem_append_right _ h)))) (by decide +kernel))
set_option maxRecDepth 20000 in
theorem gL_pathLength_X6_pathLength : GoodIn wsL_pathLength (wsV RL 104 RX6 yX6_pathLength wsX6_pathLength) := goodIn_app (goodIn_of _ (by decide +kernel)) ggL_pathLength_X6_pathLength
theorem dL_pathLength_0 : decode cL_pathLength 0 = .ok (.aload_n 3, 1) := by decide +kernel
theorem dL_pathLength_1 : decode cL_pathLength 1 = .ok (.iconst 0, 1) := by decide +kernel
theorem dL_pathLength_2 : decode cL_pathLength 2 = .ok (.aload_n 0, 1) := by decide +kernel
theorem dL_pathLength_3 : decode cL_pathLength 3 = .ok (.iload_n 1, 1) := by decide +kernel
theorem dL_pathLength_4 : decode cL_pathLength 4 = .ok (.iload_n 2, 1) := by decide +kernel
theorem dL_pathLength_5 : decode cL_pathLength 5 = .ok (.invokevirtual 104, 3) := by decide +kernel
theorem dL_pathLength_8 : decode cL_pathLength 8 = .ok (.i2l, 1) := by decide +kernel
theorem dL_pathLength_9 : decode cL_pathLength 9 = .ok (.lastore, 1) := by decide +kernel
theorem dL_pathLength_10 : decode cL_pathLength 10 = .ok (.goto 11, 3) := by decide +kernel
theorem dL_pathLength_13 : decode cL_pathLength 13 = .ok (.astore 4, 2) := by decide +kernel
theorem dL_pathLength_15 : decode cL_pathLength 15 = .ok (.iconst 1, 1) := by decide +kernel
theorem dL_pathLength_16 : decode cL_pathLength 16 = .ok (.ireturn, 1) := by decide +kernel
theorem dL_pathLength_17 : decode cL_pathLength 17 = .ok (.astore 4, 2) := by decide +kernel
theorem dL_pathLength_19 : decode cL_pathLength 19 = .ok (.iconst 2, 1) := by decide +kernel
theorem dL_pathLength_20 : decode cL_pathLength 20 = .ok (.ireturn, 1) := by decide +kernel
theorem dL_pathLength_21 : decode cL_pathLength 21 = .ok (.iconst 0, 1) := by decide +kernel
theorem dL_pathLength_22 : decode cL_pathLength 22 = .ok (.ireturn, 1) := by decide +kernel
set_option maxRecDepth 20000 in
theorem ggL_pathAt_X6_pathAt : GoodIn wsL_pathAt wsX6_pathAt := goodIn_ca (goodIn_ca (goodIn_ca (goodIn_ca (goodIn_r _ [6, 7, 8, 9, 10, 11, 12, 13, 14, 5, 15, 16, 17, 18, 19, 20, 21, 22, 23, 24, 25, 26, 27, 28, 29, 30, 31, 32, 33, 34, 35, 36, 37, 38, 39, 40, 41, 42, 43, 44, 45, 46, 47, 48, 49, 50, 51, 52, 53, 54, 55, 56, 57, 58, 59, 60, 61, 62, 63, 64, 65, 66, 67, 68, 69, 70, 71, 72, 73, 74, 75, 76, 77, 78, 79, 80, 81, 82, 83, 84, 85, 86, 87, 88, 89, 90, 91, 92, 93, 94, 95, 96, 97, 98, 99, 100, 101, 102, 103, 104, 105, 106, 107, 108, 109, 110, 111, 112, 113, 114, 115, 116, 117, 118] (by decide +kernel) (by decide +kernel)) (goodIn_sub (fun _ h => List.mem_cons_of_mem _ (List.mem_append_left _ (List.mem_append_left _ (List.mem_append_right _ h)))) (by decide +kernel))) (goodIn_sub (fun _ h => List.mem_cons_of_mem _ (List.mem_append_left _ (List.mem_append_right _ h))) (by decide +kernel))) (goodIn_sub (fun _ h => List.mem_cons_of_mem _ (List.mem_append_right _ h)) (by decide +kernel))) (goodIn_sub (fun _ h => List.mem_cons_of_mem _ (List.mem_append_left _ (List.mem_append_left _ (List.mem_append_left _ (List.mem_append_right _ h))))) (by decide +kernel))
set_option maxRecDepth 20000 in
theorem gL_pathAt_X6_pathAt : GoodIn wsL_pathAt (wsV RL 107 RX6 yX6_pathAt wsX6_pathAt) := goodIn_app (goodIn_of _ (by decide +kernel)) ggL_pathAt_X6_pathAt
theorem dL_pathAt_0 : decode cL_pathAt 0 = .ok (.aload 4, 2) := by decide +kernel
theorem dL_pathAt_2 : decode cL_pathAt 2 = .ok (.iconst 0, 1) := by decide +kernel
theorem dL_pathAt_3 : decode cL_pathAt 3 = .ok (.aload_n 0, 1) := by decide +kernel
theorem dL_pathAt_4 : decode cL_pathAt 4 = .ok (.iload_n 1, 1) := by decide +kernel
theorem dL_pathAt_5 : decode cL_pathAt 5 = .ok (.iload_n 2, 1) := by decide +kernel
theorem dL_pathAt_6 : decode cL_pathAt 6 = .ok (.iload_n 3, 1) := by decide +kernel
theorem dL_pathAt_7 : decode cL_pathAt 7 = .ok (.invokevirtual 107, 3) := by decide +kernel
theorem dL_pathAt_10 : decode cL_pathAt 10 = .ok (.i2l, 1) := by decide +kernel
theorem dL_pathAt_11 : decode cL_pathAt 11 = .ok (.lastore, 1) := by decide +kernel
theorem dL_pathAt_12 : decode cL_pathAt 12 = .ok (.goto 15, 3) := by decide +kernel
theorem dL_pathAt_15 : decode cL_pathAt 15 = .ok (.astore 5, 2) := by decide +kernel
theorem dL_pathAt_17 : decode cL_pathAt 17 = .ok (.iconst 1, 1) := by decide +kernel
theorem dL_pathAt_18 : decode cL_pathAt 18 = .ok (.ireturn, 1) := by decide +kernel
theorem dL_pathAt_19 : decode cL_pathAt 19 = .ok (.astore 5, 2) := by decide +kernel
theorem dL_pathAt_21 : decode cL_pathAt 21 = .ok (.iconst 2, 1) := by decide +kernel
theorem dL_pathAt_22 : decode cL_pathAt 22 = .ok (.ireturn, 1) := by decide +kernel
theorem dL_pathAt_23 : decode cL_pathAt 23 = .ok (.astore 5, 2) := by decide +kernel
theorem dL_pathAt_25 : decode cL_pathAt 25 = .ok (.iconst 3, 1) := by decide +kernel
theorem dL_pathAt_26 : decode cL_pathAt 26 = .ok (.ireturn, 1) := by decide +kernel
theorem dL_pathAt_27 : decode cL_pathAt 27 = .ok (.iconst 0, 1) := by decide +kernel
theorem dL_pathAt_28 : decode cL_pathAt 28 = .ok (.ireturn, 1) := by decide +kernel
set_option maxRecDepth 20000 in
theorem ggL_riskOf_X6_riskOf : GoodIn wsL_riskOf wsX6_riskOf := goodIn_ca (goodIn_ca (goodIn_ca (goodIn_ca (goodIn_r _ [6, 7, 8, 9, 10, 11, 12, 13, 5, 14, 15, 16, 17, 18, 19, 20, 21, 22, 23, 24, 25, 26, 27, 28, 29, 30, 31, 32, 33, 34, 35, 36, 37, 38, 39, 40, 41, 42, 43, 44, 45, 46, 47, 48, 49, 50, 51, 52, 53, 54, 55, 56, 57, 58, 59, 60, 61, 62, 63, 64, 65, 66, 67, 68, 69, 70, 71, 72, 73, 74, 75, 76, 77, 78, 79, 80, 81, 82, 83, 84, 85, 86, 87, 88, 89, 90, 91, 92, 93, 94, 95, 96, 97, 98, 99, 100, 101, 102, 103, 104, 105, 106, 107, 108, 109, 110, 111, 112, 113, 114, 115, 116, 117, 118, 119, 120, 121, 122] (by decide +kernel) (by decide +kernel)) (goodIn_sub (fun _ h => List.mem_cons_of_mem _ (List.mem_append_left _ (List.mem_append_left _ (List.mem_append_left _ (List.mem_append_right _ h))))) (by decide +kernel))) (goodIn_sub (fun _ h => List.mem_cons_of_mem _ (List.mem_append_left _ (List.mem_append_left _ (List.mem_append_right _ h)))) (by decide +kernel))) (goodIn_sub (fun _ h => List.mem_cons_of_mem _ (List.mem_append_left _ (List.mem_append_right _ h))) (by decide +kernel))) (goodIn_sub (fun _ h => List.mem_cons_of_mem _ (List.mem_append_right _ h)) (by decide +kernel))
set_option maxRecDepth 20000 in
theorem gL_riskOf_X6_riskOf : GoodIn wsL_riskOf (wsV RL 113 RX6 yX6_riskOf wsX6_riskOf) := goodIn_app (goodIn_of _ (by decide +kernel)) ggL_riskOf_X6_riskOf
theorem dL_riskOf_0 : decode cL_riskOf 0 = .ok (.aload_n 2, 1) := by decide +kernel
theorem dL_riskOf_1 : decode cL_riskOf 1 = .ok (.iconst 0, 1) := by decide +kernel
theorem dL_riskOf_2 : decode cL_riskOf 2 = .ok (.aload_n 0, 1) := by decide +kernel
theorem dL_riskOf_3 : decode cL_riskOf 3 = .ok (.iload_n 1, 1) := by decide +kernel
theorem dL_riskOf_4 : decode cL_riskOf 4 = .ok (.invokevirtual 113, 3) := by decide +kernel
theorem dL_riskOf_7 : decode cL_riskOf 7 = .ok (.i2l, 1) := by decide +kernel
theorem dL_riskOf_8 : decode cL_riskOf 8 = .ok (.lastore, 1) := by decide +kernel
theorem dL_riskOf_9 : decode cL_riskOf 9 = .ok (.goto 9, 3) := by decide +kernel
theorem dL_riskOf_12 : decode cL_riskOf 12 = .ok (.astore_n 3, 1) := by decide +kernel
theorem dL_riskOf_13 : decode cL_riskOf 13 = .ok (.iconst 1, 1) := by decide +kernel
theorem dL_riskOf_14 : decode cL_riskOf 14 = .ok (.ireturn, 1) := by decide +kernel
theorem dL_riskOf_15 : decode cL_riskOf 15 = .ok (.astore_n 3, 1) := by decide +kernel
theorem dL_riskOf_16 : decode cL_riskOf 16 = .ok (.iconst 2, 1) := by decide +kernel
theorem dL_riskOf_17 : decode cL_riskOf 17 = .ok (.ireturn, 1) := by decide +kernel
theorem dL_riskOf_18 : decode cL_riskOf 18 = .ok (.iconst 0, 1) := by decide +kernel
theorem dL_riskOf_19 : decode cL_riskOf 19 = .ok (.ireturn, 1) := by decide +kernel
set_option maxRecDepth 20000 in
theorem ggL_riskFor_X6_riskFor : GoodIn wsL_riskFor wsX6_riskFor := goodIn_ca (goodIn_ca (goodIn_ca (goodIn_r _ [6, 7, 8, 9, 5, 10, 11, 12, 13, 14, 15, 16, 17, 18, 19, 20, 21, 22, 23, 24, 25, 26, 27, 28, 29, 30, 31, 32, 33, 34, 35, 36, 37, 38, 39, 40, 41, 42, 43, 44, 45, 46, 47, 48, 49, 50, 51, 52, 53, 54, 55, 56, 57, 58, 59, 60, 61, 62, 63, 64, 65, 66, 67, 68, 69, 70, 71, 72, 73, 74, 75, 76, 77, 78, 79, 80, 81, 82, 83, 84, 85, 86, 87, 88, 89, 90, 91, 92, 93, 94, 95, 96, 97, 98, 99, 100, 101, 102, 103, 104, 105, 106, 107, 108, 109, 110, 111, 112, 113] (by decide +kernel) (by decide +kernel)) (goodIn_sub (fun _ h => List.mem_cons_of_mem _ (List.mem_append_left _ (List.mem_append_right _ h))) (by decide +kernel))) (goodIn_sub (fun _ h => List.mem_cons_of_mem _ (List.mem_append_left _ (List.mem_append_left _ (List.mem_append_right _ h)))) (by decide +kernel))) (goodIn_sub (fun _ h => List.mem_cons_of_mem _ (List.mem_append_right _ h)) (by decide +kernel))
set_option maxRecDepth 20000 in
theorem gL_riskFor_X6_riskFor : GoodIn wsL_riskFor (wsV RL 116 RX6 yX6_riskFor wsX6_riskFor) := goodIn_app (goodIn_of _ (by decide +kernel)) ggL_riskFor_X6_riskFor
theorem dL_riskFor_0 : decode cL_riskFor 0 = .ok (.aload_n 3, 1) := by decide +kernel
theorem dL_riskFor_1 : decode cL_riskFor 1 = .ok (.iconst 0, 1) := by decide +kernel
theorem dL_riskFor_2 : decode cL_riskFor 2 = .ok (.aload_n 0, 1) := by decide +kernel
theorem dL_riskFor_3 : decode cL_riskFor 3 = .ok (.iload_n 1, 1) := by decide +kernel
theorem dL_riskFor_4 : decode cL_riskFor 4 = .ok (.iload_n 2, 1) := by decide +kernel
theorem dL_riskFor_5 : decode cL_riskFor 5 = .ok (.invokevirtual 116, 3) := by decide +kernel
theorem dL_riskFor_8 : decode cL_riskFor 8 = .ok (.i2l, 1) := by decide +kernel
theorem dL_riskFor_9 : decode cL_riskFor 9 = .ok (.lastore, 1) := by decide +kernel
theorem dL_riskFor_10 : decode cL_riskFor 10 = .ok (.goto 7, 3) := by decide +kernel
theorem dL_riskFor_13 : decode cL_riskFor 13 = .ok (.astore 4, 2) := by decide +kernel
theorem dL_riskFor_15 : decode cL_riskFor 15 = .ok (.iconst 1, 1) := by decide +kernel
theorem dL_riskFor_16 : decode cL_riskFor 16 = .ok (.ireturn, 1) := by decide +kernel
theorem dL_riskFor_17 : decode cL_riskFor 17 = .ok (.iconst 0, 1) := by decide +kernel
theorem dL_riskFor_18 : decode cL_riskFor 18 = .ok (.ireturn, 1) := by decide +kernel
set_option maxRecDepth 20000 in
theorem ggL_reviewerOf_X6_reviewerOf : GoodIn wsL_reviewerOf wsX6_reviewerOf := goodIn_ca (goodIn_ca (goodIn_r _ [6, 7, 8, 9, 5, 10, 11, 12, 13, 14, 15, 16, 17, 18, 19, 20, 21, 22, 23, 24, 25, 26, 27, 28, 29, 30, 31, 32, 33, 34, 35, 36, 37, 38, 39, 40, 41, 42, 43, 44, 45, 46, 47, 48, 49, 50, 51, 52, 53, 54, 55, 56, 57, 58, 59, 60, 61, 62, 63, 64, 65, 66, 67, 68, 69, 70, 71, 72, 73, 74, 75, 76, 77, 78, 79, 80, 81, 82, 83, 84, 85, 86] (by decide +kernel) (by decide +kernel)) (goodIn_sub (fun _ h => List.mem_cons_of_mem _ (List.mem_append_right _ h)) (by decide +kernel))) (goodIn_sub (fun _ h => List.mem_cons_of_mem _ (List.mem_append_left _ (List.mem_append_right _ h))) (by decide +kernel))
set_option maxRecDepth 20000 in
theorem gL_reviewerOf_X6_reviewerOf : GoodIn wsL_reviewerOf (wsV RL 119 RX6 yX6_reviewerOf wsX6_reviewerOf) := goodIn_app (goodIn_of _ (by decide +kernel)) ggL_reviewerOf_X6_reviewerOf
theorem dL_reviewerOf_0 : decode cL_reviewerOf 0 = .ok (.aload_n 2, 1) := by decide +kernel
theorem dL_reviewerOf_1 : decode cL_reviewerOf 1 = .ok (.iconst 0, 1) := by decide +kernel
theorem dL_reviewerOf_2 : decode cL_reviewerOf 2 = .ok (.aload_n 0, 1) := by decide +kernel
theorem dL_reviewerOf_3 : decode cL_reviewerOf 3 = .ok (.iload_n 1, 1) := by decide +kernel
theorem dL_reviewerOf_4 : decode cL_reviewerOf 4 = .ok (.invokevirtual 119, 3) := by decide +kernel
theorem dL_reviewerOf_7 : decode cL_reviewerOf 7 = .ok (.i2l, 1) := by decide +kernel
theorem dL_reviewerOf_8 : decode cL_reviewerOf 8 = .ok (.lastore, 1) := by decide +kernel
theorem dL_reviewerOf_9 : decode cL_reviewerOf 9 = .ok (.goto 6, 3) := by decide +kernel
theorem dL_reviewerOf_12 : decode cL_reviewerOf 12 = .ok (.astore_n 3, 1) := by decide +kernel
theorem dL_reviewerOf_13 : decode cL_reviewerOf 13 = .ok (.iconst 1, 1) := by decide +kernel
theorem dL_reviewerOf_14 : decode cL_reviewerOf 14 = .ok (.ireturn, 1) := by decide +kernel
theorem dL_reviewerOf_15 : decode cL_reviewerOf 15 = .ok (.iconst 0, 1) := by decide +kernel
theorem dL_reviewerOf_16 : decode cL_reviewerOf 16 = .ok (.ireturn, 1) := by decide +kernel
set_option maxRecDepth 20000 in
theorem ggL_stateOf_X6_stateOf : GoodIn wsL_stateOf wsX6_stateOf := goodIn_ca (goodIn_ca (goodIn_r _ [6, 7, 8, 9, 10, 11, 5, 12, 13, 14, 15, 16, 17, 18, 19, 20, 21, 22, 23, 24, 25, 26, 27, 28, 29, 30, 31, 32, 33, 34, 35, 36] (by decide +kernel) (by decide +kernel)) (goodIn_sub (fun _ h => List.mem_cons_of_mem _ (List.mem_append_left _ (List.mem_append_right _ h))) (by decide +kernel))) (goodIn_sub (fun _ h => List.mem_cons_of_mem _ (List.mem_append_right _ h)) (by decide +kernel))
set_option maxRecDepth 20000 in
theorem gL_stateOf_X6_stateOf : GoodIn wsL_stateOf (wsV RL 122 RX6 yX6_stateOf wsX6_stateOf) := goodIn_app (goodIn_of _ (by decide +kernel)) ggL_stateOf_X6_stateOf
theorem dL_stateOf_0 : decode cL_stateOf 0 = .ok (.aload_n 2, 1) := by decide +kernel
theorem dL_stateOf_1 : decode cL_stateOf 1 = .ok (.iconst 0, 1) := by decide +kernel
theorem dL_stateOf_2 : decode cL_stateOf 2 = .ok (.aload_n 0, 1) := by decide +kernel
theorem dL_stateOf_3 : decode cL_stateOf 3 = .ok (.iload_n 1, 1) := by decide +kernel
theorem dL_stateOf_4 : decode cL_stateOf 4 = .ok (.invokevirtual 122, 3) := by decide +kernel
theorem dL_stateOf_7 : decode cL_stateOf 7 = .ok (.i2l, 1) := by decide +kernel
theorem dL_stateOf_8 : decode cL_stateOf 8 = .ok (.lastore, 1) := by decide +kernel
theorem dL_stateOf_9 : decode cL_stateOf 9 = .ok (.goto 6, 3) := by decide +kernel
theorem dL_stateOf_12 : decode cL_stateOf 12 = .ok (.astore_n 3, 1) := by decide +kernel
theorem dL_stateOf_13 : decode cL_stateOf 13 = .ok (.iconst 1, 1) := by decide +kernel
theorem dL_stateOf_14 : decode cL_stateOf 14 = .ok (.ireturn, 1) := by decide +kernel
theorem dL_stateOf_15 : decode cL_stateOf 15 = .ok (.iconst 0, 1) := by decide +kernel
theorem dL_stateOf_16 : decode cL_stateOf 16 = .ok (.ireturn, 1) := by decide +kernel
set_option maxRecDepth 20000 in
theorem ggL_dueDay_X6_dueDay : GoodIn wsL_dueDay wsX6_dueDay := goodIn_ca (goodIn_ca (goodIn_ca (goodIn_r _ [6, 7, 8, 9, 10, 11, 12, 13, 14, 5, 15, 16, 17, 18, 19, 20, 21, 22, 23, 24, 25, 26, 27, 28, 29, 30, 31, 32, 33, 34, 35, 36, 37, 38, 39] (by decide +kernel) (by decide +kernel)) (goodIn_sub (fun _ h => List.mem_cons_of_mem _ (List.mem_append_left _ (List.mem_append_left _ (List.mem_append_right _ h)))) (by decide +kernel))) (goodIn_sub (fun _ h => List.mem_cons_of_mem _ (List.mem_append_left _ (List.mem_append_right _ h))) (by decide +kernel))) (goodIn_sub (fun _ h => List.mem_cons_of_mem _ (List.mem_append_right _ h)) (by decide +kernel))
set_option maxRecDepth 20000 in
theorem gL_dueDay_X6_dueDay : GoodIn wsL_dueDay (wsV RL 126 RX6 yX6_dueDay wsX6_dueDay) := goodIn_app (goodIn_of _ (by decide +kernel)) ggL_dueDay_X6_dueDay
theorem dL_dueDay_0 : decode cL_dueDay 0 = .ok (.aload_n 2, 1) := by decide +kernel
theorem dL_dueDay_1 : decode cL_dueDay 1 = .ok (.iconst 0, 1) := by decide +kernel
theorem dL_dueDay_2 : decode cL_dueDay 2 = .ok (.aload_n 0, 1) := by decide +kernel
theorem dL_dueDay_3 : decode cL_dueDay 3 = .ok (.iload_n 1, 1) := by decide +kernel
theorem dL_dueDay_4 : decode cL_dueDay 4 = .ok (.invokevirtual 126, 3) := by decide +kernel
theorem dL_dueDay_7 : decode cL_dueDay 7 = .ok (.i2l, 1) := by decide +kernel
theorem dL_dueDay_8 : decode cL_dueDay 8 = .ok (.lastore, 1) := by decide +kernel
theorem dL_dueDay_9 : decode cL_dueDay 9 = .ok (.goto 9, 3) := by decide +kernel
theorem dL_dueDay_12 : decode cL_dueDay 12 = .ok (.astore_n 3, 1) := by decide +kernel
theorem dL_dueDay_13 : decode cL_dueDay 13 = .ok (.iconst 1, 1) := by decide +kernel
theorem dL_dueDay_14 : decode cL_dueDay 14 = .ok (.ireturn, 1) := by decide +kernel
theorem dL_dueDay_15 : decode cL_dueDay 15 = .ok (.astore_n 3, 1) := by decide +kernel
theorem dL_dueDay_16 : decode cL_dueDay 16 = .ok (.iconst 2, 1) := by decide +kernel
theorem dL_dueDay_17 : decode cL_dueDay 17 = .ok (.ireturn, 1) := by decide +kernel
theorem dL_dueDay_18 : decode cL_dueDay 18 = .ok (.iconst 0, 1) := by decide +kernel
theorem dL_dueDay_19 : decode cL_dueDay 19 = .ok (.ireturn, 1) := by decide +kernel
set_option maxRecDepth 20000 in
theorem ggL_lastUse_X6_lastUse : GoodIn wsL_lastUse wsX6_lastUse := goodIn_ca (goodIn_ca (goodIn_r _ [6, 7, 8, 9, 10, 11, 5, 12, 13, 14, 15, 16, 17, 18, 19, 20, 21, 22, 23, 24, 25, 26, 27, 28, 29, 30, 31, 32, 33, 34, 35, 36] (by decide +kernel) (by decide +kernel)) (goodIn_sub (fun _ h => List.mem_cons_of_mem _ (List.mem_append_left _ (List.mem_append_right _ h))) (by decide +kernel))) (goodIn_sub (fun _ h => List.mem_cons_of_mem _ (List.mem_append_right _ h)) (by decide +kernel))
set_option maxRecDepth 20000 in
theorem gL_lastUse_X6_lastUse : GoodIn wsL_lastUse (wsV RL 129 RX6 yX6_lastUse wsX6_lastUse) := goodIn_app (goodIn_of _ (by decide +kernel)) ggL_lastUse_X6_lastUse
theorem dL_lastUse_0 : decode cL_lastUse 0 = .ok (.aload_n 2, 1) := by decide +kernel
theorem dL_lastUse_1 : decode cL_lastUse 1 = .ok (.iconst 0, 1) := by decide +kernel
theorem dL_lastUse_2 : decode cL_lastUse 2 = .ok (.aload_n 0, 1) := by decide +kernel
theorem dL_lastUse_3 : decode cL_lastUse 3 = .ok (.iload_n 1, 1) := by decide +kernel
theorem dL_lastUse_4 : decode cL_lastUse 4 = .ok (.invokevirtual 129, 3) := by decide +kernel
theorem dL_lastUse_7 : decode cL_lastUse 7 = .ok (.i2l, 1) := by decide +kernel
theorem dL_lastUse_8 : decode cL_lastUse 8 = .ok (.lastore, 1) := by decide +kernel
theorem dL_lastUse_9 : decode cL_lastUse 9 = .ok (.goto 6, 3) := by decide +kernel
theorem dL_lastUse_12 : decode cL_lastUse 12 = .ok (.astore_n 3, 1) := by decide +kernel
theorem dL_lastUse_13 : decode cL_lastUse 13 = .ok (.iconst 1, 1) := by decide +kernel
theorem dL_lastUse_14 : decode cL_lastUse 14 = .ok (.ireturn, 1) := by decide +kernel
theorem dL_lastUse_15 : decode cL_lastUse 15 = .ok (.iconst 0, 1) := by decide +kernel
theorem dL_lastUse_16 : decode cL_lastUse 16 = .ok (.ireturn, 1) := by decide +kernel
set_option maxRecDepth 20000 in
theorem ggL_isBlocked_X6_isBlocked : GoodIn wsL_isBlocked wsX6_isBlocked := goodIn_ca (goodIn_ca (goodIn_r _ [6, 7, 8, 9, 10, 11, 5, 12, 13, 14, 15, 16, 17, 18, 19, 20, 21, 22, 23, 24, 25, 26, 27, 28, 29, 30, 31, 32, 33, 34, 35, 36, 37, 38, 39, 40, 41, 42, 43, 44, 45, 46, 47, 48, 49, 50, 51, 52, 53, 54, 55, 56, 57, 58, 59, 60, 61, 62, 63, 64, 65, 66, 67, 68, 69, 70, 71, 72, 73, 74, 75, 76, 77, 78, 79, 80, 81, 82, 83, 84, 85, 86] (by decide +kernel) (by decide +kernel)) (goodIn_sub (fun _ h => List.mem_cons_of_mem _ (List.mem_append_left _ (List.mem_append_right _ h))) (by decide +kernel))) (goodIn_sub (fun _ h => List.mem_cons_of_mem _ (List.mem_append_right _ h)) (by decide +kernel))
set_option maxRecDepth 20000 in
theorem gL_isBlocked_X6_isBlocked : GoodIn wsL_isBlocked (wsV RL 132 RX6 yX6_isBlocked wsX6_isBlocked) := goodIn_app (goodIn_of _ (by decide +kernel)) ggL_isBlocked_X6_isBlocked
theorem dL_isBlocked_0 : decode cL_isBlocked 0 = .ok (.aload_n 2, 1) := by decide +kernel
theorem dL_isBlocked_1 : decode cL_isBlocked 1 = .ok (.iconst 0, 1) := by decide +kernel
theorem dL_isBlocked_2 : decode cL_isBlocked 2 = .ok (.aload_n 0, 1) := by decide +kernel
theorem dL_isBlocked_3 : decode cL_isBlocked 3 = .ok (.iload_n 1, 1) := by decide +kernel
theorem dL_isBlocked_4 : decode cL_isBlocked 4 = .ok (.invokevirtual 132, 3) := by decide +kernel
theorem dL_isBlocked_7 : decode cL_isBlocked 7 = .ok (.ifCond .eq 7, 3) := by decide +kernel
theorem dL_isBlocked_10 : decode cL_isBlocked 10 = .ok (.lconst 1, 1) := by decide +kernel
theorem dL_isBlocked_11 : decode cL_isBlocked 11 = .ok (.goto 4, 3) := by decide +kernel
theorem dL_isBlocked_14 : decode cL_isBlocked 14 = .ok (.lconst 0, 1) := by decide +kernel
theorem dL_isBlocked_15 : decode cL_isBlocked 15 = .ok (.lastore, 1) := by decide +kernel
theorem dL_isBlocked_16 : decode cL_isBlocked 16 = .ok (.goto 6, 3) := by decide +kernel
theorem dL_isBlocked_19 : decode cL_isBlocked 19 = .ok (.astore_n 3, 1) := by decide +kernel
theorem dL_isBlocked_20 : decode cL_isBlocked 20 = .ok (.iconst 1, 1) := by decide +kernel
theorem dL_isBlocked_21 : decode cL_isBlocked 21 = .ok (.ireturn, 1) := by decide +kernel
theorem dL_isBlocked_22 : decode cL_isBlocked 22 = .ok (.iconst 0, 1) := by decide +kernel
theorem dL_isBlocked_23 : decode cL_isBlocked 23 = .ok (.ireturn, 1) := by decide +kernel
set_option maxRecDepth 20000 in
theorem ggL_grantOf_X6_grantOf : GoodIn wsL_grantOf wsX6_grantOf := goodIn_ca (goodIn_ca (goodIn_r _ [6, 7, 8, 9, 10, 11, 5, 12, 13, 14, 15, 16, 17, 18, 19, 20, 21, 22, 23, 24, 25, 26, 27, 28, 29, 30, 31, 32, 33, 34, 35, 36, 37] (by decide +kernel) (by decide +kernel)) (goodIn_sub (fun _ h => List.mem_cons_of_mem _ (List.mem_append_left _ (List.mem_append_right _ h))) (by decide +kernel))) (goodIn_sub (fun _ h => List.mem_cons_of_mem _ (List.mem_append_right _ h)) (by decide +kernel))
set_option maxRecDepth 20000 in
theorem gL_grantOf_X6_grantOf : GoodIn wsL_grantOf (wsV RL 136 RX6 yX6_grantOf wsX6_grantOf) := goodIn_app (goodIn_of _ (by decide +kernel)) ggL_grantOf_X6_grantOf
theorem dL_grantOf_0 : decode cL_grantOf 0 = .ok (.aload_n 2, 1) := by decide +kernel
theorem dL_grantOf_1 : decode cL_grantOf 1 = .ok (.iconst 0, 1) := by decide +kernel
theorem dL_grantOf_2 : decode cL_grantOf 2 = .ok (.aload_n 0, 1) := by decide +kernel
theorem dL_grantOf_3 : decode cL_grantOf 3 = .ok (.iload_n 1, 1) := by decide +kernel
theorem dL_grantOf_4 : decode cL_grantOf 4 = .ok (.invokevirtual 136, 3) := by decide +kernel
theorem dL_grantOf_7 : decode cL_grantOf 7 = .ok (.i2l, 1) := by decide +kernel
theorem dL_grantOf_8 : decode cL_grantOf 8 = .ok (.lastore, 1) := by decide +kernel
theorem dL_grantOf_9 : decode cL_grantOf 9 = .ok (.goto 6, 3) := by decide +kernel
theorem dL_grantOf_12 : decode cL_grantOf 12 = .ok (.astore_n 3, 1) := by decide +kernel
theorem dL_grantOf_13 : decode cL_grantOf 13 = .ok (.iconst 1, 1) := by decide +kernel
theorem dL_grantOf_14 : decode cL_grantOf 14 = .ok (.ireturn, 1) := by decide +kernel
theorem dL_grantOf_15 : decode cL_grantOf 15 = .ok (.iconst 0, 1) := by decide +kernel
theorem dL_grantOf_16 : decode cL_grantOf 16 = .ok (.ireturn, 1) := by decide +kernel
set_option maxRecDepth 20000 in
theorem ggL_verdict_X6_verdict : GoodIn wsL_verdict wsX6_verdict := goodIn_ca (goodIn_ca (goodIn_r _ [6, 7, 8, 9, 10, 11, 5, 12, 13, 14, 15, 16, 17, 18, 19, 20, 21, 22, 23, 24, 25, 26, 27, 28, 29, 30, 31, 32, 33, 34, 35, 36, 37] (by decide +kernel) (by decide +kernel)) (goodIn_sub (fun _ h => List.mem_cons_of_mem _ (List.mem_append_left _ (List.mem_append_right _ h))) (by decide +kernel))) (goodIn_sub (fun _ h => List.mem_cons_of_mem _ (List.mem_append_right _ h)) (by decide +kernel))
set_option maxRecDepth 20000 in
theorem gL_verdict_X6_verdict : GoodIn wsL_verdict (wsV RL 139 RX6 yX6_verdict wsX6_verdict) := goodIn_app (goodIn_of _ (by decide +kernel)) ggL_verdict_X6_verdict
theorem dL_verdict_0 : decode cL_verdict 0 = .ok (.aload_n 2, 1) := by decide +kernel
theorem dL_verdict_1 : decode cL_verdict 1 = .ok (.iconst 0, 1) := by decide +kernel
theorem dL_verdict_2 : decode cL_verdict 2 = .ok (.aload_n 0, 1) := by decide +kernel
theorem dL_verdict_3 : decode cL_verdict 3 = .ok (.iload_n 1, 1) := by decide +kernel
theorem dL_verdict_4 : decode cL_verdict 4 = .ok (.invokevirtual 139, 3) := by decide +kernel
theorem dL_verdict_7 : decode cL_verdict 7 = .ok (.i2l, 1) := by decide +kernel
theorem dL_verdict_8 : decode cL_verdict 8 = .ok (.lastore, 1) := by decide +kernel
theorem dL_verdict_9 : decode cL_verdict 9 = .ok (.goto 6, 3) := by decide +kernel
theorem dL_verdict_12 : decode cL_verdict 12 = .ok (.astore_n 3, 1) := by decide +kernel
theorem dL_verdict_13 : decode cL_verdict 13 = .ok (.iconst 1, 1) := by decide +kernel
theorem dL_verdict_14 : decode cL_verdict 14 = .ok (.ireturn, 1) := by decide +kernel
theorem dL_verdict_15 : decode cL_verdict 15 = .ok (.iconst 0, 1) := by decide +kernel
theorem dL_verdict_16 : decode cL_verdict 16 = .ok (.ireturn, 1) := by decide +kernel
set_option maxRecDepth 20000 in
theorem ggL_decider_X6_decider : GoodIn wsL_decider wsX6_decider := goodIn_ca (goodIn_ca (goodIn_ca (goodIn_r _ [6, 7, 8, 9, 10, 11, 12, 13, 14, 5, 15, 16, 17, 18, 19, 20, 21, 22, 23, 24, 25, 26, 27, 28, 29, 30, 31, 32, 33, 34, 35, 36, 37, 38, 39, 40] (by decide +kernel) (by decide +kernel)) (goodIn_sub (fun _ h => List.mem_cons_of_mem _ (List.mem_append_left _ (List.mem_append_left _ (List.mem_append_right _ h)))) (by decide +kernel))) (goodIn_sub (fun _ h => List.mem_cons_of_mem _ (List.mem_append_left _ (List.mem_append_right _ h))) (by decide +kernel))) (goodIn_sub (fun _ h => List.mem_cons_of_mem _ (List.mem_append_right _ h)) (by decide +kernel))
set_option maxRecDepth 20000 in
theorem gL_decider_X6_decider : GoodIn wsL_decider (wsV RL 142 RX6 yX6_decider wsX6_decider) := goodIn_app (goodIn_of _ (by decide +kernel)) ggL_decider_X6_decider
theorem dL_decider_0 : decode cL_decider 0 = .ok (.aload_n 2, 1) := by decide +kernel
theorem dL_decider_1 : decode cL_decider 1 = .ok (.iconst 0, 1) := by decide +kernel
theorem dL_decider_2 : decode cL_decider 2 = .ok (.aload_n 0, 1) := by decide +kernel
theorem dL_decider_3 : decode cL_decider 3 = .ok (.iload_n 1, 1) := by decide +kernel
theorem dL_decider_4 : decode cL_decider 4 = .ok (.invokevirtual 142, 3) := by decide +kernel
theorem dL_decider_7 : decode cL_decider 7 = .ok (.i2l, 1) := by decide +kernel
theorem dL_decider_8 : decode cL_decider 8 = .ok (.lastore, 1) := by decide +kernel
theorem dL_decider_9 : decode cL_decider 9 = .ok (.goto 9, 3) := by decide +kernel
theorem dL_decider_12 : decode cL_decider 12 = .ok (.astore_n 3, 1) := by decide +kernel
theorem dL_decider_13 : decode cL_decider 13 = .ok (.iconst 1, 1) := by decide +kernel
theorem dL_decider_14 : decode cL_decider 14 = .ok (.ireturn, 1) := by decide +kernel
theorem dL_decider_15 : decode cL_decider 15 = .ok (.astore_n 3, 1) := by decide +kernel
theorem dL_decider_16 : decode cL_decider 16 = .ok (.iconst 2, 1) := by decide +kernel
theorem dL_decider_17 : decode cL_decider 17 = .ok (.ireturn, 1) := by decide +kernel
theorem dL_decider_18 : decode cL_decider 18 = .ok (.iconst 0, 1) := by decide +kernel
theorem dL_decider_19 : decode cL_decider 19 = .ok (.ireturn, 1) := by decide +kernel
set_option maxRecDepth 20000 in
theorem ggL_nextItem_X6_nextItem : GoodIn wsL_nextItem wsX6_nextItem := goodIn_ca (goodIn_ca (goodIn_ca (goodIn_ca (goodIn_r _ [6, 7, 8, 9, 10, 11, 12, 13, 14, 15, 5, 16, 17, 18, 19, 20, 21, 22, 23, 24, 25, 26, 27, 28, 29, 30, 31, 32, 33, 34, 35, 36, 37, 38, 39, 40, 41, 42, 43, 44, 45, 46, 47, 48, 49, 50, 51, 52, 53, 54, 55, 56, 57, 58, 59, 60, 61, 62, 63, 64, 65, 66, 67, 68, 69, 70, 71, 72, 73, 74, 75, 76, 77, 78, 79, 80, 81, 82, 83, 84, 85, 86, 87, 88, 89, 90, 91, 92, 93, 94, 95, 96, 97, 98, 99, 100, 101, 102, 103, 104, 105, 106, 107, 108, 109, 110, 111, 112, 113, 114, 115, 116, 117, 118, 119, 120, 121, 122, 123, 124, 125, 126, 127, 128, 129, 130, 131, 132, 133, 134, 135, 136, 137, 138, 139, 140, 141, 142, 143, 144, 145, 146, 147, 148, 149, 150] (by decide +kernel) (by decide +kernel)) (goodIn_sub (fun _ h => List.mem_cons_of_mem _ (List.mem_append_left _ (List.mem_append_left _ (List.mem_append_left _ (List.mem_append_right _ h))))) (by decide +kernel))) (goodIn_sub (fun _ h => List.mem_cons_of_mem _ (List.mem_append_left _ (List.mem_append_left _ (List.mem_append_right _ h)))) (by decide +kernel))) (goodIn_sub (fun _ h => List.mem_cons_of_mem _ (List.mem_append_left _ (List.mem_append_right _ h))) (by decide +kernel))) (goodIn_sub (fun _ h => List.mem_cons_of_mem _ (List.mem_append_right _ h)) (by decide +kernel))
set_option maxRecDepth 20000 in
theorem gL_nextItem_X6_nextItem : GoodIn wsL_nextItem (wsV RL 145 RX6 yX6_nextItem wsX6_nextItem) := goodIn_app (goodIn_of _ (by decide +kernel)) ggL_nextItem_X6_nextItem
theorem dL_nextItem_0 : decode cL_nextItem 0 = .ok (.aload_n 2, 1) := by decide +kernel
theorem dL_nextItem_1 : decode cL_nextItem 1 = .ok (.iconst 0, 1) := by decide +kernel
theorem dL_nextItem_2 : decode cL_nextItem 2 = .ok (.aload_n 0, 1) := by decide +kernel
theorem dL_nextItem_3 : decode cL_nextItem 3 = .ok (.iload_n 1, 1) := by decide +kernel
theorem dL_nextItem_4 : decode cL_nextItem 4 = .ok (.invokevirtual 145, 3) := by decide +kernel
theorem dL_nextItem_7 : decode cL_nextItem 7 = .ok (.i2l, 1) := by decide +kernel
theorem dL_nextItem_8 : decode cL_nextItem 8 = .ok (.lastore, 1) := by decide +kernel
theorem dL_nextItem_9 : decode cL_nextItem 9 = .ok (.goto 9, 3) := by decide +kernel
theorem dL_nextItem_12 : decode cL_nextItem 12 = .ok (.astore_n 3, 1) := by decide +kernel
theorem dL_nextItem_13 : decode cL_nextItem 13 = .ok (.iconst 1, 1) := by decide +kernel
theorem dL_nextItem_14 : decode cL_nextItem 14 = .ok (.ireturn, 1) := by decide +kernel
theorem dL_nextItem_15 : decode cL_nextItem 15 = .ok (.astore_n 3, 1) := by decide +kernel
theorem dL_nextItem_16 : decode cL_nextItem 16 = .ok (.iconst 2, 1) := by decide +kernel
theorem dL_nextItem_17 : decode cL_nextItem 17 = .ok (.ireturn, 1) := by decide +kernel
theorem dL_nextItem_18 : decode cL_nextItem 18 = .ok (.iconst 0, 1) := by decide +kernel
theorem dL_nextItem_19 : decode cL_nextItem 19 = .ok (.ireturn, 1) := by decide +kernel
set_option maxRecDepth 20000 in
theorem ggL_signAt_X6_signAt : GoodIn wsL_signAt wsX6_signAt := goodIn_ca (goodIn_ca (goodIn_r _ [6, 7, 8, 9, 10, 11, 5, 12, 13, 14, 15, 16, 17, 18, 19, 20, 21, 22, 23, 24, 25, 26, 27, 28, 29, 30, 31, 32, 33, 34] (by decide +kernel) (by decide +kernel)) (goodIn_sub (fun _ h => List.mem_cons_of_mem _ (List.mem_append_left _ (List.mem_append_right _ h))) (by decide +kernel))) (goodIn_sub (fun _ h => List.mem_cons_of_mem _ (List.mem_append_right _ h)) (by decide +kernel))
set_option maxRecDepth 20000 in
theorem gL_signAt_X6_signAt : GoodIn wsL_signAt (wsV RL 148 RX6 yX6_signAt wsX6_signAt) := goodIn_app (goodIn_of _ (by decide +kernel)) ggL_signAt_X6_signAt
theorem dL_signAt_0 : decode cL_signAt 0 = .ok (.aload_n 2, 1) := by decide +kernel
theorem dL_signAt_1 : decode cL_signAt 1 = .ok (.iconst 0, 1) := by decide +kernel
theorem dL_signAt_2 : decode cL_signAt 2 = .ok (.aload_n 0, 1) := by decide +kernel
theorem dL_signAt_3 : decode cL_signAt 3 = .ok (.iload_n 1, 1) := by decide +kernel
theorem dL_signAt_4 : decode cL_signAt 4 = .ok (.invokevirtual 148, 3) := by decide +kernel
theorem dL_signAt_7 : decode cL_signAt 7 = .ok (.i2l, 1) := by decide +kernel
theorem dL_signAt_8 : decode cL_signAt 8 = .ok (.lastore, 1) := by decide +kernel
theorem dL_signAt_9 : decode cL_signAt 9 = .ok (.goto 6, 3) := by decide +kernel
theorem dL_signAt_12 : decode cL_signAt 12 = .ok (.astore_n 3, 1) := by decide +kernel
theorem dL_signAt_13 : decode cL_signAt 13 = .ok (.iconst 1, 1) := by decide +kernel
theorem dL_signAt_14 : decode cL_signAt 14 = .ok (.ireturn, 1) := by decide +kernel
theorem dL_signAt_15 : decode cL_signAt 15 = .ok (.iconst 0, 1) := by decide +kernel
theorem dL_signAt_16 : decode cL_signAt 16 = .ok (.ireturn, 1) := by decide +kernel
set_option maxRecDepth 20000 in
theorem ggL_sealAt_X6_sealAt : GoodIn wsL_sealAt wsX6_sealAt := goodIn_ca (goodIn_ca (goodIn_r _ [6, 7, 8, 9, 10, 11, 5, 12, 13, 14, 15, 16, 17, 18, 19, 20, 21, 22, 23, 24, 25, 26, 27, 28, 29, 30, 31, 32, 33, 34] (by decide +kernel) (by decide +kernel)) (goodIn_sub (fun _ h => List.mem_cons_of_mem _ (List.mem_append_left _ (List.mem_append_right _ h))) (by decide +kernel))) (goodIn_sub (fun _ h => List.mem_cons_of_mem _ (List.mem_append_right _ h)) (by decide +kernel))
set_option maxRecDepth 20000 in
theorem gL_sealAt_X6_sealAt : GoodIn wsL_sealAt (wsV RL 151 RX6 yX6_sealAt wsX6_sealAt) := goodIn_app (goodIn_of _ (by decide +kernel)) ggL_sealAt_X6_sealAt
theorem dL_sealAt_0 : decode cL_sealAt 0 = .ok (.aload_n 2, 1) := by decide +kernel
theorem dL_sealAt_1 : decode cL_sealAt 1 = .ok (.iconst 0, 1) := by decide +kernel
theorem dL_sealAt_2 : decode cL_sealAt 2 = .ok (.aload_n 0, 1) := by decide +kernel
theorem dL_sealAt_3 : decode cL_sealAt 3 = .ok (.iload_n 1, 1) := by decide +kernel
theorem dL_sealAt_4 : decode cL_sealAt 4 = .ok (.invokevirtual 151, 3) := by decide +kernel
theorem dL_sealAt_7 : decode cL_sealAt 7 = .ok (.i2l, 1) := by decide +kernel
theorem dL_sealAt_8 : decode cL_sealAt 8 = .ok (.lastore, 1) := by decide +kernel
theorem dL_sealAt_9 : decode cL_sealAt 9 = .ok (.goto 6, 3) := by decide +kernel
theorem dL_sealAt_12 : decode cL_sealAt 12 = .ok (.astore_n 3, 1) := by decide +kernel
theorem dL_sealAt_13 : decode cL_sealAt 13 = .ok (.iconst 1, 1) := by decide +kernel
theorem dL_sealAt_14 : decode cL_sealAt 14 = .ok (.ireturn, 1) := by decide +kernel
theorem dL_sealAt_15 : decode cL_sealAt 15 = .ok (.iconst 0, 1) := by decide +kernel
theorem dL_sealAt_16 : decode cL_sealAt 16 = .ok (.ireturn, 1) := by decide +kernel
set_option maxRecDepth 20000 in
theorem ggL_sealByReplay_X6_sealByReplay : GoodIn wsL_sealByReplay wsX6_sealByReplay := goodIn_ca (goodIn_ca (goodIn_r _ [6, 7, 8, 9, 10, 5, 11, 12, 13, 14, 15, 16, 17, 18, 19, 20, 21, 22, 23, 24, 25, 26, 27, 28, 29, 30, 31, 32, 33, 34, 35, 36, 37, 38, 39, 40, 41, 42, 43, 44, 45] (by decide +kernel) (by decide +kernel)) (goodIn_sub (fun _ h => List.mem_cons_of_mem _ (List.mem_append_right _ h)) (by decide +kernel))) (goodIn_sub (fun _ h => List.mem_cons_of_mem _ (List.mem_append_left _ (List.mem_append_right _ h))) (by decide +kernel))
set_option maxRecDepth 20000 in
theorem gL_sealByReplay_X6_sealByReplay : GoodIn wsL_sealByReplay (wsV RL 154 RX6 yX6_sealByReplay wsX6_sealByReplay) := goodIn_app (goodIn_of _ (by decide +kernel)) ggL_sealByReplay_X6_sealByReplay
theorem dL_sealByReplay_0 : decode cL_sealByReplay 0 = .ok (.aload_n 2, 1) := by decide +kernel
theorem dL_sealByReplay_1 : decode cL_sealByReplay 1 = .ok (.iconst 0, 1) := by decide +kernel
theorem dL_sealByReplay_2 : decode cL_sealByReplay 2 = .ok (.aload_n 0, 1) := by decide +kernel
theorem dL_sealByReplay_3 : decode cL_sealByReplay 3 = .ok (.iload_n 1, 1) := by decide +kernel
theorem dL_sealByReplay_4 : decode cL_sealByReplay 4 = .ok (.invokevirtual 154, 3) := by decide +kernel
theorem dL_sealByReplay_7 : decode cL_sealByReplay 7 = .ok (.i2l, 1) := by decide +kernel
theorem dL_sealByReplay_8 : decode cL_sealByReplay 8 = .ok (.lastore, 1) := by decide +kernel
theorem dL_sealByReplay_9 : decode cL_sealByReplay 9 = .ok (.goto 6, 3) := by decide +kernel
theorem dL_sealByReplay_12 : decode cL_sealByReplay 12 = .ok (.astore_n 3, 1) := by decide +kernel
theorem dL_sealByReplay_13 : decode cL_sealByReplay 13 = .ok (.iconst 1, 1) := by decide +kernel
theorem dL_sealByReplay_14 : decode cL_sealByReplay 14 = .ok (.ireturn, 1) := by decide +kernel
theorem dL_sealByReplay_15 : decode cL_sealByReplay 15 = .ok (.iconst 0, 1) := by decide +kernel
theorem dL_sealByReplay_16 : decode cL_sealByReplay 16 = .ok (.ireturn, 1) := by decide +kernel
set_option maxRecDepth 20000 in
theorem ggL_revokedShare_X6_revokedShare : GoodIn wsL_revokedShare wsX6_revokedShare := goodIn_ca (goodIn_r _ [6, 7, 8, 9, 10, 11, 12, 13, 14, 15, 16, 17, 18, 19, 20, 21, 22, 23, 24, 25, 26, 27, 28] (by decide +kernel) (by decide +kernel)) (goodIn_sub (fun _ h => List.mem_cons_of_mem _ (List.mem_append_right _ h)) (by decide +kernel))
set_option maxRecDepth 20000 in
theorem gL_revokedShare_X6_revokedShare : GoodIn wsL_revokedShare (wsV RL 157 RX6 yX6_revokedShare wsX6_revokedShare) := goodIn_app (goodIn_of _ (by decide +kernel)) ggL_revokedShare_X6_revokedShare
theorem dL_revokedShare_0 : decode cL_revokedShare 0 = .ok (.aload_n 1, 1) := by decide +kernel
theorem dL_revokedShare_1 : decode cL_revokedShare 1 = .ok (.iconst 0, 1) := by decide +kernel
theorem dL_revokedShare_2 : decode cL_revokedShare 2 = .ok (.aload_n 0, 1) := by decide +kernel
theorem dL_revokedShare_3 : decode cL_revokedShare 3 = .ok (.invokevirtual 157, 3) := by decide +kernel
theorem dL_revokedShare_6 : decode cL_revokedShare 6 = .ok (.f2d, 1) := by decide +kernel
theorem dL_revokedShare_7 : decode cL_revokedShare 7 = .ok (.dastore, 1) := by decide +kernel
theorem dL_revokedShare_8 : decode cL_revokedShare 8 = .ok (.goto 6, 3) := by decide +kernel
theorem dL_revokedShare_11 : decode cL_revokedShare 11 = .ok (.astore_n 2, 1) := by decide +kernel
theorem dL_revokedShare_12 : decode cL_revokedShare 12 = .ok (.iconst 1, 1) := by decide +kernel
theorem dL_revokedShare_13 : decode cL_revokedShare 13 = .ok (.ireturn, 1) := by decide +kernel
theorem dL_revokedShare_14 : decode cL_revokedShare 14 = .ok (.iconst 0, 1) := by decide +kernel
theorem dL_revokedShare_15 : decode cL_revokedShare 15 = .ok (.ireturn, 1) := by decide +kernel
set_option maxRecDepth 20000 in
theorem ggL_meanRisk_X6_meanRisk : GoodIn wsL_meanRisk wsX6_meanRisk := goodIn_ca (goodIn_ca (goodIn_ca (goodIn_r _ [6, 7, 8, 9, 10, 11, 12, 13, 14, 5, 15, 16, 17, 18, 19, 20, 21, 22, 23, 24, 25, 26, 27, 28, 29, 30, 31, 32, 33, 34, 35, 36, 37, 38, 39, 40, 41, 42, 43, 44, 45, 46, 47, 48, 49, 50, 51, 52, 53, 54, 55, 56, 57, 58, 59, 60, 61, 62, 63, 64, 65, 66, 67, 68, 69, 70, 71, 72, 73, 74, 75, 76, 77, 78, 79, 80, 81, 82, 83, 84, 85, 86, 87, 88, 89, 90, 91, 92, 93, 94, 95, 96, 97, 98, 99, 100, 101, 102, 103, 104, 105, 106, 107, 108, 109, 110, 111] (by decide +kernel) (by decide +kernel)) (goodIn_sub (fun _ h => List.mem_cons_of_mem _ (List.mem_append_left _ (List.mem_append_left _ (List.mem_append_right _ h)))) (by decide +kernel))) (goodIn_sub (fun _ h => List.mem_cons_of_mem _ (List.mem_append_left _ (List.mem_append_right _ h))) (by decide +kernel))) (goodIn_sub (fun _ h => List.mem_cons_of_mem _ (List.mem_append_right _ h)) (by decide +kernel))
set_option maxRecDepth 20000 in
theorem gL_meanRisk_X6_meanRisk : GoodIn wsL_meanRisk (wsV RL 163 RX6 yX6_meanRisk wsX6_meanRisk) := goodIn_app (goodIn_of _ (by decide +kernel)) ggL_meanRisk_X6_meanRisk
theorem dL_meanRisk_0 : decode cL_meanRisk 0 = .ok (.aload_n 1, 1) := by decide +kernel
theorem dL_meanRisk_1 : decode cL_meanRisk 1 = .ok (.iconst 0, 1) := by decide +kernel
theorem dL_meanRisk_2 : decode cL_meanRisk 2 = .ok (.aload_n 0, 1) := by decide +kernel
theorem dL_meanRisk_3 : decode cL_meanRisk 3 = .ok (.invokevirtual 163, 3) := by decide +kernel
theorem dL_meanRisk_6 : decode cL_meanRisk 6 = .ok (.dastore, 1) := by decide +kernel
theorem dL_meanRisk_7 : decode cL_meanRisk 7 = .ok (.goto 6, 3) := by decide +kernel
theorem dL_meanRisk_10 : decode cL_meanRisk 10 = .ok (.astore_n 2, 1) := by decide +kernel
theorem dL_meanRisk_11 : decode cL_meanRisk 11 = .ok (.iconst 1, 1) := by decide +kernel
theorem dL_meanRisk_12 : decode cL_meanRisk 12 = .ok (.ireturn, 1) := by decide +kernel
theorem dL_meanRisk_13 : decode cL_meanRisk 13 = .ok (.iconst 0, 1) := by decide +kernel
theorem dL_meanRisk_14 : decode cL_meanRisk 14 = .ok (.ireturn, 1) := by decide +kernel
