theorem dX0_init_0 : decode cX0_init 0 = .ok (.aload_n 0, 1) := by decide +kernel
theorem dX0_init_1 : decode cX0_init 1 = .ok (.invokespecial 3, 3) := by decide +kernel
theorem dX0_init_4 : decode cX0_init 4 = .ok (.aload_n 0, 1) := by decide +kernel
theorem dX0_init_5 : decode cX0_init 5 = .ok (.aload_n 1, 1) := by decide +kernel
theorem dX0_init_6 : decode cX0_init 6 = .ok (.putfield 9, 3) := by decide +kernel
theorem dX0_init_9 : decode cX0_init 9 = .ok (.return_, 1) := by decide +kernel
set_option maxRecDepth 20000 in
theorem ggX0_version_X2_at : GoodIn wsX0_version wsX2_at := goodIn_ca (goodIn_r _ [6, 7, 8, 10, 11] (by decide +kernel) (by decide +kernel)) (goodIn_sub (fun _ h => List.mem_cons_of_mem _ (List.mem_append_right _ h)) (by decide +kernel))
set_option maxRecDepth 20000 in
theorem gX0_version_X2_at : GoodIn wsX0_version (wsV RX0 15 RX2 yX2_at wsX2_at) := goodIn_app (goodIn_of _ (by decide +kernel)) ggX0_version_X2_at
theorem dX0_version_0 : decode cX0_version 0 = .ok (.aload_n 0, 1) := by decide +kernel
theorem dX0_version_1 : decode cX0_version 1 = .ok (.getfield 9, 3) := by decide +kernel
theorem dX0_version_4 : decode cX0_version 4 = .ok (.iconst 0, 1) := by decide +kernel
theorem dX0_version_5 : decode cX0_version 5 = .ok (.invokevirtual 15, 3) := by decide +kernel
theorem dX0_version_8 : decode cX0_version 8 = .ok (.ireturn, 1) := by decide +kernel
set_option maxRecDepth 20000 in
theorem ggX0_scale_X0_version : GoodIn wsX0_scale wsX0_version := goodIn_ca (goodIn_r _ [5, 6, 7, 8, 9, 10, 11, 12, 13, 14, 15, 16] (by decide +kernel) (by decide +kernel)) (goodIn_sub (fun _ h => List.mem_cons_of_mem _ (List.mem_append_right _ h)) (by decide +kernel))
set_option maxRecDepth 20000 in
theorem gX0_scale_X0_version : GoodIn wsX0_scale (wsV RX0 21 RX0 yX0_version wsX0_version) := goodIn_app (goodIn_of _ (by decide +kernel)) ggX0_scale_X0_version
theorem dX0_scale_0 : decode cX0_scale 0 = .ok (.aload_n 0, 1) := by decide +kernel
theorem dX0_scale_1 : decode cX0_scale 1 = .ok (.invokevirtual 21, 3) := by decide +kernel
theorem dX0_scale_4 : decode cX0_scale 4 = .ok (.istore_n 1, 1) := by decide +kernel
theorem dX0_scale_5 : decode cX0_scale 5 = .ok (.iload_n 1, 1) := by decide +kernel
theorem dX0_scale_6 : decode cX0_scale 6 = .ok (.iconst 3, 1) := by decide +kernel
theorem dX0_scale_7 : decode cX0_scale 7 = .ok (.if_icmp .gt 5, 3) := by decide +kernel
theorem dX0_scale_10 : decode cX0_scale 10 = .ok (.iconst 2, 1) := by decide +kernel
theorem dX0_scale_11 : decode cX0_scale 11 = .ok (.ireturn, 1) := by decide +kernel
theorem dX0_scale_12 : decode cX0_scale 12 = .ok (.iload_n 1, 1) := by decide +kernel
theorem dX0_scale_13 : decode cX0_scale 13 = .ok (.iconst 5, 1) := by decide +kernel
theorem dX0_scale_14 : decode cX0_scale 14 = .ok (.if_icmp .gt 7, 3) := by decide +kernel
theorem dX0_scale_17 : decode cX0_scale 17 = .ok (.iconst 4, 1) := by decide +kernel
theorem dX0_scale_18 : decode cX0_scale 18 = .ok (.goto 5, 3) := by decide +kernel
theorem dX0_scale_21 : decode cX0_scale 21 = .ok (.bipush 8, 2) := by decide +kernel
theorem dX0_scale_23 : decode cX0_scale 23 = .ok (.ireturn, 1) := by decide +kernel
set_option maxRecDepth 20000 in
theorem ggX0_length_X2_two : GoodIn wsX0_length wsX2_two := goodIn_ca (goodIn_r _ [6, 7, 8, 27, 28] (by decide +kernel) (by decide +kernel)) (goodIn_sub (fun _ h => List.mem_cons_of_mem _ (List.mem_append_right _ h)) (by decide +kernel))
set_option maxRecDepth 20000 in
theorem gX0_length_X2_two : GoodIn wsX0_length (wsV RX0 25 RX2 yX2_two wsX2_two) := goodIn_app (goodIn_of _ (by decide +kernel)) ggX0_length_X2_two
set_option maxRecDepth 20000 in
theorem ggX0_length_X0_version : GoodIn wsX0_length wsX0_version := goodIn_ca (goodIn_r _ [13, 1, 14, 15, 16, 5, 17, 7, 8, 26, 27, 28] (by decide +kernel) (by decide +kernel)) (goodIn_sub (fun _ h => List.mem_cons_of_mem _ (List.mem_append_right _ h)) (by decide +kernel))
set_option maxRecDepth 20000 in
theorem gX0_length_X0_version : GoodIn wsX0_length (wsV RX0 21 RX0 yX0_version wsX0_version) := goodIn_app (goodIn_of _ (by decide +kernel)) ggX0_length_X0_version
set_option maxRecDepth 20000 in
theorem ggX0_length_X2_count : GoodIn wsX0_length wsX2_count := goodIn_r _ [21, 7, 27, 28] (by decide +kernel) (by decide +kernel)
set_option maxRecDepth 20000 in
theorem gX0_length_X2_count : GoodIn wsX0_length (wsV RX0 28 RX2 yX2_count wsX2_count) := goodIn_app (goodIn_of _ (by decide +kernel)) ggX0_length_X2_count
set_option maxRecDepth 20000 in
theorem ggX0_length_X0_scale : GoodIn wsX0_length wsX0_scale := goodIn_ca (goodIn_r _ [25, 9, 10, 11, 12, 13, 1, 14, 15, 16, 5, 17, 7, 8, 26, 27, 28] (by decide +kernel) (by decide +kernel)) (goodIn_sub (fun _ h => List.mem_cons_of_mem _ (List.mem_append_right _ h)) (by decide +kernel))
set_option maxRecDepth 20000 in
theorem gX0_length_X0_scale : GoodIn wsX0_length (wsV RX0 31 RX0 yX0_scale wsX0_scale) := goodIn_app (goodIn_of _ (by decide +kernel)) ggX0_length_X0_scale
theorem dX0_length_0 : decode cX0_length 0 = .ok (.aload_n 0, 1) := by decide +kernel
theorem dX0_length_1 : decode cX0_length 1 = .ok (.getfield 9, 3) := by decide +kernel
theorem dX0_length_4 : decode cX0_length 4 = .ok (.bipush 26, 2) := by decide +kernel
theorem dX0_length_6 : decode cX0_length 6 = .ok (.invokevirtual 25, 3) := by decide +kernel
theorem dX0_length_9 : decode cX0_length 9 = .ok (.istore_n 1, 1) := by decide +kernel
theorem dX0_length_10 : decode cX0_length 10 = .ok (.iload_n 1, 1) := by decide +kernel
theorem dX0_length_11 : decode cX0_length 11 = .ok (.ifCond .ne 21, 3) := by decide +kernel
theorem dX0_length_14 : decode cX0_length 14 = .ok (.aload_n 0, 1) := by decide +kernel
theorem dX0_length_15 : decode cX0_length 15 = .ok (.invokevirtual 21, 3) := by decide +kernel
theorem dX0_length_18 : decode cX0_length 18 = .ok (.iconst 3, 1) := by decide +kernel
theorem dX0_length_19 : decode cX0_length 19 = .ok (.if_icmp .gt 13, 3) := by decide +kernel
theorem dX0_length_22 : decode cX0_length 22 = .ok (.aload_n 0, 1) := by decide +kernel
theorem dX0_length_23 : decode cX0_length 23 = .ok (.getfield 9, 3) := by decide +kernel
theorem dX0_length_26 : decode cX0_length 26 = .ok (.invokevirtual 28, 3) := by decide +kernel
theorem dX0_length_29 : decode cX0_length 29 = .ok (.goto 9, 3) := by decide +kernel
theorem dX0_length_32 : decode cX0_length 32 = .ok (.iload_n 1, 1) := by decide +kernel
theorem dX0_length_33 : decode cX0_length 33 = .ok (.aload_n 0, 1) := by decide +kernel
theorem dX0_length_34 : decode cX0_length 34 = .ok (.invokevirtual 31, 3) := by decide +kernel
theorem dX0_length_37 : decode cX0_length 37 = .ok (.imul, 1) := by decide +kernel
theorem dX0_length_38 : decode cX0_length 38 = .ok (.ireturn, 1) := by decide +kernel
set_option maxRecDepth 20000 in
theorem ggX0_staticFrom_X2_two : GoodIn wsX0_staticFrom wsX2_two := goodIn_ca (goodIn_r _ [6, 7, 8, 10, 11] (by decide +kernel) (by decide +kernel)) (goodIn_sub (fun _ h => List.mem_cons_of_mem _ (List.mem_append_right _ h)) (by decide +kernel))
set_option maxRecDepth 20000 in
theorem gX0_staticFrom_X2_two : GoodIn wsX0_staticFrom (wsV RX0 25 RX2 yX2_two wsX2_two) := goodIn_app (goodIn_of _ (by decide +kernel)) ggX0_staticFrom_X2_two
theorem dX0_staticFrom_0 : decode cX0_staticFrom 0 = .ok (.aload_n 0, 1) := by decide +kernel
theorem dX0_staticFrom_1 : decode cX0_staticFrom 1 = .ok (.getfield 9, 3) := by decide +kernel
theorem dX0_staticFrom_4 : decode cX0_staticFrom 4 = .ok (.bipush 14, 2) := by decide +kernel
theorem dX0_staticFrom_6 : decode cX0_staticFrom 6 = .ok (.invokevirtual 25, 3) := by decide +kernel
theorem dX0_staticFrom_9 : decode cX0_staticFrom 9 = .ok (.ireturn, 1) := by decide +kernel
set_option maxRecDepth 20000 in
theorem ggX0_high_X2_two : GoodIn wsX0_high wsX2_two := goodIn_ca (goodIn_r _ [6, 7, 8, 10, 11] (by decide +kernel) (by decide +kernel)) (goodIn_sub (fun _ h => List.mem_cons_of_mem _ (List.mem_append_right _ h)) (by decide +kernel))
set_option maxRecDepth 20000 in
theorem gX0_high_X2_two : GoodIn wsX0_high (wsV RX0 25 RX2 yX2_two wsX2_two) := goodIn_app (goodIn_of _ (by decide +kernel)) ggX0_high_X2_two
theorem dX0_high_0 : decode cX0_high 0 = .ok (.aload_n 0, 1) := by decide +kernel
theorem dX0_high_1 : decode cX0_high 1 = .ok (.getfield 9, 3) := by decide +kernel
theorem dX0_high_4 : decode cX0_high 4 = .ok (.iconst 4, 1) := by decide +kernel
theorem dX0_high_5 : decode cX0_high 5 = .ok (.invokevirtual 25, 3) := by decide +kernel
theorem dX0_high_8 : decode cX0_high 8 = .ok (.ireturn, 1) := by decide +kernel
set_option maxRecDepth 20000 in
theorem ggX0_globals_X2_two : GoodIn wsX0_globals wsX2_two := goodIn_ca (goodIn_r _ [6, 7, 8, 10, 11] (by decide +kernel) (by decide +kernel)) (goodIn_sub (fun _ h => List.mem_cons_of_mem _ (List.mem_append_right _ h)) (by decide +kernel))
set_option maxRecDepth 20000 in
theorem gX0_globals_X2_two : GoodIn wsX0_globals (wsV RX0 25 RX2 yX2_two wsX2_two) := goodIn_app (goodIn_of _ (by decide +kernel)) ggX0_globals_X2_two
theorem dX0_globals_0 : decode cX0_globals 0 = .ok (.aload_n 0, 1) := by decide +kernel
theorem dX0_globals_1 : decode cX0_globals 1 = .ok (.getfield 9, 3) := by decide +kernel
theorem dX0_globals_4 : decode cX0_globals 4 = .ok (.bipush 12, 2) := by decide +kernel
theorem dX0_globals_6 : decode cX0_globals 6 = .ok (.invokevirtual 25, 3) := by decide +kernel
theorem dX0_globals_9 : decode cX0_globals 9 = .ok (.ireturn, 1) := by decide +kernel
set_option maxRecDepth 20000 in
theorem ggX0_objects_X2_two : GoodIn wsX0_objects wsX2_two := goodIn_ca (goodIn_r _ [6, 7, 8, 10, 11] (by decide +kernel) (by decide +kernel)) (goodIn_sub (fun _ h => List.mem_cons_of_mem _ (List.mem_append_right _ h)) (by decide +kernel))
set_option maxRecDepth 20000 in
theorem gX0_objects_X2_two : GoodIn wsX0_objects (wsV RX0 25 RX2 yX2_two wsX2_two) := goodIn_app (goodIn_of _ (by decide +kernel)) ggX0_objects_X2_two
theorem dX0_objects_0 : decode cX0_objects 0 = .ok (.aload_n 0, 1) := by decide +kernel
theorem dX0_objects_1 : decode cX0_objects 1 = .ok (.getfield 9, 3) := by decide +kernel
theorem dX0_objects_4 : decode cX0_objects 4 = .ok (.bipush 10, 2) := by decide +kernel
theorem dX0_objects_6 : decode cX0_objects 6 = .ok (.invokevirtual 25, 3) := by decide +kernel
theorem dX0_objects_9 : decode cX0_objects 9 = .ok (.ireturn, 1) := by decide +kernel
set_option maxRecDepth 20000 in
theorem ggX0_words_X2_two : GoodIn wsX0_words wsX2_two := goodIn_ca (goodIn_r _ [6, 7, 8, 10, 11] (by decide +kernel) (by decide +kernel)) (goodIn_sub (fun _ h => List.mem_cons_of_mem _ (List.mem_append_right _ h)) (by decide +kernel))
set_option maxRecDepth 20000 in
theorem gX0_words_X2_two : GoodIn wsX0_words (wsV RX0 25 RX2 yX2_two wsX2_two) := goodIn_app (goodIn_of _ (by decide +kernel)) ggX0_words_X2_two
theorem dX0_words_0 : decode cX0_words 0 = .ok (.aload_n 0, 1) := by decide +kernel
theorem dX0_words_1 : decode cX0_words 1 = .ok (.getfield 9, 3) := by decide +kernel
theorem dX0_words_4 : decode cX0_words 4 = .ok (.bipush 8, 2) := by decide +kernel
theorem dX0_words_6 : decode cX0_words 6 = .ok (.invokevirtual 25, 3) := by decide +kernel
theorem dX0_words_9 : decode cX0_words 9 = .ok (.ireturn, 1) := by decide +kernel
set_option maxRecDepth 20000 in
theorem ggX0_signs_X0_words : GoodIn wsX0_signs wsX0_words := goodIn_ca (goodIn_r _ [6, 1, 7, 8, 9, 10, 11, 12, 13, 18, 19, 20] (by decide +kernel) (by decide +kernel)) (goodIn_sub (fun _ h => List.mem_cons_of_mem _ (List.mem_append_right _ h)) (by decide +kernel))
set_option maxRecDepth 20000 in
theorem gX0_signs_X0_words : GoodIn wsX0_signs (wsV RX0 34 RX0 yX0_words wsX0_words) := goodIn_app (goodIn_of _ (by decide +kernel)) ggX0_signs_X0_words
set_option maxRecDepth 20000 in
theorem ggX0_signs_X2_at : GoodIn wsX0_signs wsX2_at := goodIn_ca (goodIn_r _ [17, 12, 13, 19, 20] (by decide +kernel) (by decide +kernel)) (goodIn_sub (fun _ h => List.mem_cons_of_mem _ (List.mem_append_right _ h)) (by decide +kernel))
set_option maxRecDepth 20000 in
theorem gX0_signs_X2_at : GoodIn wsX0_signs (wsV RX0 15 RX2 yX2_at wsX2_at) := goodIn_app (goodIn_of _ (by decide +kernel)) ggX0_signs_X2_at
theorem dX0_signs_0 : decode cX0_signs 0 = .ok (.aload_n 0, 1) := by decide +kernel
theorem dX0_signs_1 : decode cX0_signs 1 = .ok (.getfield 9, 3) := by decide +kernel
theorem dX0_signs_4 : decode cX0_signs 4 = .ok (.aload_n 0, 1) := by decide +kernel
theorem dX0_signs_5 : decode cX0_signs 5 = .ok (.invokevirtual 34, 3) := by decide +kernel
theorem dX0_signs_8 : decode cX0_signs 8 = .ok (.invokevirtual 15, 3) := by decide +kernel
theorem dX0_signs_11 : decode cX0_signs 11 = .ok (.ireturn, 1) := by decide +kernel
set_option maxRecDepth 20000 in
theorem ggX0_entryBytes_X0_words : GoodIn wsX0_entryBytes wsX0_words := goodIn_ca (goodIn_r _ [6, 1, 7, 8, 9, 10, 11, 12, 13, 22, 23, 24] (by decide +kernel) (by decide +kernel)) (goodIn_sub (fun _ h => List.mem_cons_of_mem _ (List.mem_append_right _ h)) (by decide +kernel))
set_option maxRecDepth 20000 in
theorem gX0_entryBytes_X0_words : GoodIn wsX0_entryBytes (wsV RX0 34 RX0 yX0_words wsX0_words) := goodIn_app (goodIn_of _ (by decide +kernel)) ggX0_entryBytes_X0_words
set_option maxRecDepth 20000 in
theorem ggX0_entryBytes_X0_signs : GoodIn wsX0_entryBytes wsX0_signs := goodIn_ca (goodIn_r _ [17, 1, 2, 3, 4, 5, 6, 7, 8, 9, 10, 11, 12, 13, 18, 19, 20, 21, 22, 23, 24] (by decide +kernel) (by decide +kernel)) (goodIn_sub (fun _ h => List.mem_cons_of_mem _ (List.mem_append_right _ h)) (by decide +kernel))
set_option maxRecDepth 20000 in
theorem gX0_entryBytes_X0_signs : GoodIn wsX0_entryBytes (wsV RX0 37 RX0 yX0_signs wsX0_signs) := goodIn_app (goodIn_of _ (by decide +kernel)) ggX0_entryBytes_X0_signs
set_option maxRecDepth 20000 in
theorem ggX0_entryBytes_X2_at : GoodIn wsX0_entryBytes wsX2_at := goodIn_ca (goodIn_r _ [21, 12, 13, 23, 24] (by decide +kernel) (by decide +kernel)) (goodIn_sub (fun _ h => List.mem_cons_of_mem _ (List.mem_append_right _ h)) (by decide +kernel))
set_option maxRecDepth 20000 in
theorem gX0_entryBytes_X2_at : GoodIn wsX0_entryBytes (wsV RX0 15 RX2 yX2_at wsX2_at) := goodIn_app (goodIn_of _ (by decide +kernel)) ggX0_entryBytes_X2_at
theorem dX0_entryBytes_0 : decode cX0_entryBytes 0 = .ok (.aload_n 0, 1) := by decide +kernel
theorem dX0_entryBytes_1 : decode cX0_entryBytes 1 = .ok (.getfield 9, 3) := by decide +kernel
theorem dX0_entryBytes_4 : decode cX0_entryBytes 4 = .ok (.aload_n 0, 1) := by decide +kernel
theorem dX0_entryBytes_5 : decode cX0_entryBytes 5 = .ok (.invokevirtual 34, 3) := by decide +kernel
theorem dX0_entryBytes_8 : decode cX0_entryBytes 8 = .ok (.iconst 1, 1) := by decide +kernel
theorem dX0_entryBytes_9 : decode cX0_entryBytes 9 = .ok (.iadd, 1) := by decide +kernel
theorem dX0_entryBytes_10 : decode cX0_entryBytes 10 = .ok (.aload_n 0, 1) := by decide +kernel
theorem dX0_entryBytes_11 : decode cX0_entryBytes 11 = .ok (.invokevirtual 37, 3) := by decide +kernel
theorem dX0_entryBytes_14 : decode cX0_entryBytes 14 = .ok (.iadd, 1) := by decide +kernel
theorem dX0_entryBytes_15 : decode cX0_entryBytes 15 = .ok (.invokevirtual 15, 3) := by decide +kernel
theorem dX0_entryBytes_18 : decode cX0_entryBytes 18 = .ok (.ireturn, 1) := by decide +kernel
set_option maxRecDepth 20000 in
theorem ggX0_entries_X0_words : GoodIn wsX0_entries wsX0_words := goodIn_ca (goodIn_r _ [6, 1, 7, 8, 9, 10, 11, 12, 13, 22, 23, 24] (by decide +kernel) (by decide +kernel)) (goodIn_sub (fun _ h => List.mem_cons_of_mem _ (List.mem_append_right _ h)) (by decide +kernel))
set_option maxRecDepth 20000 in
theorem gX0_entries_X0_words : GoodIn wsX0_entries (wsV RX0 34 RX0 yX0_words wsX0_words) := goodIn_app (goodIn_of _ (by decide +kernel)) ggX0_entries_X0_words
set_option maxRecDepth 20000 in
theorem ggX0_entries_X0_signs : GoodIn wsX0_entries wsX0_signs := goodIn_ca (goodIn_r _ [17, 1, 2, 3, 4, 5, 6, 7, 8, 9, 10, 11, 12, 13, 18, 19, 20, 21, 22, 23, 24] (by decide +kernel) (by decide +kernel)) (goodIn_sub (fun _ h => List.mem_cons_of_mem _ (List.mem_append_right _ h)) (by decide +kernel))
set_option maxRecDepth 20000 in
theorem gX0_entries_X0_signs : GoodIn wsX0_entries (wsV RX0 37 RX0 yX0_signs wsX0_signs) := goodIn_app (goodIn_of _ (by decide +kernel)) ggX0_entries_X0_signs
set_option maxRecDepth 20000 in
theorem ggX0_entries_X2_two : GoodIn wsX0_entries wsX2_two := goodIn_ca (goodIn_r _ [11, 12, 13, 23, 24] (by decide +kernel) (by decide +kernel)) (goodIn_sub (fun _ h => List.mem_cons_of_mem _ (List.mem_append_right _ h)) (by decide +kernel))
set_option maxRecDepth 20000 in
theorem gX0_entries_X2_two : GoodIn wsX0_entries (wsV RX0 25 RX2 yX2_two wsX2_two) := goodIn_app (goodIn_of _ (by decide +kernel)) ggX0_entries_X2_two
theorem dX0_entries_0 : decode cX0_entries 0 = .ok (.aload_n 0, 1) := by decide +kernel
theorem dX0_entries_1 : decode cX0_entries 1 = .ok (.getfield 9, 3) := by decide +kernel
theorem dX0_entries_4 : decode cX0_entries 4 = .ok (.aload_n 0, 1) := by decide +kernel
theorem dX0_entries_5 : decode cX0_entries 5 = .ok (.invokevirtual 34, 3) := by decide +kernel
theorem dX0_entries_8 : decode cX0_entries 8 = .ok (.iconst 2, 1) := by decide +kernel
theorem dX0_entries_9 : decode cX0_entries 9 = .ok (.iadd, 1) := by decide +kernel
theorem dX0_entries_10 : decode cX0_entries 10 = .ok (.aload_n 0, 1) := by decide +kernel
theorem dX0_entries_11 : decode cX0_entries 11 = .ok (.invokevirtual 37, 3) := by decide +kernel
theorem dX0_entries_14 : decode cX0_entries 14 = .ok (.iadd, 1) := by decide +kernel
theorem dX0_entries_15 : decode cX0_entries 15 = .ok (.invokevirtual 25, 3) := by decide +kernel
theorem dX0_entries_18 : decode cX0_entries 18 = .ok (.i2s, 1) := by decide +kernel
theorem dX0_entries_19 : decode cX0_entries 19 = .ok (.ireturn, 1) := by decide +kernel
set_option maxRecDepth 20000 in
theorem ggX0_shorts_X0_version : GoodIn wsX0_shorts wsX0_version := goodIn_ca (goodIn_r _ [6, 1, 7, 8, 9, 10, 11, 12, 13, 18, 19, 20] (by decide +kernel) (by decide +kernel)) (goodIn_sub (fun _ h => List.mem_cons_of_mem _ (List.mem_append_right _ h)) (by decide +kernel))
set_option maxRecDepth 20000 in
theorem gX0_shorts_X0_version : GoodIn wsX0_shorts (wsV RX0 21 RX0 yX0_version wsX0_version) := goodIn_app (goodIn_of _ (by decide +kernel)) ggX0_shorts_X0_version
set_option maxRecDepth 20000 in
theorem ggX0_shorts_X2_two : GoodIn wsX0_shorts wsX2_two := goodIn_ca (goodIn_r _ [17, 12, 13, 19, 20] (by decide +kernel) (by decide +kernel)) (goodIn_sub (fun _ h => List.mem_cons_of_mem _ (List.mem_append_right _ h)) (by decide +kernel))
set_option maxRecDepth 20000 in
theorem gX0_shorts_X2_two : GoodIn wsX0_shorts (wsV RX0 25 RX2 yX2_two wsX2_two) := goodIn_app (goodIn_of _ (by decide +kernel)) ggX0_shorts_X2_two
theorem dX0_shorts_0 : decode cX0_shorts 0 = .ok (.aload_n 0, 1) := by decide +kernel
theorem dX0_shorts_1 : decode cX0_shorts 1 = .ok (.invokevirtual 21, 3) := by decide +kernel
theorem dX0_shorts_4 : decode cX0_shorts 4 = .ok (.iconst 1, 1) := by decide +kernel
theorem dX0_shorts_5 : decode cX0_shorts 5 = .ok (.if_icmp .ne 7, 3) := by decide +kernel
theorem dX0_shorts_8 : decode cX0_shorts 8 = .ok (.iconst 0, 1) := by decide +kernel
theorem dX0_shorts_9 : decode cX0_shorts 9 = .ok (.goto 12, 3) := by decide +kernel
theorem dX0_shorts_12 : decode cX0_shorts 12 = .ok (.aload_n 0, 1) := by decide +kernel
theorem dX0_shorts_13 : decode cX0_shorts 13 = .ok (.getfield 9, 3) := by decide +kernel
theorem dX0_shorts_16 : decode cX0_shorts 16 = .ok (.bipush 24, 2) := by decide +kernel
theorem dX0_shorts_18 : decode cX0_shorts 18 = .ok (.invokevirtual 25, 3) := by decide +kernel
theorem dX0_shorts_21 : decode cX0_shorts 21 = .ok (.ireturn, 1) := by decide +kernel
set_option maxRecDepth 20000 in
theorem ggX0_start_X0_version : GoodIn wsX0_start wsX0_version := goodIn_ca (goodIn_r _ [6, 1, 7, 8, 9, 10, 11, 12, 13, 18, 19, 20] (by decide +kernel) (by decide +kernel)) (goodIn_sub (fun _ h => List.mem_cons_of_mem _ (List.mem_append_right _ h)) (by decide +kernel))
set_option maxRecDepth 20000 in
theorem gX0_start_X0_version : GoodIn wsX0_start (wsV RX0 21 RX0 yX0_version wsX0_version) := goodIn_app (goodIn_of _ (by decide +kernel)) ggX0_start_X0_version
set_option maxRecDepth 20000 in
theorem ggX0_start_X2_two : GoodIn wsX0_start wsX2_two := goodIn_ca (goodIn_r _ [17, 12, 13, 19, 20] (by decide +kernel) (by decide +kernel)) (goodIn_sub (fun _ h => List.mem_cons_of_mem _ (List.mem_append_right _ h)) (by decide +kernel))
set_option maxRecDepth 20000 in
theorem gX0_start_X2_two : GoodIn wsX0_start (wsV RX0 25 RX2 yX2_two wsX2_two) := goodIn_app (goodIn_of _ (by decide +kernel)) ggX0_start_X2_two
theorem dX0_start_0 : decode cX0_start 0 = .ok (.aload_n 0, 1) := by decide +kernel
theorem dX0_start_1 : decode cX0_start 1 = .ok (.invokevirtual 21, 3) := by decide +kernel
theorem dX0_start_4 : decode cX0_start 4 = .ok (.bipush 6, 2) := by decide +kernel
theorem dX0_start_6 : decode cX0_start 6 = .ok (.if_icmp .ne 30, 3) := by decide +kernel
theorem dX0_start_9 : decode cX0_start 9 = .ok (.iconst 4, 1) := by decide +kernel
theorem dX0_start_10 : decode cX0_start 10 = .ok (.aload_n 0, 1) := by decide +kernel
theorem dX0_start_11 : decode cX0_start 11 = .ok (.getfield 9, 3) := by decide +kernel
theorem dX0_start_14 : decode cX0_start 14 = .ok (.bipush 6, 2) := by decide +kernel
theorem dX0_start_16 : decode cX0_start 16 = .ok (.invokevirtual 25, 3) := by decide +kernel
theorem dX0_start_19 : decode cX0_start 19 = .ok (.imul, 1) := by decide +kernel
theorem dX0_start_20 : decode cX0_start 20 = .ok (.bipush 8, 2) := by decide +kernel
theorem dX0_start_22 : decode cX0_start 22 = .ok (.aload_n 0, 1) := by decide +kernel
theorem dX0_start_23 : decode cX0_start 23 = .ok (.getfield 9, 3) := by decide +kernel
theorem dX0_start_26 : decode cX0_start 26 = .ok (.bipush 40, 2) := by decide +kernel
theorem dX0_start_28 : decode cX0_start 28 = .ok (.invokevirtual 25, 3) := by decide +kernel
theorem dX0_start_31 : decode cX0_start 31 = .ok (.imul, 1) := by decide +kernel
theorem dX0_start_32 : decode cX0_start 32 = .ok (.iadd, 1) := by decide +kernel
theorem dX0_start_33 : decode cX0_start 33 = .ok (.goto 12, 3) := by decide +kernel
theorem dX0_start_36 : decode cX0_start 36 = .ok (.aload_n 0, 1) := by decide +kernel
theorem dX0_start_37 : decode cX0_start 37 = .ok (.getfield 9, 3) := by decide +kernel
theorem dX0_start_40 : decode cX0_start 40 = .ok (.bipush 6, 2) := by decide +kernel
theorem dX0_start_42 : decode cX0_start 42 = .ok (.invokevirtual 25, 3) := by decide +kernel
theorem dX0_start_45 : decode cX0_start 45 = .ok (.ireturn, 1) := by decide +kernel
set_option maxRecDepth 20000 in
theorem ggX0_letters_X0_version : GoodIn wsX0_letters wsX0_version := goodIn_ca (goodIn_r _ [6, 1, 7, 8, 9, 10, 11, 12, 13, 18, 19, 20] (by decide +kernel) (by decide +kernel)) (goodIn_sub (fun _ h => List.mem_cons_of_mem _ (List.mem_append_right _ h)) (by decide +kernel))
set_option maxRecDepth 20000 in
theorem gX0_letters_X0_version : GoodIn wsX0_letters (wsV RX0 21 RX0 yX0_version wsX0_version) := goodIn_app (goodIn_of _ (by decide +kernel)) ggX0_letters_X0_version
set_option maxRecDepth 20000 in
theorem ggX0_letters_X2_two : GoodIn wsX0_letters wsX2_two := goodIn_ca (goodIn_r _ [17, 12, 13, 19, 20] (by decide +kernel) (by decide +kernel)) (goodIn_sub (fun _ h => List.mem_cons_of_mem _ (List.mem_append_right _ h)) (by decide +kernel))
set_option maxRecDepth 20000 in
theorem gX0_letters_X2_two : GoodIn wsX0_letters (wsV RX0 25 RX2 yX2_two wsX2_two) := goodIn_app (goodIn_of _ (by decide +kernel)) ggX0_letters_X2_two
theorem dX0_letters_0 : decode cX0_letters 0 = .ok (.aload_n 0, 1) := by decide +kernel
theorem dX0_letters_1 : decode cX0_letters 1 = .ok (.invokevirtual 21, 3) := by decide +kernel
theorem dX0_letters_4 : decode cX0_letters 4 = .ok (.iconst 5, 1) := by decide +kernel
theorem dX0_letters_5 : decode cX0_letters 5 = .ok (.if_icmp .ge 7, 3) := by decide +kernel
theorem dX0_letters_8 : decode cX0_letters 8 = .ok (.iconst 0, 1) := by decide +kernel
theorem dX0_letters_9 : decode cX0_letters 9 = .ok (.goto 12, 3) := by decide +kernel
theorem dX0_letters_12 : decode cX0_letters 12 = .ok (.aload_n 0, 1) := by decide +kernel
theorem dX0_letters_13 : decode cX0_letters 13 = .ok (.getfield 9, 3) := by decide +kernel
theorem dX0_letters_16 : decode cX0_letters 16 = .ok (.bipush 52, 2) := by decide +kernel
theorem dX0_letters_18 : decode cX0_letters 18 = .ok (.invokevirtual 25, 3) := by decide +kernel
theorem dX0_letters_21 : decode cX0_letters 21 = .ok (.ireturn, 1) := by decide +kernel
set_option maxRecDepth 20000 in
theorem ggX0_ends_X0_version : GoodIn wsX0_ends wsX0_version := goodIn_ca (goodIn_r _ [6, 1, 7, 8, 9, 10, 11, 12, 13, 18, 19, 20] (by decide +kernel) (by decide +kernel)) (goodIn_sub (fun _ h => List.mem_cons_of_mem _ (List.mem_append_right _ h)) (by decide +kernel))
set_option maxRecDepth 20000 in
theorem gX0_ends_X0_version : GoodIn wsX0_ends (wsV RX0 21 RX0 yX0_version wsX0_version) := goodIn_app (goodIn_of _ (by decide +kernel)) ggX0_ends_X0_version
set_option maxRecDepth 20000 in
theorem ggX0_ends_X2_two : GoodIn wsX0_ends wsX2_two := goodIn_ca (goodIn_r _ [17, 12, 13, 19, 20] (by decide +kernel) (by decide +kernel)) (goodIn_sub (fun _ h => List.mem_cons_of_mem _ (List.mem_append_right _ h)) (by decide +kernel))
set_option maxRecDepth 20000 in
theorem gX0_ends_X2_two : GoodIn wsX0_ends (wsV RX0 25 RX2 yX2_two wsX2_two) := goodIn_app (goodIn_of _ (by decide +kernel)) ggX0_ends_X2_two
theorem dX0_ends_0 : decode cX0_ends 0 = .ok (.aload_n 0, 1) := by decide +kernel
theorem dX0_ends_1 : decode cX0_ends 1 = .ok (.invokevirtual 21, 3) := by decide +kernel
theorem dX0_ends_4 : decode cX0_ends 4 = .ok (.iconst 5, 1) := by decide +kernel
theorem dX0_ends_5 : decode cX0_ends 5 = .ok (.if_icmp .ge 7, 3) := by decide +kernel
theorem dX0_ends_8 : decode cX0_ends 8 = .ok (.iconst 0, 1) := by decide +kernel
theorem dX0_ends_9 : decode cX0_ends 9 = .ok (.goto 12, 3) := by decide +kernel
theorem dX0_ends_12 : decode cX0_ends 12 = .ok (.aload_n 0, 1) := by decide +kernel
theorem dX0_ends_13 : decode cX0_ends 13 = .ok (.getfield 9, 3) := by decide +kernel
theorem dX0_ends_16 : decode cX0_ends 16 = .ok (.bipush 46, 2) := by decide +kernel
theorem dX0_ends_18 : decode cX0_ends 18 = .ok (.invokevirtual 25, 3) := by decide +kernel
theorem dX0_ends_21 : decode cX0_ends 21 = .ok (.ireturn, 1) := by decide +kernel
set_option maxRecDepth 20000 in
theorem ggX0_more_X0_version : GoodIn wsX0_more wsX0_version := goodIn_ca (goodIn_r _ [6, 1, 7, 8, 9, 10, 11, 12, 13, 18, 19, 20] (by decide +kernel) (by decide +kernel)) (goodIn_sub (fun _ h => List.mem_cons_of_mem _ (List.mem_append_right _ h)) (by decide +kernel))
set_option maxRecDepth 20000 in
theorem gX0_more_X0_version : GoodIn wsX0_more (wsV RX0 21 RX0 yX0_version wsX0_version) := goodIn_app (goodIn_of _ (by decide +kernel)) ggX0_more_X0_version
set_option maxRecDepth 20000 in
theorem ggX0_more_X2_two : GoodIn wsX0_more wsX2_two := goodIn_ca (goodIn_r _ [17, 12, 13, 19, 20] (by decide +kernel) (by decide +kernel)) (goodIn_sub (fun _ h => List.mem_cons_of_mem _ (List.mem_append_right _ h)) (by decide +kernel))
set_option maxRecDepth 20000 in
theorem gX0_more_X2_two : GoodIn wsX0_more (wsV RX0 25 RX2 yX2_two wsX2_two) := goodIn_app (goodIn_of _ (by decide +kernel)) ggX0_more_X2_two
theorem dX0_more_0 : decode cX0_more 0 = .ok (.aload_n 0, 1) := by decide +kernel
theorem dX0_more_1 : decode cX0_more 1 = .ok (.invokevirtual 21, 3) := by decide +kernel
theorem dX0_more_4 : decode cX0_more 4 = .ok (.iconst 5, 1) := by decide +kernel
theorem dX0_more_5 : decode cX0_more 5 = .ok (.if_icmp .ge 7, 3) := by decide +kernel
theorem dX0_more_8 : decode cX0_more 8 = .ok (.iconst 0, 1) := by decide +kernel
theorem dX0_more_9 : decode cX0_more 9 = .ok (.goto 12, 3) := by decide +kernel
theorem dX0_more_12 : decode cX0_more 12 = .ok (.aload_n 0, 1) := by decide +kernel
theorem dX0_more_13 : decode cX0_more 13 = .ok (.getfield 9, 3) := by decide +kernel
theorem dX0_more_16 : decode cX0_more 16 = .ok (.bipush 54, 2) := by decide +kernel
theorem dX0_more_18 : decode cX0_more 18 = .ok (.invokevirtual 25, 3) := by decide +kernel
theorem dX0_more_21 : decode cX0_more 21 = .ok (.ireturn, 1) := by decide +kernel
set_option maxRecDepth 20000 in
theorem ggX0_moreWords_X0_more : GoodIn wsX0_moreWords wsX0_more := goodIn_ca (goodIn_r _ [6, 1, 7, 8, 9, 5, 10, 11, 12, 13, 14, 15, 16, 17, 18, 19, 20, 21, 22, 23, 24] (by decide +kernel) (by decide +kernel)) (goodIn_sub (fun _ h => List.mem_cons_of_mem _ (List.mem_append_right _ h)) (by decide +kernel))
set_option maxRecDepth 20000 in
theorem gX0_moreWords_X0_more : GoodIn wsX0_moreWords (wsV RX0 40 RX0 yX0_more wsX0_more) := goodIn_app (goodIn_of _ (by decide +kernel)) ggX0_moreWords_X0_more
set_option maxRecDepth 20000 in
theorem ggX0_moreWords_X2_two : GoodIn wsX0_moreWords wsX2_two := goodIn_ca (goodIn_r _ [21, 16, 17, 23, 24] (by decide +kernel) (by decide +kernel)) (goodIn_sub (fun _ h => List.mem_cons_of_mem _ (List.mem_append_right _ h)) (by decide +kernel))
set_option maxRecDepth 20000 in
theorem gX0_moreWords_X2_two : GoodIn wsX0_moreWords (wsV RX0 25 RX2 yX2_two wsX2_two) := goodIn_app (goodIn_of _ (by decide +kernel)) ggX0_moreWords_X2_two
theorem dX0_moreWords_0 : decode cX0_moreWords 0 = .ok (.aload_n 0, 1) := by decide +kernel
theorem dX0_moreWords_1 : decode cX0_moreWords 1 = .ok (.invokevirtual 40, 3) := by decide +kernel
theorem dX0_moreWords_4 : decode cX0_moreWords 4 = .ok (.istore_n 1, 1) := by decide +kernel
theorem dX0_moreWords_5 : decode cX0_moreWords 5 = .ok (.iload_n 1, 1) := by decide +kernel
theorem dX0_moreWords_6 : decode cX0_moreWords 6 = .ok (.ifCond .ne 7, 3) := by decide +kernel
theorem dX0_moreWords_9 : decode cX0_moreWords 9 = .ok (.iconst 0, 1) := by decide +kernel
theorem dX0_moreWords_10 : decode cX0_moreWords 10 = .ok (.goto 11, 3) := by decide +kernel
theorem dX0_moreWords_13 : decode cX0_moreWords 13 = .ok (.aload_n 0, 1) := by decide +kernel
theorem dX0_moreWords_14 : decode cX0_moreWords 14 = .ok (.getfield 9, 3) := by decide +kernel
theorem dX0_moreWords_17 : decode cX0_moreWords 17 = .ok (.iload_n 1, 1) := by decide +kernel
theorem dX0_moreWords_18 : decode cX0_moreWords 18 = .ok (.invokevirtual 25, 3) := by decide +kernel
theorem dX0_moreWords_21 : decode cX0_moreWords 21 = .ok (.ireturn, 1) := by decide +kernel
set_option maxRecDepth 20000 in
theorem ggX0_thirdWord_X0_more : GoodIn wsX0_thirdWord wsX0_more := goodIn_ca (goodIn_r _ [6, 1, 7, 8, 9, 5, 10, 11, 12, 13, 14, 15, 16, 17, 18, 19, 20, 21, 22, 23, 24] (by decide +kernel) (by decide +kernel)) (goodIn_sub (fun _ h => List.mem_cons_of_mem _ (List.mem_append_right _ h)) (by decide +kernel))
set_option maxRecDepth 20000 in
theorem gX0_thirdWord_X0_more : GoodIn wsX0_thirdWord (wsV RX0 40 RX0 yX0_more wsX0_more) := goodIn_app (goodIn_of _ (by decide +kernel)) ggX0_thirdWord_X0_more
set_option maxRecDepth 20000 in
theorem ggX0_thirdWord_X2_two : GoodIn wsX0_thirdWord wsX2_two := goodIn_ca (goodIn_r _ [21, 16, 17, 23, 24] (by decide +kernel) (by decide +kernel)) (goodIn_sub (fun _ h => List.mem_cons_of_mem _ (List.mem_append_right _ h)) (by decide +kernel))
set_option maxRecDepth 20000 in
theorem gX0_thirdWord_X2_two : GoodIn wsX0_thirdWord (wsV RX0 25 RX2 yX2_two wsX2_two) := goodIn_app (goodIn_of _ (by decide +kernel)) ggX0_thirdWord_X2_two
theorem dX0_thirdWord_0 : decode cX0_thirdWord 0 = .ok (.aload_n 0, 1) := by decide +kernel
theorem dX0_thirdWord_1 : decode cX0_thirdWord 1 = .ok (.invokevirtual 40, 3) := by decide +kernel
theorem dX0_thirdWord_4 : decode cX0_thirdWord 4 = .ok (.istore_n 1, 1) := by decide +kernel
theorem dX0_thirdWord_5 : decode cX0_thirdWord 5 = .ok (.iload_n 1, 1) := by decide +kernel
theorem dX0_thirdWord_6 : decode cX0_thirdWord 6 = .ok (.ifCond .eq 15, 3) := by decide +kernel
theorem dX0_thirdWord_9 : decode cX0_thirdWord 9 = .ok (.aload_n 0, 1) := by decide +kernel
theorem dX0_thirdWord_10 : decode cX0_thirdWord 10 = .ok (.getfield 9, 3) := by decide +kernel
theorem dX0_thirdWord_13 : decode cX0_thirdWord 13 = .ok (.iload_n 1, 1) := by decide +kernel
theorem dX0_thirdWord_14 : decode cX0_thirdWord 14 = .ok (.invokevirtual 25, 3) := by decide +kernel
theorem dX0_thirdWord_17 : decode cX0_thirdWord 17 = .ok (.iconst 3, 1) := by decide +kernel
theorem dX0_thirdWord_18 : decode cX0_thirdWord 18 = .ok (.if_icmp .ge 7, 3) := by decide +kernel
theorem dX0_thirdWord_21 : decode cX0_thirdWord 21 = .ok (.iconst 0, 1) := by decide +kernel
theorem dX0_thirdWord_22 : decode cX0_thirdWord 22 = .ok (.goto 14, 3) := by decide +kernel
theorem dX0_thirdWord_25 : decode cX0_thirdWord 25 = .ok (.aload_n 0, 1) := by decide +kernel
theorem dX0_thirdWord_26 : decode cX0_thirdWord 26 = .ok (.getfield 9, 3) := by decide +kernel
theorem dX0_thirdWord_29 : decode cX0_thirdWord 29 = .ok (.iload_n 1, 1) := by decide +kernel
theorem dX0_thirdWord_30 : decode cX0_thirdWord 30 = .ok (.bipush 6, 2) := by decide +kernel
theorem dX0_thirdWord_32 : decode cX0_thirdWord 32 = .ok (.iadd, 1) := by decide +kernel
theorem dX0_thirdWord_33 : decode cX0_thirdWord 33 = .ok (.invokevirtual 25, 3) := by decide +kernel
theorem dX0_thirdWord_36 : decode cX0_thirdWord 36 = .ok (.ireturn, 1) := by decide +kernel
set_option maxRecDepth 20000 in
theorem ggX0_unpacked_X0_version : GoodIn wsX0_unpacked wsX0_version := goodIn_ca (goodIn_r _ [6, 1, 7, 8, 9, 10, 11, 12, 13, 18, 19, 20] (by decide +kernel) (by decide +kernel)) (goodIn_sub (fun _ h => List.mem_cons_of_mem _ (List.mem_append_right _ h)) (by decide +kernel))
set_option maxRecDepth 20000 in
theorem gX0_unpacked_X0_version : GoodIn wsX0_unpacked (wsV RX0 21 RX0 yX0_version wsX0_version) := goodIn_app (goodIn_of _ (by decide +kernel)) ggX0_unpacked_X0_version
set_option maxRecDepth 20000 in
theorem ggX0_unpacked_X2_two : GoodIn wsX0_unpacked wsX2_two := goodIn_ca (goodIn_r _ [17, 12, 13, 19, 20] (by decide +kernel) (by decide +kernel)) (goodIn_sub (fun _ h => List.mem_cons_of_mem _ (List.mem_append_right _ h)) (by decide +kernel))
set_option maxRecDepth 20000 in
theorem gX0_unpacked_X2_two : GoodIn wsX0_unpacked (wsV RX0 25 RX2 yX2_two wsX2_two) := goodIn_app (goodIn_of _ (by decide +kernel)) ggX0_unpacked_X2_two
theorem dX0_unpacked_0 : decode cX0_unpacked 0 = .ok (.aload_n 0, 1) := by decide +kernel
theorem dX0_unpacked_1 : decode cX0_unpacked 1 = .ok (.invokevirtual 21, 3) := by decide +kernel
theorem dX0_unpacked_4 : decode cX0_unpacked 4 = .ok (.istore_n 3, 1) := by decide +kernel
theorem dX0_unpacked_5 : decode cX0_unpacked 5 = .ok (.iload_n 3, 1) := by decide +kernel
theorem dX0_unpacked_6 : decode cX0_unpacked 6 = .ok (.iconst 3, 1) := by decide +kernel
theorem dX0_unpacked_7 : decode cX0_unpacked 7 = .ok (.if_icmp .gt 7, 3) := by decide +kernel
theorem dX0_unpacked_10 : decode cX0_unpacked 10 = .ok (.iconst 2, 1) := by decide +kernel
theorem dX0_unpacked_11 : decode cX0_unpacked 11 = .ok (.iload_n 1, 1) := by decide +kernel
theorem dX0_unpacked_12 : decode cX0_unpacked 12 = .ok (.imul, 1) := by decide +kernel
theorem dX0_unpacked_13 : decode cX0_unpacked 13 = .ok (.ireturn, 1) := by decide +kernel
theorem dX0_unpacked_14 : decode cX0_unpacked 14 = .ok (.iload_n 3, 1) := by decide +kernel
theorem dX0_unpacked_15 : decode cX0_unpacked 15 = .ok (.iconst 5, 1) := by decide +kernel
theorem dX0_unpacked_16 : decode cX0_unpacked 16 = .ok (.if_icmp .gt 7, 3) := by decide +kernel
theorem dX0_unpacked_19 : decode cX0_unpacked 19 = .ok (.iconst 4, 1) := by decide +kernel
theorem dX0_unpacked_20 : decode cX0_unpacked 20 = .ok (.iload_n 1, 1) := by decide +kernel
theorem dX0_unpacked_21 : decode cX0_unpacked 21 = .ok (.imul, 1) := by decide +kernel
theorem dX0_unpacked_22 : decode cX0_unpacked 22 = .ok (.ireturn, 1) := by decide +kernel
theorem dX0_unpacked_23 : decode cX0_unpacked 23 = .ok (.iload_n 3, 1) := by decide +kernel
theorem dX0_unpacked_24 : decode cX0_unpacked 24 = .ok (.bipush 8, 2) := by decide +kernel
theorem dX0_unpacked_26 : decode cX0_unpacked 26 = .ok (.if_icmp .ne 10, 3) := by decide +kernel
theorem dX0_unpacked_29 : decode cX0_unpacked 29 = .ok (.bipush 8, 2) := by decide +kernel
theorem dX0_unpacked_31 : decode cX0_unpacked 31 = .ok (.iload_n 1, 1) := by decide +kernel
theorem dX0_unpacked_32 : decode cX0_unpacked 32 = .ok (.imul, 1) := by decide +kernel
theorem dX0_unpacked_33 : decode cX0_unpacked 33 = .ok (.goto 28, 3) := by decide +kernel
theorem dX0_unpacked_36 : decode cX0_unpacked 36 = .ok (.iconst 4, 1) := by decide +kernel
theorem dX0_unpacked_37 : decode cX0_unpacked 37 = .ok (.iload_n 1, 1) := by decide +kernel
theorem dX0_unpacked_38 : decode cX0_unpacked 38 = .ok (.imul, 1) := by decide +kernel
theorem dX0_unpacked_39 : decode cX0_unpacked 39 = .ok (.bipush 8, 2) := by decide +kernel
theorem dX0_unpacked_41 : decode cX0_unpacked 41 = .ok (.aload_n 0, 1) := by decide +kernel
theorem dX0_unpacked_42 : decode cX0_unpacked 42 = .ok (.getfield 9, 3) := by decide +kernel
theorem dX0_unpacked_45 : decode cX0_unpacked 45 = .ok (.iload_n 2, 1) := by decide +kernel
theorem dX0_unpacked_46 : decode cX0_unpacked 46 = .ok (.ifCond .eq 8, 3) := by decide +kernel
theorem dX0_unpacked_49 : decode cX0_unpacked 49 = .ok (.bipush 42, 2) := by decide +kernel
theorem dX0_unpacked_51 : decode cX0_unpacked 51 = .ok (.goto 5, 3) := by decide +kernel
theorem dX0_unpacked_54 : decode cX0_unpacked 54 = .ok (.bipush 40, 2) := by decide +kernel
theorem dX0_unpacked_56 : decode cX0_unpacked 56 = .ok (.invokevirtual 25, 3) := by decide +kernel
theorem dX0_unpacked_59 : decode cX0_unpacked 59 = .ok (.imul, 1) := by decide +kernel
theorem dX0_unpacked_60 : decode cX0_unpacked 60 = .ok (.iadd, 1) := by decide +kernel
theorem dX0_unpacked_61 : decode cX0_unpacked 61 = .ok (.ireturn, 1) := by decide +kernel
set_option maxRecDepth 20000 in
theorem ggX0_term_X0_version : GoodIn wsX0_term wsX0_version := goodIn_ca (goodIn_r _ [6, 1, 7, 8, 9, 10, 11, 12, 13, 90, 91, 92] (by decide +kernel) (by decide +kernel)) (goodIn_sub (fun _ h => List.mem_cons_of_mem _ (List.mem_append_right _ h)) (by decide +kernel))
set_option maxRecDepth 20000 in
theorem gX0_term_X0_version : GoodIn wsX0_term (wsV RX0 21 RX0 yX0_version wsX0_version) := goodIn_app (goodIn_of _ (by decide +kernel)) ggX0_term_X0_version
set_option maxRecDepth 20000 in
theorem ggX0_term_X0_length : GoodIn wsX0_term wsX0_length := goodIn_ca (goodIn_r _ [17, 1, 18, 19, 20, 10, 21, 12, 13, 2, 3, 4, 5, 6, 7, 8, 9, 11, 22, 23, 24, 25, 26, 27, 28, 29, 90, 91, 92] (by decide +kernel) (by decide +kernel)) (goodIn_sub (fun _ h => List.mem_cons_of_mem _ (List.mem_append_right _ h)) (by decide +kernel))
set_option maxRecDepth 20000 in
theorem gX0_term_X0_length : GoodIn wsX0_term (wsV RX0 43 RX0 yX0_length wsX0_length) := goodIn_app (goodIn_of _ (by decide +kernel)) ggX0_term_X0_length
set_option maxRecDepth 20000 in
theorem ggX0_term_X0_staticFrom : GoodIn wsX0_term wsX0_staticFrom := goodIn_ca (goodIn_r _ [33, 1, 18, 19, 20, 10, 21, 12, 13, 90, 91, 92] (by decide +kernel) (by decide +kernel)) (goodIn_sub (fun _ h => List.mem_cons_of_mem _ (List.mem_append_right _ h)) (by decide +kernel))
set_option maxRecDepth 20000 in
theorem gX0_term_X0_staticFrom : GoodIn wsX0_term (wsV RX0 46 RX0 yX0_staticFrom wsX0_staticFrom) := goodIn_app (goodIn_of _ (by decide +kernel)) ggX0_term_X0_staticFrom
set_option maxRecDepth 20000 in
theorem ggX0_term_X0_high : GoodIn wsX0_term wsX0_high := goodIn_ca (goodIn_r _ [37, 1, 18, 19, 20, 10, 21, 12, 13, 90, 91, 92] (by decide +kernel) (by decide +kernel)) (goodIn_sub (fun _ h => List.mem_cons_of_mem _ (List.mem_append_right _ h)) (by decide +kernel))
set_option maxRecDepth 20000 in
theorem gX0_term_X0_high : GoodIn wsX0_term (wsV RX0 49 RX0 yX0_high wsX0_high) := goodIn_app (goodIn_of _ (by decide +kernel)) ggX0_term_X0_high
set_option maxRecDepth 20000 in
theorem ggX0_term_X0_globals : GoodIn wsX0_term wsX0_globals := goodIn_ca (goodIn_r _ [41, 1, 18, 19, 20, 10, 21, 12, 13, 90, 91, 92] (by decide +kernel) (by decide +kernel)) (goodIn_sub (fun _ h => List.mem_cons_of_mem _ (List.mem_append_right _ h)) (by decide +kernel))
set_option maxRecDepth 20000 in
theorem gX0_term_X0_globals : GoodIn wsX0_term (wsV RX0 52 RX0 yX0_globals wsX0_globals) := goodIn_app (goodIn_of _ (by decide +kernel)) ggX0_term_X0_globals
set_option maxRecDepth 20000 in
theorem ggX0_term_X0_objects : GoodIn wsX0_term wsX0_objects := goodIn_ca (goodIn_r _ [45, 1, 18, 19, 20, 10, 21, 12, 13, 90, 91, 92] (by decide +kernel) (by decide +kernel)) (goodIn_sub (fun _ h => List.mem_cons_of_mem _ (List.mem_append_right _ h)) (by decide +kernel))
set_option maxRecDepth 20000 in
theorem gX0_term_X0_objects : GoodIn wsX0_term (wsV RX0 55 RX0 yX0_objects wsX0_objects) := goodIn_app (goodIn_of _ (by decide +kernel)) ggX0_term_X0_objects
set_option maxRecDepth 20000 in
theorem ggX0_term_X0_words : GoodIn wsX0_term wsX0_words := goodIn_ca (goodIn_r _ [49, 1, 18, 19, 20, 10, 21, 12, 13, 90, 91, 92] (by decide +kernel) (by decide +kernel)) (goodIn_sub (fun _ h => List.mem_cons_of_mem _ (List.mem_append_right _ h)) (by decide +kernel))
set_option maxRecDepth 20000 in
theorem gX0_term_X0_words : GoodIn wsX0_term (wsV RX0 34 RX0 yX0_words wsX0_words) := goodIn_app (goodIn_of _ (by decide +kernel)) ggX0_term_X0_words
set_option maxRecDepth 20000 in
theorem ggX0_term_X0_shorts : GoodIn wsX0_term wsX0_shorts := goodIn_ca (goodIn_r _ [53, 1, 2, 3, 4, 5, 6, 7, 8, 9, 10, 11, 12, 13, 18, 19, 20, 21, 90, 91, 92] (by decide +kernel) (by decide +kernel)) (goodIn_sub (fun _ h => List.mem_cons_of_mem _ (List.mem_append_right _ h)) (by decide +kernel))
set_option maxRecDepth 20000 in
theorem gX0_term_X0_shorts : GoodIn wsX0_term (wsV RX0 58 RX0 yX0_shorts wsX0_shorts) := goodIn_app (goodIn_of _ (by decide +kernel)) ggX0_term_X0_shorts
set_option maxRecDepth 20000 in
theorem ggX0_term_X0_start : GoodIn wsX0_term wsX0_start := goodIn_ca (goodIn_r _ [57, 1, 2, 3, 4, 5, 6, 7, 8, 9, 10, 11, 12, 13, 18, 19, 20, 21, 90, 91, 92] (by decide +kernel) (by decide +kernel)) (goodIn_sub (fun _ h => List.mem_cons_of_mem _ (List.mem_append_right _ h)) (by decide +kernel))
set_option maxRecDepth 20000 in
theorem gX0_term_X0_start : GoodIn wsX0_term (wsV RX0 61 RX0 yX0_start wsX0_start) := goodIn_app (goodIn_of _ (by decide +kernel)) ggX0_term_X0_start
set_option maxRecDepth 20000 in
theorem ggX0_term_X0_letters : GoodIn wsX0_term wsX0_letters := goodIn_ca (goodIn_r _ [61, 1, 2, 3, 4, 5, 6, 7, 8, 9, 10, 11, 12, 13, 18, 19, 20, 21, 90, 91, 92] (by decide +kernel) (by decide +kernel)) (goodIn_sub (fun _ h => List.mem_cons_of_mem _ (List.mem_append_right _ h)) (by decide +kernel))
set_option maxRecDepth 20000 in
theorem gX0_term_X0_letters : GoodIn wsX0_term (wsV RX0 64 RX0 yX0_letters wsX0_letters) := goodIn_app (goodIn_of _ (by decide +kernel)) ggX0_term_X0_letters
set_option maxRecDepth 20000 in
theorem ggX0_term_X0_ends : GoodIn wsX0_term wsX0_ends := goodIn_ca (goodIn_r _ [65, 1, 2, 3, 4, 5, 6, 7, 8, 9, 10, 11, 12, 13, 18, 19, 20, 21, 90, 91, 92] (by decide +kernel) (by decide +kernel)) (goodIn_sub (fun _ h => List.mem_cons_of_mem _ (List.mem_append_right _ h)) (by decide +kernel))
set_option maxRecDepth 20000 in
theorem gX0_term_X0_ends : GoodIn wsX0_term (wsV RX0 67 RX0 yX0_ends wsX0_ends) := goodIn_app (goodIn_of _ (by decide +kernel)) ggX0_term_X0_ends
set_option maxRecDepth 20000 in
theorem ggX0_term_X0_moreWords : GoodIn wsX0_term wsX0_moreWords := goodIn_ca (goodIn_r _ [69, 1, 70, 71, 72, 5, 73, 2, 3, 4, 6, 7, 8, 9, 10, 11, 12, 13, 18, 19, 20, 21, 90, 91, 92] (by decide +kernel) (by decide +kernel)) (goodIn_sub (fun _ h => List.mem_cons_of_mem _ (List.mem_append_right _ h)) (by decide +kernel))
set_option maxRecDepth 20000 in
theorem gX0_term_X0_moreWords : GoodIn wsX0_term (wsV RX0 70 RX0 yX0_moreWords wsX0_moreWords) := goodIn_app (goodIn_of _ (by decide +kernel)) ggX0_term_X0_moreWords
set_option maxRecDepth 20000 in
theorem ggX0_term_X0_thirdWord : GoodIn wsX0_term wsX0_thirdWord := goodIn_ca (goodIn_r _ [77, 1, 70, 71, 72, 5, 73, 2, 3, 4, 6, 7, 8, 9, 10, 11, 12, 13, 18, 19, 20, 21, 90, 91, 92] (by decide +kernel) (by decide +kernel)) (goodIn_sub (fun _ h => List.mem_cons_of_mem _ (List.mem_append_right _ h)) (by decide +kernel))
set_option maxRecDepth 20000 in
theorem gX0_term_X0_thirdWord : GoodIn wsX0_term (wsV RX0 73 RX0 yX0_thirdWord wsX0_thirdWord) := goodIn_app (goodIn_of _ (by decide +kernel)) ggX0_term_X0_thirdWord
set_option maxRecDepth 20000 in
theorem ggX0_term_X2_two : GoodIn wsX0_term wsX2_two := goodIn_ca (goodIn_r _ [21, 12, 13, 91, 92] (by decide +kernel) (by decide +kernel)) (goodIn_sub (fun _ h => List.mem_cons_of_mem _ (List.mem_append_right _ h)) (by decide +kernel))
set_option maxRecDepth 20000 in
theorem gX0_term_X2_two : GoodIn wsX0_term (wsV RX0 25 RX2 yX2_two wsX2_two) := goodIn_app (goodIn_of _ (by decide +kernel)) ggX0_term_X2_two
set_option maxRecDepth 20000 in
theorem ggX0_term_X0_entries : GoodIn wsX0_term wsX0_entries := goodIn_ca (goodIn_r _ [81, 1, 46, 47, 48, 5, 49, 18, 19, 20, 10, 21, 12, 13, 82, 83, 84, 85, 7, 8, 9, 11, 90, 91, 92] (by decide +kernel) (by decide +kernel)) (goodIn_sub (fun _ h => List.mem_cons_of_mem _ (List.mem_append_right _ h)) (by decide +kernel))
set_option maxRecDepth 20000 in
theorem gX0_term_X0_entries : GoodIn wsX0_term (wsV RX0 76 RX0 yX0_entries wsX0_entries) := goodIn_app (goodIn_of _ (by decide +kernel)) ggX0_term_X0_entries
set_option maxRecDepth 20000 in
theorem ggX0_term_X0_entryBytes : GoodIn wsX0_term wsX0_entryBytes := goodIn_ca (goodIn_r _ [89, 1, 46, 47, 48, 5, 49, 18, 19, 20, 10, 21, 12, 13, 82, 83, 84, 85, 7, 8, 9, 11, 90, 91, 92] (by decide +kernel) (by decide +kernel)) (goodIn_sub (fun _ h => List.mem_cons_of_mem _ (List.mem_append_right _ h)) (by decide +kernel))
set_option maxRecDepth 20000 in
theorem gX0_term_X0_entryBytes : GoodIn wsX0_term (wsV RX0 79 RX0 yX0_entryBytes wsX0_entryBytes) := goodIn_app (goodIn_of _ (by decide +kernel)) ggX0_term_X0_entryBytes
set_option maxRecDepth 20000 in
theorem ggX0_term_X0_signs : GoodIn wsX0_term wsX0_signs := goodIn_ca (goodIn_r _ [85, 1, 46, 47, 48, 5, 49, 18, 19, 20, 10, 21, 12, 13, 7, 8, 9, 11, 90, 91, 92] (by decide +kernel) (by decide +kernel)) (goodIn_sub (fun _ h => List.mem_cons_of_mem _ (List.mem_append_right _ h)) (by decide +kernel))
set_option maxRecDepth 20000 in
theorem gX0_term_X0_signs : GoodIn wsX0_term (wsV RX0 37 RX0 yX0_signs wsX0_signs) := goodIn_app (goodIn_of _ (by decide +kernel)) ggX0_term_X0_signs
theorem dX0_term_0 : decode cX0_term 0 = .ok (.iload_n 1, 1) := by decide +kernel
theorem dX0_term_1 : decode cX0_term 1 = .ok (.tableswitch 177 0 16 #[83, 88, 93, 98, 103, 108, 113, 118, 123, 128, 133, 138, 143, 148, 157, 167, 172], 83) := by decide +kernel
theorem dX0_term_84 : decode cX0_term 84 = .ok (.aload_n 0, 1) := by decide +kernel
theorem dX0_term_85 : decode cX0_term 85 = .ok (.invokevirtual 21, 3) := by decide +kernel
theorem dX0_term_88 : decode cX0_term 88 = .ok (.ireturn, 1) := by decide +kernel
theorem dX0_term_89 : decode cX0_term 89 = .ok (.aload_n 0, 1) := by decide +kernel
theorem dX0_term_90 : decode cX0_term 90 = .ok (.invokevirtual 43, 3) := by decide +kernel
theorem dX0_term_93 : decode cX0_term 93 = .ok (.ireturn, 1) := by decide +kernel
theorem dX0_term_94 : decode cX0_term 94 = .ok (.aload_n 0, 1) := by decide +kernel
theorem dX0_term_95 : decode cX0_term 95 = .ok (.invokevirtual 46, 3) := by decide +kernel
theorem dX0_term_98 : decode cX0_term 98 = .ok (.ireturn, 1) := by decide +kernel
theorem dX0_term_99 : decode cX0_term 99 = .ok (.aload_n 0, 1) := by decide +kernel
theorem dX0_term_100 : decode cX0_term 100 = .ok (.invokevirtual 49, 3) := by decide +kernel
theorem dX0_term_103 : decode cX0_term 103 = .ok (.ireturn, 1) := by decide +kernel
theorem dX0_term_104 : decode cX0_term 104 = .ok (.aload_n 0, 1) := by decide +kernel
theorem dX0_term_105 : decode cX0_term 105 = .ok (.invokevirtual 52, 3) := by decide +kernel
theorem dX0_term_108 : decode cX0_term 108 = .ok (.ireturn, 1) := by decide +kernel
theorem dX0_term_109 : decode cX0_term 109 = .ok (.aload_n 0, 1) := by decide +kernel
theorem dX0_term_110 : decode cX0_term 110 = .ok (.invokevirtual 55, 3) := by decide +kernel
theorem dX0_term_113 : decode cX0_term 113 = .ok (.ireturn, 1) := by decide +kernel
theorem dX0_term_114 : decode cX0_term 114 = .ok (.aload_n 0, 1) := by decide +kernel
theorem dX0_term_115 : decode cX0_term 115 = .ok (.invokevirtual 34, 3) := by decide +kernel
theorem dX0_term_118 : decode cX0_term 118 = .ok (.ireturn, 1) := by decide +kernel
theorem dX0_term_119 : decode cX0_term 119 = .ok (.aload_n 0, 1) := by decide +kernel
theorem dX0_term_120 : decode cX0_term 120 = .ok (.invokevirtual 58, 3) := by decide +kernel
theorem dX0_term_123 : decode cX0_term 123 = .ok (.ireturn, 1) := by decide +kernel
theorem dX0_term_124 : decode cX0_term 124 = .ok (.aload_n 0, 1) := by decide +kernel
theorem dX0_term_125 : decode cX0_term 125 = .ok (.invokevirtual 61, 3) := by decide +kernel
theorem dX0_term_128 : decode cX0_term 128 = .ok (.ireturn, 1) := by decide +kernel
theorem dX0_term_129 : decode cX0_term 129 = .ok (.aload_n 0, 1) := by decide +kernel
theorem dX0_term_130 : decode cX0_term 130 = .ok (.invokevirtual 64, 3) := by decide +kernel
theorem dX0_term_133 : decode cX0_term 133 = .ok (.ireturn, 1) := by decide +kernel
theorem dX0_term_134 : decode cX0_term 134 = .ok (.aload_n 0, 1) := by decide +kernel
theorem dX0_term_135 : decode cX0_term 135 = .ok (.invokevirtual 67, 3) := by decide +kernel
theorem dX0_term_138 : decode cX0_term 138 = .ok (.ireturn, 1) := by decide +kernel
theorem dX0_term_139 : decode cX0_term 139 = .ok (.aload_n 0, 1) := by decide +kernel
theorem dX0_term_140 : decode cX0_term 140 = .ok (.invokevirtual 70, 3) := by decide +kernel
theorem dX0_term_143 : decode cX0_term 143 = .ok (.ireturn, 1) := by decide +kernel
theorem dX0_term_144 : decode cX0_term 144 = .ok (.aload_n 0, 1) := by decide +kernel
theorem dX0_term_145 : decode cX0_term 145 = .ok (.invokevirtual 73, 3) := by decide +kernel
theorem dX0_term_148 : decode cX0_term 148 = .ok (.ireturn, 1) := by decide +kernel
theorem dX0_term_149 : decode cX0_term 149 = .ok (.aload_n 0, 1) := by decide +kernel
theorem dX0_term_150 : decode cX0_term 150 = .ok (.getfield 9, 3) := by decide +kernel
theorem dX0_term_153 : decode cX0_term 153 = .ok (.iconst 2, 1) := by decide +kernel
theorem dX0_term_154 : decode cX0_term 154 = .ok (.invokevirtual 25, 3) := by decide +kernel
theorem dX0_term_157 : decode cX0_term 157 = .ok (.ireturn, 1) := by decide +kernel
theorem dX0_term_158 : decode cX0_term 158 = .ok (.aload_n 0, 1) := by decide +kernel
theorem dX0_term_159 : decode cX0_term 159 = .ok (.getfield 9, 3) := by decide +kernel
theorem dX0_term_162 : decode cX0_term 162 = .ok (.bipush 28, 2) := by decide +kernel
theorem dX0_term_164 : decode cX0_term 164 = .ok (.invokevirtual 25, 3) := by decide +kernel
theorem dX0_term_167 : decode cX0_term 167 = .ok (.ireturn, 1) := by decide +kernel
theorem dX0_term_168 : decode cX0_term 168 = .ok (.aload_n 0, 1) := by decide +kernel
theorem dX0_term_169 : decode cX0_term 169 = .ok (.invokevirtual 76, 3) := by decide +kernel
theorem dX0_term_172 : decode cX0_term 172 = .ok (.ireturn, 1) := by decide +kernel
theorem dX0_term_173 : decode cX0_term 173 = .ok (.aload_n 0, 1) := by decide +kernel
theorem dX0_term_174 : decode cX0_term 174 = .ok (.invokevirtual 79, 3) := by decide +kernel
theorem dX0_term_177 : decode cX0_term 177 = .ok (.ireturn, 1) := by decide +kernel
theorem dX0_term_178 : decode cX0_term 178 = .ok (.aload_n 0, 1) := by decide +kernel
theorem dX0_term_179 : decode cX0_term 179 = .ok (.invokevirtual 37, 3) := by decide +kernel
theorem dX0_term_182 : decode cX0_term 182 = .ok (.ireturn, 1) := by decide +kernel
set_option maxRecDepth 20000 in
theorem ggX0_holds_X2_has : GoodIn wsX0_holds wsX2_has := goodIn_r _ [6, 7, 8, 109, 110] (by decide +kernel) (by decide +kernel)
set_option maxRecDepth 20000 in
theorem gX0_holds_X2_has : GoodIn wsX0_holds (wsV RX0 82 RX2 yX2_has wsX2_has) := goodIn_app (goodIn_of _ (by decide +kernel)) ggX0_holds_X2_has
set_option maxRecDepth 20000 in
theorem ggX0_holds_X0_version : GoodIn wsX0_holds wsX0_version := goodIn_ca (goodIn_r _ [13, 1, 14, 15, 16, 5, 17, 7, 8, 108, 109, 110] (by decide +kernel) (by decide +kernel)) (goodIn_sub (fun _ h => List.mem_cons_of_mem _ (List.mem_append_right _ h)) (by decide +kernel))
set_option maxRecDepth 20000 in
theorem gX0_holds_X0_version : GoodIn wsX0_holds (wsV RX0 21 RX0 yX0_version wsX0_version) := goodIn_app (goodIn_of _ (by decide +kernel)) ggX0_holds_X0_version
set_option maxRecDepth 20000 in
theorem ggX0_holds_X0_isWithin : GoodIn wsX0_holds wsX0_isWithin := goodIn_r _ [20] (by decide +kernel) (by decide +kernel)
set_option maxRecDepth 20000 in
theorem gX0_holds_X0_isWithin : GoodIn wsX0_holds (va_wsS RX0 86 yX0_isWithin wsX0_isWithin) := goodIn_app (goodIn_of _ (by decide +kernel)) ggX0_holds_X0_isWithin
set_option maxRecDepth 20000 in
theorem ggX0_holds_X2_count : GoodIn wsX0_holds wsX2_count := goodIn_r _ [24, 7, 109, 110] (by decide +kernel) (by decide +kernel)
set_option maxRecDepth 20000 in
theorem gX0_holds_X2_count : GoodIn wsX0_holds (wsV RX0 28 RX2 yX2_count wsX2_count) := goodIn_app (goodIn_of _ (by decide +kernel)) ggX0_holds_X2_count
set_option maxRecDepth 20000 in
theorem ggX0_holds_X0_length : GoodIn wsX0_holds wsX0_length := goodIn_ca (goodIn_r _ [28, 1, 29, 30, 31, 5, 32, 7, 8, 9, 10, 11, 12, 13, 14, 15, 16, 17, 21, 22, 23, 24, 33, 34, 35, 36, 108, 109, 110] (by decide +kernel) (by decide +kernel)) (goodIn_sub (fun _ h => List.mem_cons_of_mem _ (List.mem_append_right _ h)) (by decide +kernel))
set_option maxRecDepth 20000 in
theorem gX0_holds_X0_length : GoodIn wsX0_holds (wsV RX0 43 RX0 yX0_length wsX0_length) := goodIn_app (goodIn_of _ (by decide +kernel)) ggX0_holds_X0_length
set_option maxRecDepth 20000 in
theorem ggX0_holds_X0_staticFrom : GoodIn wsX0_holds wsX0_staticFrom := goodIn_ca (goodIn_r _ [40, 1, 29, 30, 31, 5, 32, 7, 8, 108, 109, 110] (by decide +kernel) (by decide +kernel)) (goodIn_sub (fun _ h => List.mem_cons_of_mem _ (List.mem_append_right _ h)) (by decide +kernel))
set_option maxRecDepth 20000 in
theorem gX0_holds_X0_staticFrom : GoodIn wsX0_holds (wsV RX0 46 RX0 yX0_staticFrom wsX0_staticFrom) := goodIn_app (goodIn_of _ (by decide +kernel)) ggX0_holds_X0_staticFrom
set_option maxRecDepth 20000 in
theorem ggX0_holds_X0_high : GoodIn wsX0_holds wsX0_high := goodIn_ca (goodIn_r _ [44, 1, 29, 30, 31, 5, 32, 7, 8, 108, 109, 110] (by decide +kernel) (by decide +kernel)) (goodIn_sub (fun _ h => List.mem_cons_of_mem _ (List.mem_append_right _ h)) (by decide +kernel))
set_option maxRecDepth 20000 in
theorem gX0_holds_X0_high : GoodIn wsX0_holds (wsV RX0 49 RX0 yX0_high wsX0_high) := goodIn_app (goodIn_of _ (by decide +kernel)) ggX0_holds_X0_high
set_option maxRecDepth 20000 in
theorem ggX0_holds_X0_globals : GoodIn wsX0_holds wsX0_globals := goodIn_ca (goodIn_r _ [48, 1, 29, 30, 31, 5, 32, 7, 8, 108, 109, 110] (by decide +kernel) (by decide +kernel)) (goodIn_sub (fun _ h => List.mem_cons_of_mem _ (List.mem_append_right _ h)) (by decide +kernel))
set_option maxRecDepth 20000 in
theorem gX0_holds_X0_globals : GoodIn wsX0_holds (wsV RX0 52 RX0 yX0_globals wsX0_globals) := goodIn_app (goodIn_of _ (by decide +kernel)) ggX0_holds_X0_globals
set_option maxRecDepth 20000 in
theorem ggX0_holds_X0_fits : GoodIn wsX0_holds wsX0_fits := goodIn_r _ [51] (by decide +kernel) (by decide +kernel)
set_option maxRecDepth 20000 in
theorem gX0_holds_X0_fits : GoodIn wsX0_holds (va_wsS RX0 90 yX0_fits wsX0_fits) := goodIn_app (goodIn_of _ (by decide +kernel)) ggX0_holds_X0_fits
set_option maxRecDepth 20000 in
theorem ggX0_holds_X0_objects : GoodIn wsX0_holds wsX0_objects := goodIn_ca (goodIn_r _ [55, 1, 29, 30, 31, 5, 32, 7, 8, 108, 109, 110] (by decide +kernel) (by decide +kernel)) (goodIn_sub (fun _ h => List.mem_cons_of_mem _ (List.mem_append_right _ h)) (by decide +kernel))
set_option maxRecDepth 20000 in
theorem gX0_holds_X0_objects : GoodIn wsX0_holds (wsV RX0 55 RX0 yX0_objects wsX0_objects) := goodIn_app (goodIn_of _ (by decide +kernel)) ggX0_holds_X0_objects
set_option maxRecDepth 20000 in
theorem ggX0_holds_X0_wordsHold : GoodIn wsX0_holds wsX0_wordsHold := goodIn_ca (goodIn_r _ [59, 1, 60, 61, 62, 63, 64, 65, 66, 12, 67, 29, 30, 31, 5, 32, 7, 8, 14, 15, 16, 17, 9, 10, 11, 13, 25, 26, 27, 28, 21, 22, 23, 24, 33, 34, 35, 36, 108, 109, 110] (by decide +kernel) (by decide +kernel)) (goodIn_sub (fun _ h => List.mem_cons_of_mem _ (List.mem_append_right _ h)) (by decide +kernel))
set_option maxRecDepth 20000 in
theorem gX0_holds_X0_wordsHold : GoodIn wsX0_holds (wsV RX0 93 RX0 yX0_wordsHold wsX0_wordsHold) := goodIn_app (goodIn_of _ (by decide +kernel)) ggX0_holds_X0_wordsHold
set_option maxRecDepth 20000 in
theorem ggX0_holds_X0_shorts : GoodIn wsX0_holds wsX0_shorts := goodIn_ca (goodIn_r _ [71, 1, 9, 10, 11, 12, 13, 14, 15, 16, 5, 17, 7, 8, 29, 30, 31, 32, 108, 109, 110] (by decide +kernel) (by decide +kernel)) (goodIn_sub (fun _ h => List.mem_cons_of_mem _ (List.mem_append_right _ h)) (by decide +kernel))
set_option maxRecDepth 20000 in
theorem gX0_holds_X0_shorts : GoodIn wsX0_holds (wsV RX0 58 RX0 yX0_shorts wsX0_shorts) := goodIn_app (goodIn_of _ (by decide +kernel)) ggX0_holds_X0_shorts
set_option maxRecDepth 20000 in
theorem ggX0_holds_X0_start : GoodIn wsX0_holds wsX0_start := goodIn_ca (goodIn_r _ [75, 1, 9, 10, 11, 12, 13, 14, 15, 16, 5, 17, 7, 8, 29, 30, 31, 32, 108, 109, 110] (by decide +kernel) (by decide +kernel)) (goodIn_sub (fun _ h => List.mem_cons_of_mem _ (List.mem_append_right _ h)) (by decide +kernel))
set_option maxRecDepth 20000 in
theorem gX0_holds_X0_start : GoodIn wsX0_holds (wsV RX0 61 RX0 yX0_start wsX0_start) := goodIn_app (goodIn_of _ (by decide +kernel)) ggX0_holds_X0_start
set_option maxRecDepth 20000 in
theorem ggX0_holds_X0_letters : GoodIn wsX0_holds wsX0_letters := goodIn_ca (goodIn_r _ [79, 1, 9, 10, 11, 12, 13, 14, 15, 16, 5, 17, 7, 8, 29, 30, 31, 32, 108, 109, 110] (by decide +kernel) (by decide +kernel)) (goodIn_sub (fun _ h => List.mem_cons_of_mem _ (List.mem_append_right _ h)) (by decide +kernel))
set_option maxRecDepth 20000 in
theorem gX0_holds_X0_letters : GoodIn wsX0_holds (wsV RX0 64 RX0 yX0_letters wsX0_letters) := goodIn_app (goodIn_of _ (by decide +kernel)) ggX0_holds_X0_letters
set_option maxRecDepth 20000 in
theorem ggX0_holds_X0_ends : GoodIn wsX0_holds wsX0_ends := goodIn_ca (goodIn_r _ [83, 1, 9, 10, 11, 12, 13, 14, 15, 16, 5, 17, 7, 8, 29, 30, 31, 32, 108, 109, 110] (by decide +kernel) (by decide +kernel)) (goodIn_sub (fun _ h => List.mem_cons_of_mem _ (List.mem_append_right _ h)) (by decide +kernel))
set_option maxRecDepth 20000 in
theorem gX0_holds_X0_ends : GoodIn wsX0_holds (wsV RX0 67 RX0 yX0_ends wsX0_ends) := goodIn_app (goodIn_of _ (by decide +kernel)) ggX0_holds_X0_ends
set_option maxRecDepth 20000 in
theorem ggX0_holds_X0_endsHold : GoodIn wsX0_holds wsX0_endsHold := goodIn_ca (goodIn_r _ [87, 1, 80, 81, 82, 12, 83, 9, 10, 11, 13, 14, 15, 16, 5, 17, 7, 8, 29, 30, 31, 32, 25, 26, 27, 28, 21, 22, 23, 24, 33, 34, 35, 36, 108, 109, 110] (by decide +kernel) (by decide +kernel)) (goodIn_sub (fun _ h => List.mem_cons_of_mem _ (List.mem_append_right _ h)) (by decide +kernel))
set_option maxRecDepth 20000 in
theorem gX0_holds_X0_endsHold : GoodIn wsX0_holds (wsV RX0 97 RX0 yX0_endsHold wsX0_endsHold) := goodIn_app (goodIn_of _ (by decide +kernel)) ggX0_holds_X0_endsHold
set_option maxRecDepth 20000 in
theorem ggX0_holds_X0_more : GoodIn wsX0_holds wsX0_more := goodIn_ca (goodIn_r _ [91, 1, 9, 10, 11, 12, 13, 14, 15, 16, 5, 17, 7, 8, 29, 30, 31, 32, 108, 109, 110] (by decide +kernel) (by decide +kernel)) (goodIn_sub (fun _ h => List.mem_cons_of_mem _ (List.mem_append_right _ h)) (by decide +kernel))
set_option maxRecDepth 20000 in
theorem gX0_holds_X0_more : GoodIn wsX0_holds (wsV RX0 40 RX0 yX0_more wsX0_more) := goodIn_app (goodIn_of _ (by decide +kernel)) ggX0_holds_X0_more
set_option maxRecDepth 20000 in
theorem ggX0_holds_X0_moreHolds : GoodIn wsX0_holds wsX0_moreHolds := goodIn_ca (goodIn_r _ [95, 96, 97, 98, 12, 99, 1, 88, 89, 90, 91, 9, 10, 11, 13, 14, 15, 16, 5, 17, 7, 8, 29, 30, 31, 32, 25, 26, 27, 28, 21, 22, 23, 24, 33, 34, 35, 36, 49, 50, 51, 108, 109, 110] (by decide +kernel) (by decide +kernel)) (goodIn_sub (fun _ h => List.mem_cons_of_mem _ (List.mem_append_right _ h)) (by decide +kernel))
set_option maxRecDepth 20000 in
theorem gX0_holds_X0_moreHolds : GoodIn wsX0_holds (wsV RX0 100 RX0 yX0_moreHolds wsX0_moreHolds) := goodIn_app (goodIn_of _ (by decide +kernel)) ggX0_holds_X0_moreHolds
set_option maxRecDepth 20000 in
theorem ggX0_holds_X0_thirdWord : GoodIn wsX0_holds wsX0_thirdWord := goodIn_ca (goodIn_r _ [103, 1, 88, 89, 90, 12, 91, 9, 10, 11, 13, 14, 15, 16, 5, 17, 7, 8, 29, 30, 31, 32, 108, 109, 110] (by decide +kernel) (by decide +kernel)) (goodIn_sub (fun _ h => List.mem_cons_of_mem _ (List.mem_append_right _ h)) (by decide +kernel))
set_option maxRecDepth 20000 in
theorem gX0_holds_X0_thirdWord : GoodIn wsX0_holds (wsV RX0 73 RX0 yX0_thirdWord wsX0_thirdWord) := goodIn_app (goodIn_of _ (by decide +kernel)) ggX0_holds_X0_thirdWord
set_option maxRecDepth 20000 in
theorem ggX0_holds_X0_thirdHolds : GoodIn wsX0_holds wsX0_thirdHolds := goodIn_ca (goodIn_r _ [107, 1, 100, 101, 102, 12, 103, 88, 89, 90, 91, 9, 10, 11, 13, 14, 15, 16, 5, 17, 7, 8, 29, 30, 31, 32, 25, 26, 27, 28, 21, 22, 23, 24, 33, 34, 35, 36, 49, 50, 51, 108, 109, 110] (by decide +kernel) (by decide +kernel)) (goodIn_sub (fun _ h => List.mem_cons_of_mem _ (List.mem_append_right _ h)) (by decide +kernel))
set_option maxRecDepth 20000 in
theorem gX0_holds_X0_thirdHolds : GoodIn wsX0_holds (wsV RX0 103 RX0 yX0_thirdHolds wsX0_thirdHolds) := goodIn_app (goodIn_of _ (by decide +kernel)) ggX0_holds_X0_thirdHolds
theorem dX0_holds_0 : decode cX0_holds 0 = .ok (.iload_n 1, 1) := by decide +kernel
theorem dX0_holds_1 : decode cX0_holds 1 = .ok (.tableswitch 331 1 14 #[71, 80, 91, 109, 126, 140, 156, 171, 198, 203, 246, 262, 291, 311], 71) := by decide +kernel
theorem dX0_holds_72 : decode cX0_holds 72 = .ok (.aload_n 0, 1) := by decide +kernel
theorem dX0_holds_73 : decode cX0_holds 73 = .ok (.getfield 9, 3) := by decide +kernel
theorem dX0_holds_76 : decode cX0_holds 76 = .ok (.iconst 0, 1) := by decide +kernel
theorem dX0_holds_77 : decode cX0_holds 77 = .ok (.invokevirtual 82, 3) := by decide +kernel
theorem dX0_holds_80 : decode cX0_holds 80 = .ok (.ireturn, 1) := by decide +kernel
theorem dX0_holds_81 : decode cX0_holds 81 = .ok (.aload_n 0, 1) := by decide +kernel
theorem dX0_holds_82 : decode cX0_holds 82 = .ok (.invokevirtual 21, 3) := by decide +kernel
theorem dX0_holds_85 : decode cX0_holds 85 = .ok (.iconst 1, 1) := by decide +kernel
theorem dX0_holds_86 : decode cX0_holds 86 = .ok (.bipush 8, 2) := by decide +kernel
theorem dX0_holds_88 : decode cX0_holds 88 = .ok (.invokestatic 86, 3) := by decide +kernel
theorem dX0_holds_91 : decode cX0_holds 91 = .ok (.ireturn, 1) := by decide +kernel
theorem dX0_holds_92 : decode cX0_holds 92 = .ok (.aload_n 0, 1) := by decide +kernel
theorem dX0_holds_93 : decode cX0_holds 93 = .ok (.getfield 9, 3) := by decide +kernel
theorem dX0_holds_96 : decode cX0_holds 96 = .ok (.invokevirtual 28, 3) := by decide +kernel
theorem dX0_holds_99 : decode cX0_holds 99 = .ok (.bipush 64, 2) := by decide +kernel
theorem dX0_holds_101 : decode cX0_holds 101 = .ok (.if_icmp .lt 7, 3) := by decide +kernel
theorem dX0_holds_104 : decode cX0_holds 104 = .ok (.iconst 1, 1) := by decide +kernel
theorem dX0_holds_105 : decode cX0_holds 105 = .ok (.goto 4, 3) := by decide +kernel
theorem dX0_holds_108 : decode cX0_holds 108 = .ok (.iconst 0, 1) := by decide +kernel
theorem dX0_holds_109 : decode cX0_holds 109 = .ok (.ireturn, 1) := by decide +kernel
theorem dX0_holds_110 : decode cX0_holds 110 = .ok (.aload_n 0, 1) := by decide +kernel
theorem dX0_holds_111 : decode cX0_holds 111 = .ok (.invokevirtual 43, 3) := by decide +kernel
theorem dX0_holds_114 : decode cX0_holds 114 = .ok (.bipush 64, 2) := by decide +kernel
theorem dX0_holds_116 : decode cX0_holds 116 = .ok (.aload_n 0, 1) := by decide +kernel
theorem dX0_holds_117 : decode cX0_holds 117 = .ok (.getfield 9, 3) := by decide +kernel
theorem dX0_holds_120 : decode cX0_holds 120 = .ok (.invokevirtual 28, 3) := by decide +kernel
theorem dX0_holds_123 : decode cX0_holds 123 = .ok (.invokestatic 86, 3) := by decide +kernel
theorem dX0_holds_126 : decode cX0_holds 126 = .ok (.ireturn, 1) := by decide +kernel
theorem dX0_holds_127 : decode cX0_holds 127 = .ok (.aload_n 0, 1) := by decide +kernel
theorem dX0_holds_128 : decode cX0_holds 128 = .ok (.invokevirtual 46, 3) := by decide +kernel
theorem dX0_holds_131 : decode cX0_holds 131 = .ok (.bipush 64, 2) := by decide +kernel
theorem dX0_holds_133 : decode cX0_holds 133 = .ok (.aload_n 0, 1) := by decide +kernel
theorem dX0_holds_134 : decode cX0_holds 134 = .ok (.invokevirtual 43, 3) := by decide +kernel
theorem dX0_holds_137 : decode cX0_holds 137 = .ok (.invokestatic 86, 3) := by decide +kernel
theorem dX0_holds_140 : decode cX0_holds 140 = .ok (.ireturn, 1) := by decide +kernel
theorem dX0_holds_141 : decode cX0_holds 141 = .ok (.aload_n 0, 1) := by decide +kernel
theorem dX0_holds_142 : decode cX0_holds 142 = .ok (.invokevirtual 49, 3) := by decide +kernel
theorem dX0_holds_145 : decode cX0_holds 145 = .ok (.aload_n 0, 1) := by decide +kernel
theorem dX0_holds_146 : decode cX0_holds 146 = .ok (.invokevirtual 46, 3) := by decide +kernel
theorem dX0_holds_149 : decode cX0_holds 149 = .ok (.aload_n 0, 1) := by decide +kernel
theorem dX0_holds_150 : decode cX0_holds 150 = .ok (.invokevirtual 43, 3) := by decide +kernel
theorem dX0_holds_153 : decode cX0_holds 153 = .ok (.invokestatic 86, 3) := by decide +kernel
theorem dX0_holds_156 : decode cX0_holds 156 = .ok (.ireturn, 1) := by decide +kernel
theorem dX0_holds_157 : decode cX0_holds 157 = .ok (.aload_n 0, 1) := by decide +kernel
theorem dX0_holds_158 : decode cX0_holds 158 = .ok (.invokevirtual 52, 3) := by decide +kernel
theorem dX0_holds_161 : decode cX0_holds 161 = .ok (.sipush 480, 3) := by decide +kernel
theorem dX0_holds_164 : decode cX0_holds 164 = .ok (.aload_n 0, 1) := by decide +kernel
theorem dX0_holds_165 : decode cX0_holds 165 = .ok (.invokevirtual 46, 3) := by decide +kernel
theorem dX0_holds_168 : decode cX0_holds 168 = .ok (.invokestatic 90, 3) := by decide +kernel
theorem dX0_holds_171 : decode cX0_holds 171 = .ok (.ireturn, 1) := by decide +kernel
theorem dX0_holds_172 : decode cX0_holds 172 = .ok (.aload_n 0, 1) := by decide +kernel
theorem dX0_holds_173 : decode cX0_holds 173 = .ok (.invokevirtual 55, 3) := by decide +kernel
theorem dX0_holds_176 : decode cX0_holds 176 = .ok (.aload_n 0, 1) := by decide +kernel
theorem dX0_holds_177 : decode cX0_holds 177 = .ok (.invokevirtual 21, 3) := by decide +kernel
theorem dX0_holds_180 : decode cX0_holds 180 = .ok (.iconst 3, 1) := by decide +kernel
theorem dX0_holds_181 : decode cX0_holds 181 = .ok (.if_icmp .gt 8, 3) := by decide +kernel
theorem dX0_holds_184 : decode cX0_holds 184 = .ok (.bipush 62, 2) := by decide +kernel
theorem dX0_holds_186 : decode cX0_holds 186 = .ok (.goto 5, 3) := by decide +kernel
theorem dX0_holds_189 : decode cX0_holds 189 = .ok (.bipush 126, 2) := by decide +kernel
theorem dX0_holds_191 : decode cX0_holds 191 = .ok (.aload_n 0, 1) := by decide +kernel
theorem dX0_holds_192 : decode cX0_holds 192 = .ok (.invokevirtual 46, 3) := by decide +kernel
theorem dX0_holds_195 : decode cX0_holds 195 = .ok (.invokestatic 90, 3) := by decide +kernel
theorem dX0_holds_198 : decode cX0_holds 198 = .ok (.ireturn, 1) := by decide +kernel
theorem dX0_holds_199 : decode cX0_holds 199 = .ok (.aload_n 0, 1) := by decide +kernel
theorem dX0_holds_200 : decode cX0_holds 200 = .ok (.invokevirtual 93, 3) := by decide +kernel
theorem dX0_holds_203 : decode cX0_holds 203 = .ok (.ireturn, 1) := by decide +kernel
theorem dX0_holds_204 : decode cX0_holds 204 = .ok (.aload_n 0, 1) := by decide +kernel
theorem dX0_holds_205 : decode cX0_holds 205 = .ok (.invokevirtual 58, 3) := by decide +kernel
theorem dX0_holds_208 : decode cX0_holds 208 = .ok (.ifCond .eq 33, 3) := by decide +kernel
theorem dX0_holds_211 : decode cX0_holds 211 = .ok (.aload_n 0, 1) := by decide +kernel
theorem dX0_holds_212 : decode cX0_holds 212 = .ok (.invokevirtual 58, 3) := by decide +kernel
theorem dX0_holds_215 : decode cX0_holds 215 = .ok (.aload_n 0, 1) := by decide +kernel
theorem dX0_holds_216 : decode cX0_holds 216 = .ok (.invokevirtual 21, 3) := by decide +kernel
theorem dX0_holds_219 : decode cX0_holds 219 = .ok (.iconst 2, 1) := by decide +kernel
theorem dX0_holds_220 : decode cX0_holds 220 = .ok (.if_icmp .ne 8, 3) := by decide +kernel
theorem dX0_holds_223 : decode cX0_holds 223 = .ok (.bipush 64, 2) := by decide +kernel
theorem dX0_holds_225 : decode cX0_holds 225 = .ok (.goto 6, 3) := by decide +kernel
theorem dX0_holds_228 : decode cX0_holds 228 = .ok (.sipush 192, 3) := by decide +kernel
theorem dX0_holds_231 : decode cX0_holds 231 = .ok (.aload_n 0, 1) := by decide +kernel
theorem dX0_holds_232 : decode cX0_holds 232 = .ok (.invokevirtual 43, 3) := by decide +kernel
theorem dX0_holds_235 : decode cX0_holds 235 = .ok (.invokestatic 90, 3) := by decide +kernel
theorem dX0_holds_238 : decode cX0_holds 238 = .ok (.ifCond .eq 7, 3) := by decide +kernel
theorem dX0_holds_241 : decode cX0_holds 241 = .ok (.iconst 1, 1) := by decide +kernel
theorem dX0_holds_242 : decode cX0_holds 242 = .ok (.goto 4, 3) := by decide +kernel
theorem dX0_holds_245 : decode cX0_holds 245 = .ok (.iconst 0, 1) := by decide +kernel
theorem dX0_holds_246 : decode cX0_holds 246 = .ok (.ireturn, 1) := by decide +kernel
theorem dX0_holds_247 : decode cX0_holds 247 = .ok (.aload_n 0, 1) := by decide +kernel
theorem dX0_holds_248 : decode cX0_holds 248 = .ok (.invokevirtual 61, 3) := by decide +kernel
theorem dX0_holds_251 : decode cX0_holds 251 = .ok (.bipush 64, 2) := by decide +kernel
theorem dX0_holds_253 : decode cX0_holds 253 = .ok (.aload_n 0, 1) := by decide +kernel
theorem dX0_holds_254 : decode cX0_holds 254 = .ok (.invokevirtual 43, 3) := by decide +kernel
theorem dX0_holds_257 : decode cX0_holds 257 = .ok (.iconst 1, 1) := by decide +kernel
theorem dX0_holds_258 : decode cX0_holds 258 = .ok (.isub, 1) := by decide +kernel
theorem dX0_holds_259 : decode cX0_holds 259 = .ok (.invokestatic 86, 3) := by decide +kernel
theorem dX0_holds_262 : decode cX0_holds 262 = .ok (.ireturn, 1) := by decide +kernel
theorem dX0_holds_263 : decode cX0_holds 263 = .ok (.aload_n 0, 1) := by decide +kernel
theorem dX0_holds_264 : decode cX0_holds 264 = .ok (.invokevirtual 64, 3) := by decide +kernel
theorem dX0_holds_267 : decode cX0_holds 267 = .ok (.ifCond .eq 19, 3) := by decide +kernel
theorem dX0_holds_270 : decode cX0_holds 270 = .ok (.aload_n 0, 1) := by decide +kernel
theorem dX0_holds_271 : decode cX0_holds 271 = .ok (.invokevirtual 64, 3) := by decide +kernel
theorem dX0_holds_274 : decode cX0_holds 274 = .ok (.bipush 78, 2) := by decide +kernel
theorem dX0_holds_276 : decode cX0_holds 276 = .ok (.aload_n 0, 1) := by decide +kernel
theorem dX0_holds_277 : decode cX0_holds 277 = .ok (.invokevirtual 43, 3) := by decide +kernel
theorem dX0_holds_280 : decode cX0_holds 280 = .ok (.invokestatic 90, 3) := by decide +kernel
theorem dX0_holds_283 : decode cX0_holds 283 = .ok (.ifCond .eq 7, 3) := by decide +kernel
theorem dX0_holds_286 : decode cX0_holds 286 = .ok (.iconst 1, 1) := by decide +kernel
theorem dX0_holds_287 : decode cX0_holds 287 = .ok (.goto 4, 3) := by decide +kernel
theorem dX0_holds_290 : decode cX0_holds 290 = .ok (.iconst 0, 1) := by decide +kernel
theorem dX0_holds_291 : decode cX0_holds 291 = .ok (.ireturn, 1) := by decide +kernel
theorem dX0_holds_292 : decode cX0_holds 292 = .ok (.aload_n 0, 1) := by decide +kernel
theorem dX0_holds_293 : decode cX0_holds 293 = .ok (.invokevirtual 67, 3) := by decide +kernel
theorem dX0_holds_296 : decode cX0_holds 296 = .ok (.ifCond .eq 10, 3) := by decide +kernel
theorem dX0_holds_299 : decode cX0_holds 299 = .ok (.aload_n 0, 1) := by decide +kernel
theorem dX0_holds_300 : decode cX0_holds 300 = .ok (.invokevirtual 97, 3) := by decide +kernel
theorem dX0_holds_303 : decode cX0_holds 303 = .ok (.ifCond .eq 7, 3) := by decide +kernel
theorem dX0_holds_306 : decode cX0_holds 306 = .ok (.iconst 1, 1) := by decide +kernel
theorem dX0_holds_307 : decode cX0_holds 307 = .ok (.goto 4, 3) := by decide +kernel
theorem dX0_holds_310 : decode cX0_holds 310 = .ok (.iconst 0, 1) := by decide +kernel
theorem dX0_holds_311 : decode cX0_holds 311 = .ok (.ireturn, 1) := by decide +kernel
theorem dX0_holds_312 : decode cX0_holds 312 = .ok (.aload_n 0, 1) := by decide +kernel
theorem dX0_holds_313 : decode cX0_holds 313 = .ok (.invokevirtual 40, 3) := by decide +kernel
theorem dX0_holds_316 : decode cX0_holds 316 = .ok (.ifCond .eq 10, 3) := by decide +kernel
theorem dX0_holds_319 : decode cX0_holds 319 = .ok (.aload_n 0, 1) := by decide +kernel
theorem dX0_holds_320 : decode cX0_holds 320 = .ok (.invokevirtual 100, 3) := by decide +kernel
theorem dX0_holds_323 : decode cX0_holds 323 = .ok (.ifCond .eq 7, 3) := by decide +kernel
theorem dX0_holds_326 : decode cX0_holds 326 = .ok (.iconst 1, 1) := by decide +kernel
theorem dX0_holds_327 : decode cX0_holds 327 = .ok (.goto 4, 3) := by decide +kernel
theorem dX0_holds_330 : decode cX0_holds 330 = .ok (.iconst 0, 1) := by decide +kernel
theorem dX0_holds_331 : decode cX0_holds 331 = .ok (.ireturn, 1) := by decide +kernel
theorem dX0_holds_332 : decode cX0_holds 332 = .ok (.aload_n 0, 1) := by decide +kernel
theorem dX0_holds_333 : decode cX0_holds 333 = .ok (.invokevirtual 73, 3) := by decide +kernel
theorem dX0_holds_336 : decode cX0_holds 336 = .ok (.ifCond .eq 10, 3) := by decide +kernel
theorem dX0_holds_339 : decode cX0_holds 339 = .ok (.aload_n 0, 1) := by decide +kernel
theorem dX0_holds_340 : decode cX0_holds 340 = .ok (.invokevirtual 103, 3) := by decide +kernel
theorem dX0_holds_343 : decode cX0_holds 343 = .ok (.ifCond .eq 7, 3) := by decide +kernel
theorem dX0_holds_346 : decode cX0_holds 346 = .ok (.iconst 1, 1) := by decide +kernel
theorem dX0_holds_347 : decode cX0_holds 347 = .ok (.goto 4, 3) := by decide +kernel
theorem dX0_holds_350 : decode cX0_holds 350 = .ok (.iconst 0, 1) := by decide +kernel
theorem dX0_holds_351 : decode cX0_holds 351 = .ok (.ireturn, 1) := by decide +kernel
set_option maxRecDepth 20000 in
theorem ggX0_placeOf_X2_count : GoodIn wsX0_placeOf wsX2_count := goodIn_r _ [6, 7, 27, 28] (by decide +kernel) (by decide +kernel)
set_option maxRecDepth 20000 in
theorem gX0_placeOf_X2_count : GoodIn wsX0_placeOf (wsV RX0 28 RX2 yX2_count wsX2_count) := goodIn_app (goodIn_of _ (by decide +kernel)) ggX0_placeOf_X2_count
set_option maxRecDepth 20000 in
theorem ggX0_placeOf_X0_more : GoodIn wsX0_placeOf wsX0_more := goodIn_ca (goodIn_r _ [12, 1, 13, 14, 15, 11, 16, 17, 18, 19, 5, 20, 7, 21, 22, 23, 24, 25, 26, 27, 28] (by decide +kernel) (by decide +kernel)) (goodIn_sub (fun _ h => List.mem_cons_of_mem _ (List.mem_append_right _ h)) (by decide +kernel))
set_option maxRecDepth 20000 in
theorem gX0_placeOf_X0_more : GoodIn wsX0_placeOf (wsV RX0 40 RX0 yX0_more wsX0_more) := goodIn_app (goodIn_of _ (by decide +kernel)) ggX0_placeOf_X0_more
theorem dX0_placeOf_0 : decode cX0_placeOf 0 = .ok (.iload_n 1, 1) := by decide +kernel
theorem dX0_placeOf_1 : decode cX0_placeOf 1 = .ok (.tableswitch 115 3 15 #[67, 75, 78, 81, 83, 86, 89, 92, 95, 98, 101, 104, 107], 67) := by decide +kernel
theorem dX0_placeOf_68 : decode cX0_placeOf 68 = .ok (.aload_n 0, 1) := by decide +kernel
theorem dX0_placeOf_69 : decode cX0_placeOf 69 = .ok (.getfield 9, 3) := by decide +kernel
theorem dX0_placeOf_72 : decode cX0_placeOf 72 = .ok (.invokevirtual 28, 3) := by decide +kernel
theorem dX0_placeOf_75 : decode cX0_placeOf 75 = .ok (.ireturn, 1) := by decide +kernel
theorem dX0_placeOf_76 : decode cX0_placeOf 76 = .ok (.bipush 26, 2) := by decide +kernel
theorem dX0_placeOf_78 : decode cX0_placeOf 78 = .ok (.ireturn, 1) := by decide +kernel
theorem dX0_placeOf_79 : decode cX0_placeOf 79 = .ok (.bipush 14, 2) := by decide +kernel
theorem dX0_placeOf_81 : decode cX0_placeOf 81 = .ok (.ireturn, 1) := by decide +kernel
theorem dX0_placeOf_82 : decode cX0_placeOf 82 = .ok (.iconst 4, 1) := by decide +kernel
theorem dX0_placeOf_83 : decode cX0_placeOf 83 = .ok (.ireturn, 1) := by decide +kernel
theorem dX0_placeOf_84 : decode cX0_placeOf 84 = .ok (.bipush 12, 2) := by decide +kernel
theorem dX0_placeOf_86 : decode cX0_placeOf 86 = .ok (.ireturn, 1) := by decide +kernel
theorem dX0_placeOf_87 : decode cX0_placeOf 87 = .ok (.bipush 10, 2) := by decide +kernel
theorem dX0_placeOf_89 : decode cX0_placeOf 89 = .ok (.ireturn, 1) := by decide +kernel
theorem dX0_placeOf_90 : decode cX0_placeOf 90 = .ok (.bipush 8, 2) := by decide +kernel
theorem dX0_placeOf_92 : decode cX0_placeOf 92 = .ok (.ireturn, 1) := by decide +kernel
theorem dX0_placeOf_93 : decode cX0_placeOf 93 = .ok (.bipush 24, 2) := by decide +kernel
theorem dX0_placeOf_95 : decode cX0_placeOf 95 = .ok (.ireturn, 1) := by decide +kernel
theorem dX0_placeOf_96 : decode cX0_placeOf 96 = .ok (.bipush 6, 2) := by decide +kernel
theorem dX0_placeOf_98 : decode cX0_placeOf 98 = .ok (.ireturn, 1) := by decide +kernel
theorem dX0_placeOf_99 : decode cX0_placeOf 99 = .ok (.bipush 52, 2) := by decide +kernel
theorem dX0_placeOf_101 : decode cX0_placeOf 101 = .ok (.ireturn, 1) := by decide +kernel
theorem dX0_placeOf_102 : decode cX0_placeOf 102 = .ok (.bipush 46, 2) := by decide +kernel
theorem dX0_placeOf_104 : decode cX0_placeOf 104 = .ok (.ireturn, 1) := by decide +kernel
theorem dX0_placeOf_105 : decode cX0_placeOf 105 = .ok (.bipush 54, 2) := by decide +kernel
theorem dX0_placeOf_107 : decode cX0_placeOf 107 = .ok (.ireturn, 1) := by decide +kernel
theorem dX0_placeOf_108 : decode cX0_placeOf 108 = .ok (.aload_n 0, 1) := by decide +kernel
theorem dX0_placeOf_109 : decode cX0_placeOf 109 = .ok (.invokevirtual 40, 3) := by decide +kernel
theorem dX0_placeOf_112 : decode cX0_placeOf 112 = .ok (.bipush 6, 2) := by decide +kernel
theorem dX0_placeOf_114 : decode cX0_placeOf 114 = .ok (.iadd, 1) := by decide +kernel
theorem dX0_placeOf_115 : decode cX0_placeOf 115 = .ok (.ireturn, 1) := by decide +kernel
theorem dX0_placeOf_116 : decode cX0_placeOf 116 = .ok (.iconst 0, 1) := by decide +kernel
theorem dX0_placeOf_117 : decode cX0_placeOf 117 = .ok (.ireturn, 1) := by decide +kernel
set_option maxRecDepth 20000 in
theorem ggX0_wordsHold_X0_words : GoodIn wsX0_wordsHold wsX0_words := goodIn_ca (goodIn_r _ [10, 1, 11, 12, 13, 14, 15, 16, 17, 38, 39, 40] (by decide +kernel) (by decide +kernel)) (goodIn_sub (fun _ h => List.mem_cons_of_mem _ (List.mem_append_right _ h)) (by decide +kernel))
set_option maxRecDepth 20000 in
theorem gX0_wordsHold_X0_words : GoodIn wsX0_wordsHold (wsV RX0 34 RX0 yX0_words wsX0_words) := goodIn_app (goodIn_of _ (by decide +kernel)) ggX0_wordsHold_X0_words
set_option maxRecDepth 20000 in
theorem ggX0_wordsHold_X2_at : GoodIn wsX0_wordsHold wsX2_at := goodIn_ca (goodIn_r _ [21, 16, 17, 39, 40] (by decide +kernel) (by decide +kernel)) (goodIn_sub (fun _ h => List.mem_cons_of_mem _ (List.mem_append_right _ h)) (by decide +kernel))
set_option maxRecDepth 20000 in
theorem gX0_wordsHold_X2_at : GoodIn wsX0_wordsHold (wsV RX0 15 RX2 yX2_at wsX2_at) := goodIn_app (goodIn_of _ (by decide +kernel)) ggX0_wordsHold_X2_at
set_option maxRecDepth 20000 in
theorem ggX0_wordsHold_X2_two : GoodIn wsX0_wordsHold wsX2_two := goodIn_ca (goodIn_r _ [15, 16, 17, 39, 40] (by decide +kernel) (by decide +kernel)) (goodIn_sub (fun _ h => List.mem_cons_of_mem _ (List.mem_append_right _ h)) (by decide +kernel))
set_option maxRecDepth 20000 in
theorem gX0_wordsHold_X2_two : GoodIn wsX0_wordsHold (wsV RX0 25 RX2 yX2_two wsX2_two) := goodIn_app (goodIn_of _ (by decide +kernel)) ggX0_wordsHold_X2_two
set_option maxRecDepth 20000 in
theorem ggX0_wordsHold_X0_version : GoodIn wsX0_wordsHold wsX0_version := goodIn_ca (goodIn_r _ [25, 1, 18, 19, 20, 14, 21, 16, 17, 38, 39, 40] (by decide +kernel) (by decide +kernel)) (goodIn_sub (fun _ h => List.mem_cons_of_mem _ (List.mem_append_right _ h)) (by decide +kernel))
set_option maxRecDepth 20000 in
theorem gX0_wordsHold_X0_version : GoodIn wsX0_wordsHold (wsV RX0 21 RX0 yX0_version wsX0_version) := goodIn_app (goodIn_of _ (by decide +kernel)) ggX0_wordsHold_X0_version
set_option maxRecDepth 20000 in
theorem ggX0_wordsHold_X0_length : GoodIn wsX0_wordsHold wsX0_length := goodIn_ca (goodIn_r _ [29, 1, 11, 12, 13, 14, 15, 16, 17, 22, 23, 24, 9, 25, 18, 19, 20, 21, 30, 31, 32, 33, 34, 35, 36, 37, 38, 39, 40] (by decide +kernel) (by decide +kernel)) (goodIn_sub (fun _ h => List.mem_cons_of_mem _ (List.mem_append_right _ h)) (by decide +kernel))
set_option maxRecDepth 20000 in
theorem gX0_wordsHold_X0_length : GoodIn wsX0_wordsHold (wsV RX0 43 RX0 yX0_length wsX0_length) := goodIn_app (goodIn_of _ (by decide +kernel)) ggX0_wordsHold_X0_length
theorem dX0_wordsHold_0 : decode cX0_wordsHold 0 = .ok (.aload_n 0, 1) := by decide +kernel
theorem dX0_wordsHold_1 : decode cX0_wordsHold 1 = .ok (.invokevirtual 34, 3) := by decide +kernel
theorem dX0_wordsHold_4 : decode cX0_wordsHold 4 = .ok (.istore_n 1, 1) := by decide +kernel
theorem dX0_wordsHold_5 : decode cX0_wordsHold 5 = .ok (.aload_n 0, 1) := by decide +kernel
theorem dX0_wordsHold_6 : decode cX0_wordsHold 6 = .ok (.getfield 9, 3) := by decide +kernel
theorem dX0_wordsHold_9 : decode cX0_wordsHold 9 = .ok (.iload_n 1, 1) := by decide +kernel
theorem dX0_wordsHold_10 : decode cX0_wordsHold 10 = .ok (.invokevirtual 15, 3) := by decide +kernel
theorem dX0_wordsHold_13 : decode cX0_wordsHold 13 = .ok (.istore_n 2, 1) := by decide +kernel
theorem dX0_wordsHold_14 : decode cX0_wordsHold 14 = .ok (.iload_n 1, 1) := by decide +kernel
theorem dX0_wordsHold_15 : decode cX0_wordsHold 15 = .ok (.bipush 64, 2) := by decide +kernel
theorem dX0_wordsHold_17 : decode cX0_wordsHold 17 = .ok (.if_icmp .lt 8, 3) := by decide +kernel
theorem dX0_wordsHold_20 : decode cX0_wordsHold 20 = .ok (.iload_n 2, 1) := by decide +kernel
theorem dX0_wordsHold_21 : decode cX0_wordsHold 21 = .ok (.iconst (-1), 1) := by decide +kernel
theorem dX0_wordsHold_22 : decode cX0_wordsHold 22 = .ok (.if_icmp .ne 5, 3) := by decide +kernel
theorem dX0_wordsHold_25 : decode cX0_wordsHold 25 = .ok (.iconst 0, 1) := by decide +kernel
theorem dX0_wordsHold_26 : decode cX0_wordsHold 26 = .ok (.ireturn, 1) := by decide +kernel
theorem dX0_wordsHold_27 : decode cX0_wordsHold 27 = .ok (.aload_n 0, 1) := by decide +kernel
theorem dX0_wordsHold_28 : decode cX0_wordsHold 28 = .ok (.getfield 9, 3) := by decide +kernel
theorem dX0_wordsHold_31 : decode cX0_wordsHold 31 = .ok (.iload_n 1, 1) := by decide +kernel
theorem dX0_wordsHold_32 : decode cX0_wordsHold 32 = .ok (.iconst 1, 1) := by decide +kernel
theorem dX0_wordsHold_33 : decode cX0_wordsHold 33 = .ok (.iadd, 1) := by decide +kernel
theorem dX0_wordsHold_34 : decode cX0_wordsHold 34 = .ok (.iload_n 2, 1) := by decide +kernel
theorem dX0_wordsHold_35 : decode cX0_wordsHold 35 = .ok (.iadd, 1) := by decide +kernel
theorem dX0_wordsHold_36 : decode cX0_wordsHold 36 = .ok (.invokevirtual 15, 3) := by decide +kernel
theorem dX0_wordsHold_39 : decode cX0_wordsHold 39 = .ok (.istore_n 3, 1) := by decide +kernel
theorem dX0_wordsHold_40 : decode cX0_wordsHold 40 = .ok (.aload_n 0, 1) := by decide +kernel
theorem dX0_wordsHold_41 : decode cX0_wordsHold 41 = .ok (.getfield 9, 3) := by decide +kernel
theorem dX0_wordsHold_44 : decode cX0_wordsHold 44 = .ok (.iload_n 1, 1) := by decide +kernel
theorem dX0_wordsHold_45 : decode cX0_wordsHold 45 = .ok (.iconst 2, 1) := by decide +kernel
theorem dX0_wordsHold_46 : decode cX0_wordsHold 46 = .ok (.iadd, 1) := by decide +kernel
theorem dX0_wordsHold_47 : decode cX0_wordsHold 47 = .ok (.iload_n 2, 1) := by decide +kernel
theorem dX0_wordsHold_48 : decode cX0_wordsHold 48 = .ok (.iadd, 1) := by decide +kernel
theorem dX0_wordsHold_49 : decode cX0_wordsHold 49 = .ok (.invokevirtual 25, 3) := by decide +kernel
theorem dX0_wordsHold_52 : decode cX0_wordsHold 52 = .ok (.istore 4, 2) := by decide +kernel
theorem dX0_wordsHold_54 : decode cX0_wordsHold 54 = .ok (.iload_n 3, 1) := by decide +kernel
theorem dX0_wordsHold_55 : decode cX0_wordsHold 55 = .ok (.aload_n 0, 1) := by decide +kernel
theorem dX0_wordsHold_56 : decode cX0_wordsHold 56 = .ok (.invokevirtual 21, 3) := by decide +kernel
theorem dX0_wordsHold_59 : decode cX0_wordsHold 59 = .ok (.iconst 3, 1) := by decide +kernel
theorem dX0_wordsHold_60 : decode cX0_wordsHold 60 = .ok (.if_icmp .gt 7, 3) := by decide +kernel
theorem dX0_wordsHold_63 : decode cX0_wordsHold 63 = .ok (.iconst 4, 1) := by decide +kernel
theorem dX0_wordsHold_64 : decode cX0_wordsHold 64 = .ok (.goto 5, 3) := by decide +kernel
theorem dX0_wordsHold_67 : decode cX0_wordsHold 67 = .ok (.bipush 6, 2) := by decide +kernel
theorem dX0_wordsHold_69 : decode cX0_wordsHold 69 = .ok (.if_icmp .lt 9, 3) := by decide +kernel
theorem dX0_wordsHold_72 : decode cX0_wordsHold 72 = .ok (.iload 4, 2) := by decide +kernel
theorem dX0_wordsHold_74 : decode cX0_wordsHold 74 = .ok (.iconst (-1), 1) := by decide +kernel
theorem dX0_wordsHold_75 : decode cX0_wordsHold 75 = .ok (.if_icmp .ne 5, 3) := by decide +kernel
theorem dX0_wordsHold_78 : decode cX0_wordsHold 78 = .ok (.iconst 0, 1) := by decide +kernel
theorem dX0_wordsHold_79 : decode cX0_wordsHold 79 = .ok (.ireturn, 1) := by decide +kernel
theorem dX0_wordsHold_80 : decode cX0_wordsHold 80 = .ok (.iload 4, 2) := by decide +kernel
theorem dX0_wordsHold_82 : decode cX0_wordsHold 82 = .ok (.i2s, 1) := by decide +kernel
theorem dX0_wordsHold_83 : decode cX0_wordsHold 83 = .ok (.invokestatic 106, 3) := by decide +kernel
theorem dX0_wordsHold_86 : decode cX0_wordsHold 86 = .ok (.istore 5, 2) := by decide +kernel
theorem dX0_wordsHold_88 : decode cX0_wordsHold 88 = .ok (.iload_n 1, 1) := by decide +kernel
theorem dX0_wordsHold_89 : decode cX0_wordsHold 89 = .ok (.iconst 4, 1) := by decide +kernel
theorem dX0_wordsHold_90 : decode cX0_wordsHold 90 = .ok (.iadd, 1) := by decide +kernel
theorem dX0_wordsHold_91 : decode cX0_wordsHold 91 = .ok (.iload_n 2, 1) := by decide +kernel
theorem dX0_wordsHold_92 : decode cX0_wordsHold 92 = .ok (.iadd, 1) := by decide +kernel
theorem dX0_wordsHold_93 : decode cX0_wordsHold 93 = .ok (.iload 5, 2) := by decide +kernel
theorem dX0_wordsHold_95 : decode cX0_wordsHold 95 = .ok (.iload_n 3, 1) := by decide +kernel
theorem dX0_wordsHold_96 : decode cX0_wordsHold 96 = .ok (.imul, 1) := by decide +kernel
theorem dX0_wordsHold_97 : decode cX0_wordsHold 97 = .ok (.iadd, 1) := by decide +kernel
theorem dX0_wordsHold_98 : decode cX0_wordsHold 98 = .ok (.aload_n 0, 1) := by decide +kernel
theorem dX0_wordsHold_99 : decode cX0_wordsHold 99 = .ok (.invokevirtual 43, 3) := by decide +kernel
theorem dX0_wordsHold_102 : decode cX0_wordsHold 102 = .ok (.if_icmp .gt 7, 3) := by decide +kernel
theorem dX0_wordsHold_105 : decode cX0_wordsHold 105 = .ok (.iconst 1, 1) := by decide +kernel
theorem dX0_wordsHold_106 : decode cX0_wordsHold 106 = .ok (.goto 4, 3) := by decide +kernel
theorem dX0_wordsHold_109 : decode cX0_wordsHold 109 = .ok (.iconst 0, 1) := by decide +kernel
theorem dX0_wordsHold_110 : decode cX0_wordsHold 110 = .ok (.ireturn, 1) := by decide +kernel
set_option maxRecDepth 20000 in
theorem ggX0_endsHold_X0_ends : GoodIn wsX0_endsHold wsX0_ends := goodIn_ca (goodIn_r _ [6, 1, 7, 8, 9, 5, 10, 11, 12, 13, 14, 15, 16, 17, 18, 19, 20, 21, 34, 35, 36] (by decide +kernel) (by decide +kernel)) (goodIn_sub (fun _ h => List.mem_cons_of_mem _ (List.mem_append_right _ h)) (by decide +kernel))
set_option maxRecDepth 20000 in
theorem gX0_endsHold_X0_ends : GoodIn wsX0_endsHold (wsV RX0 67 RX0 yX0_ends wsX0_ends) := goodIn_app (goodIn_of _ (by decide +kernel)) ggX0_endsHold_X0_ends
set_option maxRecDepth 20000 in
theorem ggX0_endsHold_X0_length : GoodIn wsX0_endsHold wsX0_length := goodIn_ca (goodIn_r _ [25, 1, 18, 19, 20, 14, 21, 16, 17, 7, 8, 9, 5, 10, 11, 12, 13, 15, 26, 27, 28, 29, 30, 31, 32, 33, 34, 35, 36] (by decide +kernel) (by decide +kernel)) (goodIn_sub (fun _ h => List.mem_cons_of_mem _ (List.mem_append_right _ h)) (by decide +kernel))
set_option maxRecDepth 20000 in
theorem gX0_endsHold_X0_length : GoodIn wsX0_endsHold (wsV RX0 43 RX0 yX0_length wsX0_length) := goodIn_app (goodIn_of _ (by decide +kernel)) ggX0_endsHold_X0_length
set_option maxRecDepth 20000 in
theorem ggX0_endsHold_X2_at : GoodIn wsX0_endsHold wsX2_at := goodIn_ca (goodIn_r _ [15, 16, 17, 35, 36] (by decide +kernel) (by decide +kernel)) (goodIn_sub (fun _ h => List.mem_cons_of_mem _ (List.mem_append_right _ h)) (by decide +kernel))
set_option maxRecDepth 20000 in
theorem gX0_endsHold_X2_at : GoodIn wsX0_endsHold (wsV RX0 15 RX2 yX2_at wsX2_at) := goodIn_app (goodIn_of _ (by decide +kernel)) ggX0_endsHold_X2_at
theorem dX0_endsHold_0 : decode cX0_endsHold 0 = .ok (.aload_n 0, 1) := by decide +kernel
theorem dX0_endsHold_1 : decode cX0_endsHold 1 = .ok (.invokevirtual 67, 3) := by decide +kernel
theorem dX0_endsHold_4 : decode cX0_endsHold 4 = .ok (.istore_n 1, 1) := by decide +kernel
theorem dX0_endsHold_5 : decode cX0_endsHold 5 = .ok (.aload_n 0, 1) := by decide +kernel
theorem dX0_endsHold_6 : decode cX0_endsHold 6 = .ok (.invokevirtual 43, 3) := by decide +kernel
theorem dX0_endsHold_9 : decode cX0_endsHold 9 = .ok (.istore_n 2, 1) := by decide +kernel
theorem dX0_endsHold_10 : decode cX0_endsHold 10 = .ok (.iload_n 1, 1) := by decide +kernel
theorem dX0_endsHold_11 : decode cX0_endsHold 11 = .ok (.bipush 64, 2) := by decide +kernel
theorem dX0_endsHold_13 : decode cX0_endsHold 13 = .ok (.if_icmp .ge 5, 3) := by decide +kernel
theorem dX0_endsHold_16 : decode cX0_endsHold 16 = .ok (.iconst 0, 1) := by decide +kernel
theorem dX0_endsHold_17 : decode cX0_endsHold 17 = .ok (.ireturn, 1) := by decide +kernel
theorem dX0_endsHold_18 : decode cX0_endsHold 18 = .ok (.iload_n 1, 1) := by decide +kernel
theorem dX0_endsHold_19 : decode cX0_endsHold 19 = .ok (.istore_n 3, 1) := by decide +kernel
theorem dX0_endsHold_20 : decode cX0_endsHold 20 = .ok (.iload_n 3, 1) := by decide +kernel
theorem dX0_endsHold_21 : decode cX0_endsHold 21 = .ok (.iload_n 2, 1) := by decide +kernel
theorem dX0_endsHold_22 : decode cX0_endsHold 22 = .ok (.if_icmp .ge 22, 3) := by decide +kernel
theorem dX0_endsHold_25 : decode cX0_endsHold 25 = .ok (.aload_n 0, 1) := by decide +kernel
theorem dX0_endsHold_26 : decode cX0_endsHold 26 = .ok (.getfield 9, 3) := by decide +kernel
theorem dX0_endsHold_29 : decode cX0_endsHold 29 = .ok (.iload_n 3, 1) := by decide +kernel
theorem dX0_endsHold_30 : decode cX0_endsHold 30 = .ok (.invokevirtual 15, 3) := by decide +kernel
theorem dX0_endsHold_33 : decode cX0_endsHold 33 = .ok (.ifCond .ne 5, 3) := by decide +kernel
theorem dX0_endsHold_36 : decode cX0_endsHold 36 = .ok (.iconst 1, 1) := by decide +kernel
theorem dX0_endsHold_37 : decode cX0_endsHold 37 = .ok (.ireturn, 1) := by decide +kernel
theorem dX0_endsHold_38 : decode cX0_endsHold 38 = .ok (.iinc 3 1, 3) := by decide +kernel
theorem dX0_endsHold_41 : decode cX0_endsHold 41 = .ok (.goto (-21), 3) := by decide +kernel
theorem dX0_endsHold_44 : decode cX0_endsHold 44 = .ok (.iconst 0, 1) := by decide +kernel
theorem dX0_endsHold_45 : decode cX0_endsHold 45 = .ok (.ireturn, 1) := by decide +kernel
set_option maxRecDepth 20000 in
theorem ggX0_moreHolds_X0_moreWords : GoodIn wsX0_moreHolds wsX0_moreWords := goodIn_ca (goodIn_r _ [5, 6, 7, 8, 9, 4, 10, 11, 12, 13, 14, 15, 16, 17, 18, 19, 20, 21, 22, 23, 24, 25, 41, 42, 43] (by decide +kernel) (by decide +kernel)) (goodIn_sub (fun _ h => List.mem_cons_of_mem _ (List.mem_append_right _ h)) (by decide +kernel))
set_option maxRecDepth 20000 in
theorem gX0_moreHolds_X0_moreWords : GoodIn wsX0_moreHolds (wsV RX0 70 RX0 yX0_moreWords wsX0_moreWords) := goodIn_app (goodIn_of _ (by decide +kernel)) ggX0_moreHolds_X0_moreWords
set_option maxRecDepth 20000 in
theorem ggX0_moreHolds_X0_more : GoodIn wsX0_moreHolds wsX0_more := goodIn_ca (goodIn_r _ [10, 6, 11, 12, 13, 4, 14, 15, 16, 17, 18, 19, 20, 21, 22, 23, 24, 25, 41, 42, 43] (by decide +kernel) (by decide +kernel)) (goodIn_sub (fun _ h => List.mem_cons_of_mem _ (List.mem_append_right _ h)) (by decide +kernel))
set_option maxRecDepth 20000 in
theorem gX0_moreHolds_X0_more : GoodIn wsX0_moreHolds (wsV RX0 40 RX0 yX0_more wsX0_more) := goodIn_app (goodIn_of _ (by decide +kernel)) ggX0_moreHolds_X0_more
set_option maxRecDepth 20000 in
theorem ggX0_moreHolds_X0_length : GoodIn wsX0_moreHolds wsX0_length := goodIn_ca (goodIn_r _ [29, 6, 22, 23, 24, 18, 25, 20, 21, 11, 12, 13, 4, 14, 15, 16, 17, 19, 30, 31, 32, 33, 34, 35, 36, 37, 41, 42, 43] (by decide +kernel) (by decide +kernel)) (goodIn_sub (fun _ h => List.mem_cons_of_mem _ (List.mem_append_right _ h)) (by decide +kernel))
set_option maxRecDepth 20000 in
theorem gX0_moreHolds_X0_length : GoodIn wsX0_moreHolds (wsV RX0 43 RX0 yX0_length wsX0_length) := goodIn_app (goodIn_of _ (by decide +kernel)) ggX0_moreHolds_X0_length
set_option maxRecDepth 20000 in
theorem ggX0_moreHolds_X0_fits : GoodIn wsX0_moreHolds wsX0_fits := goodIn_r _ [40] (by decide +kernel) (by decide +kernel)
set_option maxRecDepth 20000 in
theorem gX0_moreHolds_X0_fits : GoodIn wsX0_moreHolds (va_wsS RX0 90 yX0_fits wsX0_fits) := goodIn_app (goodIn_of _ (by decide +kernel)) ggX0_moreHolds_X0_fits
theorem dX0_moreHolds_0 : decode cX0_moreHolds 0 = .ok (.aload_n 0, 1) := by decide +kernel
theorem dX0_moreHolds_1 : decode cX0_moreHolds 1 = .ok (.invokevirtual 70, 3) := by decide +kernel
theorem dX0_moreHolds_4 : decode cX0_moreHolds 4 = .ok (.istore_n 1, 1) := by decide +kernel
theorem dX0_moreHolds_5 : decode cX0_moreHolds 5 = .ok (.iload_n 1, 1) := by decide +kernel
theorem dX0_moreHolds_6 : decode cX0_moreHolds 6 = .ok (.iconst (-1), 1) := by decide +kernel
theorem dX0_moreHolds_7 : decode cX0_moreHolds 7 = .ok (.if_icmp .eq 26, 3) := by decide +kernel
theorem dX0_moreHolds_10 : decode cX0_moreHolds 10 = .ok (.aload_n 0, 1) := by decide +kernel
theorem dX0_moreHolds_11 : decode cX0_moreHolds 11 = .ok (.invokevirtual 40, 3) := by decide +kernel
theorem dX0_moreHolds_14 : decode cX0_moreHolds 14 = .ok (.iconst 2, 1) := by decide +kernel
theorem dX0_moreHolds_15 : decode cX0_moreHolds 15 = .ok (.iconst 2, 1) := by decide +kernel
theorem dX0_moreHolds_16 : decode cX0_moreHolds 16 = .ok (.iload_n 1, 1) := by decide +kernel
theorem dX0_moreHolds_17 : decode cX0_moreHolds 17 = .ok (.imul, 1) := by decide +kernel
theorem dX0_moreHolds_18 : decode cX0_moreHolds 18 = .ok (.iadd, 1) := by decide +kernel
theorem dX0_moreHolds_19 : decode cX0_moreHolds 19 = .ok (.aload_n 0, 1) := by decide +kernel
theorem dX0_moreHolds_20 : decode cX0_moreHolds 20 = .ok (.invokevirtual 43, 3) := by decide +kernel
theorem dX0_moreHolds_23 : decode cX0_moreHolds 23 = .ok (.invokestatic 90, 3) := by decide +kernel
theorem dX0_moreHolds_26 : decode cX0_moreHolds 26 = .ok (.ifCond .eq 7, 3) := by decide +kernel
theorem dX0_moreHolds_29 : decode cX0_moreHolds 29 = .ok (.iconst 1, 1) := by decide +kernel
theorem dX0_moreHolds_30 : decode cX0_moreHolds 30 = .ok (.goto 4, 3) := by decide +kernel
theorem dX0_moreHolds_33 : decode cX0_moreHolds 33 = .ok (.iconst 0, 1) := by decide +kernel
theorem dX0_moreHolds_34 : decode cX0_moreHolds 34 = .ok (.ireturn, 1) := by decide +kernel
set_option maxRecDepth 20000 in
theorem ggX0_thirdHolds_X0_thirdWord : GoodIn wsX0_thirdHolds wsX0_thirdWord := goodIn_ca (goodIn_r _ [6, 1, 7, 8, 9, 5, 10, 11, 12, 13, 14, 15, 16, 17, 18, 19, 20, 21, 22, 23, 24, 25, 41, 42, 43] (by decide +kernel) (by decide +kernel)) (goodIn_sub (fun _ h => List.mem_cons_of_mem _ (List.mem_append_right _ h)) (by decide +kernel))
set_option maxRecDepth 20000 in
theorem gX0_thirdHolds_X0_thirdWord : GoodIn wsX0_thirdHolds (wsV RX0 73 RX0 yX0_thirdWord wsX0_thirdWord) := goodIn_app (goodIn_of _ (by decide +kernel)) ggX0_thirdHolds_X0_thirdWord
set_option maxRecDepth 20000 in
theorem ggX0_thirdHolds_X2_at : GoodIn wsX0_thirdHolds wsX2_at := goodIn_ca (goodIn_r _ [19, 20, 21, 42, 43] (by decide +kernel) (by decide +kernel)) (goodIn_sub (fun _ h => List.mem_cons_of_mem _ (List.mem_append_right _ h)) (by decide +kernel))
set_option maxRecDepth 20000 in
theorem gX0_thirdHolds_X2_at : GoodIn wsX0_thirdHolds (wsV RX0 15 RX2 yX2_at wsX2_at) := goodIn_app (goodIn_of _ (by decide +kernel)) ggX0_thirdHolds_X2_at
set_option maxRecDepth 20000 in
theorem ggX0_thirdHolds_X0_length : GoodIn wsX0_thirdHolds wsX0_length := goodIn_ca (goodIn_r _ [29, 1, 22, 23, 24, 18, 25, 20, 21, 11, 12, 13, 5, 14, 15, 16, 17, 19, 30, 31, 32, 33, 34, 35, 36, 37, 41, 42, 43] (by decide +kernel) (by decide +kernel)) (goodIn_sub (fun _ h => List.mem_cons_of_mem _ (List.mem_append_right _ h)) (by decide +kernel))
set_option maxRecDepth 20000 in
theorem gX0_thirdHolds_X0_length : GoodIn wsX0_thirdHolds (wsV RX0 43 RX0 yX0_length wsX0_length) := goodIn_app (goodIn_of _ (by decide +kernel)) ggX0_thirdHolds_X0_length
set_option maxRecDepth 20000 in
theorem ggX0_thirdHolds_X0_fits : GoodIn wsX0_thirdHolds wsX0_fits := goodIn_r _ [40] (by decide +kernel) (by decide +kernel)
set_option maxRecDepth 20000 in
theorem gX0_thirdHolds_X0_fits : GoodIn wsX0_thirdHolds (va_wsS RX0 90 yX0_fits wsX0_fits) := goodIn_app (goodIn_of _ (by decide +kernel)) ggX0_thirdHolds_X0_fits
theorem dX0_thirdHolds_0 : decode cX0_thirdHolds 0 = .ok (.aload_n 0, 1) := by decide +kernel
theorem dX0_thirdHolds_1 : decode cX0_thirdHolds 1 = .ok (.invokevirtual 73, 3) := by decide +kernel
theorem dX0_thirdHolds_4 : decode cX0_thirdHolds 4 = .ok (.istore_n 1, 1) := by decide +kernel
theorem dX0_thirdHolds_5 : decode cX0_thirdHolds 5 = .ok (.aload_n 0, 1) := by decide +kernel
theorem dX0_thirdHolds_6 : decode cX0_thirdHolds 6 = .ok (.getfield 9, 3) := by decide +kernel
theorem dX0_thirdHolds_9 : decode cX0_thirdHolds 9 = .ok (.iload_n 1, 1) := by decide +kernel
theorem dX0_thirdHolds_10 : decode cX0_thirdHolds 10 = .ok (.invokevirtual 15, 3) := by decide +kernel
theorem dX0_thirdHolds_13 : decode cX0_thirdHolds 13 = .ok (.istore_n 2, 1) := by decide +kernel
theorem dX0_thirdHolds_14 : decode cX0_thirdHolds 14 = .ok (.iload_n 2, 1) := by decide +kernel
theorem dX0_thirdHolds_15 : decode cX0_thirdHolds 15 = .ok (.iconst (-1), 1) := by decide +kernel
theorem dX0_thirdHolds_16 : decode cX0_thirdHolds 16 = .ok (.if_icmp .eq 23, 3) := by decide +kernel
theorem dX0_thirdHolds_19 : decode cX0_thirdHolds 19 = .ok (.iload_n 1, 1) := by decide +kernel
theorem dX0_thirdHolds_20 : decode cX0_thirdHolds 20 = .ok (.iconst 1, 1) := by decide +kernel
theorem dX0_thirdHolds_21 : decode cX0_thirdHolds 21 = .ok (.iconst 2, 1) := by decide +kernel
theorem dX0_thirdHolds_22 : decode cX0_thirdHolds 22 = .ok (.iload_n 2, 1) := by decide +kernel
theorem dX0_thirdHolds_23 : decode cX0_thirdHolds 23 = .ok (.imul, 1) := by decide +kernel
theorem dX0_thirdHolds_24 : decode cX0_thirdHolds 24 = .ok (.iadd, 1) := by decide +kernel
theorem dX0_thirdHolds_25 : decode cX0_thirdHolds 25 = .ok (.aload_n 0, 1) := by decide +kernel
theorem dX0_thirdHolds_26 : decode cX0_thirdHolds 26 = .ok (.invokevirtual 43, 3) := by decide +kernel
theorem dX0_thirdHolds_29 : decode cX0_thirdHolds 29 = .ok (.invokestatic 90, 3) := by decide +kernel
theorem dX0_thirdHolds_32 : decode cX0_thirdHolds 32 = .ok (.ifCond .eq 7, 3) := by decide +kernel
theorem dX0_thirdHolds_35 : decode cX0_thirdHolds 35 = .ok (.iconst 1, 1) := by decide +kernel
theorem dX0_thirdHolds_36 : decode cX0_thirdHolds 36 = .ok (.goto 4, 3) := by decide +kernel
theorem dX0_thirdHolds_39 : decode cX0_thirdHolds 39 = .ok (.iconst 0, 1) := by decide +kernel
theorem dX0_thirdHolds_40 : decode cX0_thirdHolds 40 = .ok (.ireturn, 1) := by decide +kernel
theorem dX0_isWithin_0 : decode cX0_isWithin 0 = .ok (.iload_n 0, 1) := by decide +kernel
theorem dX0_isWithin_1 : decode cX0_isWithin 1 = .ok (.iload_n 1, 1) := by decide +kernel
theorem dX0_isWithin_2 : decode cX0_isWithin 2 = .ok (.if_icmp .lt 12, 3) := by decide +kernel
theorem dX0_isWithin_5 : decode cX0_isWithin 5 = .ok (.iload_n 0, 1) := by decide +kernel
theorem dX0_isWithin_6 : decode cX0_isWithin 6 = .ok (.iload_n 2, 1) := by decide +kernel
theorem dX0_isWithin_7 : decode cX0_isWithin 7 = .ok (.if_icmp .gt 7, 3) := by decide +kernel
theorem dX0_isWithin_10 : decode cX0_isWithin 10 = .ok (.iconst 1, 1) := by decide +kernel
theorem dX0_isWithin_11 : decode cX0_isWithin 11 = .ok (.goto 4, 3) := by decide +kernel
theorem dX0_isWithin_14 : decode cX0_isWithin 14 = .ok (.iconst 0, 1) := by decide +kernel
theorem dX0_isWithin_15 : decode cX0_isWithin 15 = .ok (.ireturn, 1) := by decide +kernel
theorem dX0_fits_0 : decode cX0_fits 0 = .ok (.iload_n 0, 1) := by decide +kernel
theorem dX0_fits_1 : decode cX0_fits 1 = .ok (.bipush 64, 2) := by decide +kernel
theorem dX0_fits_3 : decode cX0_fits 3 = .ok (.if_icmp .lt 14, 3) := by decide +kernel
theorem dX0_fits_6 : decode cX0_fits 6 = .ok (.iload_n 0, 1) := by decide +kernel
theorem dX0_fits_7 : decode cX0_fits 7 = .ok (.iload_n 1, 1) := by decide +kernel
theorem dX0_fits_8 : decode cX0_fits 8 = .ok (.iadd, 1) := by decide +kernel
theorem dX0_fits_9 : decode cX0_fits 9 = .ok (.iload_n 2, 1) := by decide +kernel
theorem dX0_fits_10 : decode cX0_fits 10 = .ok (.if_icmp .gt 7, 3) := by decide +kernel
theorem dX0_fits_13 : decode cX0_fits 13 = .ok (.iconst 1, 1) := by decide +kernel
theorem dX0_fits_14 : decode cX0_fits 14 = .ok (.goto 4, 3) := by decide +kernel
theorem dX0_fits_17 : decode cX0_fits 17 = .ok (.iconst 0, 1) := by decide +kernel
theorem dX0_fits_18 : decode cX0_fits 18 = .ok (.ireturn, 1) := by decide +kernel
