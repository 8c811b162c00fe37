set_option maxRecDepth 20000 in
theorem ggX3_init_X2_init : GoodIn wsX3_init wsX2_init := goodIn_r _ [16, 17, 2, 3, 18, 19, 20, 26, 27] (by decide +kernel) (by decide +kernel)
set_option maxRecDepth 20000 in
theorem gX3_init_X2_init_n9 : GoodIn wsX3_init (wsX2_init) := ggX3_init_X2_init
set_option maxRecDepth 20000 in
theorem ggX3_init_X0_init : GoodIn wsX3_init wsX0_init := goodIn_r _ [23, 24, 2, 3, 25, 33] (by decide +kernel) (by decide +kernel)
set_option maxRecDepth 20000 in
theorem gX3_init_X0_init : GoodIn wsX3_init (wsX0_init) := ggX3_init_X0_init
theorem dX3_init_0 : decode cX3_init 0 = .ok (.aload_n 0, 1) := by decide +kernel
theorem dX3_init_1 : decode cX3_init 1 = .ok (.invokespecial 1, 3) := by decide +kernel
theorem dX3_init_4 : decode cX3_init 4 = .ok (.aload_n 0, 1) := by decide +kernel
theorem dX3_init_5 : decode cX3_init 5 = .ok (.new 7, 3) := by decide +kernel
theorem dX3_init_8 : decode cX3_init 8 = .ok (.dup, 1) := by decide +kernel
theorem dX3_init_9 : decode cX3_init 9 = .ok (.invokespecial 9, 3) := by decide +kernel
theorem dX3_init_12 : decode cX3_init 12 = .ok (.putfield 10, 3) := by decide +kernel
theorem dX3_init_15 : decode cX3_init 15 = .ok (.aload_n 0, 1) := by decide +kernel
theorem dX3_init_16 : decode cX3_init 16 = .ok (.new 7, 3) := by decide +kernel
theorem dX3_init_19 : decode cX3_init 19 = .ok (.dup, 1) := by decide +kernel
theorem dX3_init_20 : decode cX3_init 20 = .ok (.invokespecial 9, 3) := by decide +kernel
theorem dX3_init_23 : decode cX3_init 23 = .ok (.putfield 16, 3) := by decide +kernel
theorem dX3_init_26 : decode cX3_init 26 = .ok (.aload_n 0, 1) := by decide +kernel
theorem dX3_init_27 : decode cX3_init 27 = .ok (.new 19, 3) := by decide +kernel
theorem dX3_init_30 : decode cX3_init 30 = .ok (.dup, 1) := by decide +kernel
theorem dX3_init_31 : decode cX3_init 31 = .ok (.aload_n 0, 1) := by decide +kernel
theorem dX3_init_32 : decode cX3_init 32 = .ok (.getfield 10, 3) := by decide +kernel
theorem dX3_init_35 : decode cX3_init 35 = .ok (.invokespecial 21, 3) := by decide +kernel
theorem dX3_init_38 : decode cX3_init 38 = .ok (.putfield 24, 3) := by decide +kernel
theorem dX3_init_41 : decode cX3_init 41 = .ok (.aload_n 0, 1) := by decide +kernel
theorem dX3_init_42 : decode cX3_init 42 = .ok (.iconst 0, 1) := by decide +kernel
theorem dX3_init_43 : decode cX3_init 43 = .ok (.putfield 28, 3) := by decide +kernel
theorem dX3_init_46 : decode cX3_init 46 = .ok (.aload_n 0, 1) := by decide +kernel
theorem dX3_init_47 : decode cX3_init 47 = .ok (.iconst 0, 1) := by decide +kernel
theorem dX3_init_48 : decode cX3_init 48 = .ok (.putfield 32, 3) := by decide +kernel
theorem dX3_init_51 : decode cX3_init 51 = .ok (.return_, 1) := by decide +kernel
set_option maxRecDepth 20000 in
theorem ggX3_octet_X3_isByte : GoodIn wsX3_octet wsX3_isByte := goodIn_r _ [4] (by decide +kernel) (by decide +kernel)
set_option maxRecDepth 20000 in
theorem gX3_octet_X3_isByte : GoodIn wsX3_octet (va_wsS RX3 36 yX3_isByte wsX3_isByte) := goodIn_app (goodIn_of _ (by decide +kernel)) ggX3_octet_X3_isByte
set_option maxRecDepth 20000 in
theorem ggX3_octet_X3_append : GoodIn wsX3_octet wsX3_append := goodIn_ca (goodIn_r _ [8, 9, 10, 11, 12, 13, 14, 15, 16, 17, 18, 19, 20, 21, 22, 23, 24, 25, 26, 27, 28, 29, 30, 31, 32] (by decide +kernel) (by decide +kernel)) (goodIn_sub (fun _ h => List.mem_cons_of_mem _ (List.mem_append_right _ h)) (by decide +kernel))
set_option maxRecDepth 20000 in
theorem gX3_octet_X3_append : GoodIn wsX3_octet (wsV RX3 40 RX3 yX3_append wsX3_append) := goodIn_app (goodIn_of _ (by decide +kernel)) ggX3_octet_X3_append
theorem dX3_octet_0 : decode cX3_octet 0 = .ok (.iload_n 1, 1) := by decide +kernel
theorem dX3_octet_1 : decode cX3_octet 1 = .ok (.invokestatic 36, 3) := by decide +kernel
theorem dX3_octet_4 : decode cX3_octet 4 = .ok (.ifCond .eq 12, 3) := by decide +kernel
theorem dX3_octet_7 : decode cX3_octet 7 = .ok (.aload_n 0, 1) := by decide +kernel
theorem dX3_octet_8 : decode cX3_octet 8 = .ok (.iconst 1, 1) := by decide +kernel
theorem dX3_octet_9 : decode cX3_octet 9 = .ok (.iload_n 1, 1) := by decide +kernel
theorem dX3_octet_10 : decode cX3_octet 10 = .ok (.invokevirtual 40, 3) := by decide +kernel
theorem dX3_octet_13 : decode cX3_octet 13 = .ok (.goto 5, 3) := by decide +kernel
theorem dX3_octet_16 : decode cX3_octet 16 = .ok (.bipush (-12), 2) := by decide +kernel
theorem dX3_octet_18 : decode cX3_octet 18 = .ok (.ireturn, 1) := by decide +kernel
set_option maxRecDepth 20000 in
theorem ggX3_feed_X2_room : GoodIn wsX3_feed wsX2_room := goodIn_r _ [8, 9, 24, 25] (by decide +kernel) (by decide +kernel)
set_option maxRecDepth 20000 in
theorem gX3_feed_X2_room : GoodIn wsX3_feed (wsV RX3 44 RX2 yX2_room wsX2_room) := goodIn_app (goodIn_of _ (by decide +kernel)) ggX3_feed_X2_room
set_option maxRecDepth 20000 in
theorem ggX3_feed_X2_add : GoodIn wsX3_feed wsX2_add := goodIn_ca (goodIn_r _ [13, 9, 14, 24, 25] (by decide +kernel) (by decide +kernel)) (goodIn_sub (fun _ h => List.mem_cons_of_mem _ (List.mem_append_right _ h)) (by decide +kernel))
set_option maxRecDepth 20000 in
theorem gX3_feed_X2_add : GoodIn wsX3_feed (wsV RX3 50 RX2 yX2_add wsX2_add) := goodIn_app (goodIn_of _ (by decide +kernel)) ggX3_feed_X2_add
set_option maxRecDepth 20000 in
theorem ggX3_feed_X2_count : GoodIn wsX3_feed wsX2_count := goodIn_r _ [18, 9, 24, 25] (by decide +kernel) (by decide +kernel)
set_option maxRecDepth 20000 in
theorem gX3_feed_X2_count : GoodIn wsX3_feed (wsV RX3 54 RX2 yX2_count wsX2_count) := goodIn_app (goodIn_of _ (by decide +kernel)) ggX3_feed_X2_count
theorem dX3_feed_0 : decode cX3_feed 0 = .ok (.iload_n 3, 1) := by decide +kernel
theorem dX3_feed_1 : decode cX3_feed 1 = .ok (.iconst 1, 1) := by decide +kernel
theorem dX3_feed_2 : decode cX3_feed 2 = .ok (.if_icmp .lt 9, 3) := by decide +kernel
theorem dX3_feed_5 : decode cX3_feed 5 = .ok (.iload_n 3, 1) := by decide +kernel
theorem dX3_feed_6 : decode cX3_feed 6 = .ok (.bipush 8, 2) := by decide +kernel
theorem dX3_feed_8 : decode cX3_feed 8 = .ok (.if_icmp .le 6, 3) := by decide +kernel
theorem dX3_feed_11 : decode cX3_feed 11 = .ok (.bipush (-12), 2) := by decide +kernel
theorem dX3_feed_13 : decode cX3_feed 13 = .ok (.ireturn, 1) := by decide +kernel
theorem dX3_feed_14 : decode cX3_feed 14 = .ok (.iload_n 3, 1) := by decide +kernel
theorem dX3_feed_15 : decode cX3_feed 15 = .ok (.aload_n 0, 1) := by decide +kernel
theorem dX3_feed_16 : decode cX3_feed 16 = .ok (.getfield 10, 3) := by decide +kernel
theorem dX3_feed_19 : decode cX3_feed 19 = .ok (.invokevirtual 44, 3) := by decide +kernel
theorem dX3_feed_22 : decode cX3_feed 22 = .ok (.if_icmp .le 6, 3) := by decide +kernel
theorem dX3_feed_25 : decode cX3_feed 25 = .ok (.bipush (-14), 2) := by decide +kernel
theorem dX3_feed_27 : decode cX3_feed 27 = .ok (.ireturn, 1) := by decide +kernel
theorem dX3_feed_28 : decode cX3_feed 28 = .ok (.iload_n 3, 1) := by decide +kernel
theorem dX3_feed_29 : decode cX3_feed 29 = .ok (.iconst 1, 1) := by decide +kernel
theorem dX3_feed_30 : decode cX3_feed 30 = .ok (.isub, 1) := by decide +kernel
theorem dX3_feed_31 : decode cX3_feed 31 = .ok (.istore 4, 2) := by decide +kernel
theorem dX3_feed_33 : decode cX3_feed 33 = .ok (.iload 4, 2) := by decide +kernel
theorem dX3_feed_35 : decode cX3_feed 35 = .ok (.ifCond .lt 28, 3) := by decide +kernel
theorem dX3_feed_38 : decode cX3_feed 38 = .ok (.aload_n 0, 1) := by decide +kernel
theorem dX3_feed_39 : decode cX3_feed 39 = .ok (.getfield 10, 3) := by decide +kernel
theorem dX3_feed_42 : decode cX3_feed 42 = .ok (.lload_n 1, 1) := by decide +kernel
theorem dX3_feed_43 : decode cX3_feed 43 = .ok (.bipush 8, 2) := by decide +kernel
theorem dX3_feed_45 : decode cX3_feed 45 = .ok (.iload 4, 2) := by decide +kernel
theorem dX3_feed_47 : decode cX3_feed 47 = .ok (.imul, 1) := by decide +kernel
theorem dX3_feed_48 : decode cX3_feed 48 = .ok (.lushr, 1) := by decide +kernel
theorem dX3_feed_49 : decode cX3_feed 49 = .ok (.ldc2_w 48, 3) := by decide +kernel
theorem dX3_feed_52 : decode cX3_feed 52 = .ok (.land, 1) := by decide +kernel
theorem dX3_feed_53 : decode cX3_feed 53 = .ok (.l2i, 1) := by decide +kernel
theorem dX3_feed_54 : decode cX3_feed 54 = .ok (.invokevirtual 50, 3) := by decide +kernel
theorem dX3_feed_57 : decode cX3_feed 57 = .ok (.iinc 4 (-1), 3) := by decide +kernel
theorem dX3_feed_60 : decode cX3_feed 60 = .ok (.goto (-27), 3) := by decide +kernel
theorem dX3_feed_63 : decode cX3_feed 63 = .ok (.aload_n 0, 1) := by decide +kernel
theorem dX3_feed_64 : decode cX3_feed 64 = .ok (.iconst 0, 1) := by decide +kernel
theorem dX3_feed_65 : decode cX3_feed 65 = .ok (.putfield 28, 3) := by decide +kernel
theorem dX3_feed_68 : decode cX3_feed 68 = .ok (.aload_n 0, 1) := by decide +kernel
theorem dX3_feed_69 : decode cX3_feed 69 = .ok (.getfield 10, 3) := by decide +kernel
theorem dX3_feed_72 : decode cX3_feed 72 = .ok (.invokevirtual 54, 3) := by decide +kernel
theorem dX3_feed_75 : decode cX3_feed 75 = .ok (.ireturn, 1) := by decide +kernel
set_option maxRecDepth 20000 in
theorem ggX3_fill_X3_isByte : GoodIn wsX3_fill wsX3_isByte := goodIn_r _ [4] (by decide +kernel) (by decide +kernel)
set_option maxRecDepth 20000 in
theorem gX3_fill_X3_isByte : GoodIn wsX3_fill (va_wsS RX3 36 yX3_isByte wsX3_isByte) := goodIn_app (goodIn_of _ (by decide +kernel)) ggX3_fill_X3_isByte
set_option maxRecDepth 20000 in
theorem ggX3_fill_X3_append : GoodIn wsX3_fill wsX3_append := goodIn_ca (goodIn_r _ [8, 9, 10, 11, 12, 13, 14, 15, 16, 17, 18, 19, 20, 21, 22, 23, 24, 25, 26, 27, 28, 29, 30, 31, 32] (by decide +kernel) (by decide +kernel)) (goodIn_sub (fun _ h => List.mem_cons_of_mem _ (List.mem_append_right _ h)) (by decide +kernel))
set_option maxRecDepth 20000 in
theorem gX3_fill_X3_append : GoodIn wsX3_fill (wsV RX3 40 RX3 yX3_append wsX3_append) := goodIn_app (goodIn_of _ (by decide +kernel)) ggX3_fill_X3_append
theorem dX3_fill_0 : decode cX3_fill 0 = .ok (.iload_n 1, 1) := by decide +kernel
theorem dX3_fill_1 : decode cX3_fill 1 = .ok (.iconst 1, 1) := by decide +kernel
theorem dX3_fill_2 : decode cX3_fill 2 = .ok (.if_icmp .lt 26, 3) := by decide +kernel
theorem dX3_fill_5 : decode cX3_fill 5 = .ok (.iload_n 1, 1) := by decide +kernel
theorem dX3_fill_6 : decode cX3_fill 6 = .ok (.sipush 600, 3) := by decide +kernel
theorem dX3_fill_9 : decode cX3_fill 9 = .ok (.if_icmp .gt 19, 3) := by decide +kernel
theorem dX3_fill_12 : decode cX3_fill 12 = .ok (.iload_n 2, 1) := by decide +kernel
theorem dX3_fill_13 : decode cX3_fill 13 = .ok (.invokestatic 36, 3) := by decide +kernel
theorem dX3_fill_16 : decode cX3_fill 16 = .ok (.ifCond .eq 12, 3) := by decide +kernel
theorem dX3_fill_19 : decode cX3_fill 19 = .ok (.aload_n 0, 1) := by decide +kernel
theorem dX3_fill_20 : decode cX3_fill 20 = .ok (.iload_n 1, 1) := by decide +kernel
theorem dX3_fill_21 : decode cX3_fill 21 = .ok (.iload_n 2, 1) := by decide +kernel
theorem dX3_fill_22 : decode cX3_fill 22 = .ok (.invokevirtual 40, 3) := by decide +kernel
theorem dX3_fill_25 : decode cX3_fill 25 = .ok (.goto 5, 3) := by decide +kernel
theorem dX3_fill_28 : decode cX3_fill 28 = .ok (.bipush (-12), 2) := by decide +kernel
theorem dX3_fill_30 : decode cX3_fill 30 = .ok (.ireturn, 1) := by decide +kernel
set_option maxRecDepth 20000 in
theorem ggX3_poke_X2_has : GoodIn wsX3_poke wsX2_has := goodIn_r _ [7, 8, 9, 28, 29] (by decide +kernel) (by decide +kernel)
set_option maxRecDepth 20000 in
theorem gX3_poke_X2_has : GoodIn wsX3_poke (wsV RX3 57 RX2 yX2_has wsX2_has) := goodIn_app (goodIn_of _ (by decide +kernel)) ggX3_poke_X2_has
set_option maxRecDepth 20000 in
theorem ggX3_poke_X3_isByte : GoodIn wsX3_poke wsX3_isByte := goodIn_r _ [13] (by decide +kernel) (by decide +kernel)
set_option maxRecDepth 20000 in
theorem gX3_poke_X3_isByte : GoodIn wsX3_poke (va_wsS RX3 36 yX3_isByte wsX3_isByte) := goodIn_app (goodIn_of _ (by decide +kernel)) ggX3_poke_X3_isByte
set_option maxRecDepth 20000 in
theorem ggX3_poke_X2_at : GoodIn wsX3_poke wsX2_at := goodIn_ca (goodIn_r _ [17, 8, 9, 28, 29] (by decide +kernel) (by decide +kernel)) (goodIn_sub (fun _ h => List.mem_cons_of_mem _ (List.mem_append_right _ h)) (by decide +kernel))
set_option maxRecDepth 20000 in
theorem gX3_poke_X2_at : GoodIn wsX3_poke (wsV RX3 60 RX2 yX2_at wsX2_at) := goodIn_app (goodIn_of _ (by decide +kernel)) ggX3_poke_X2_at
set_option maxRecDepth 20000 in
theorem ggX3_poke_X2_put : GoodIn wsX3_poke wsX2_put := goodIn_ca (goodIn_r _ [21, 9, 22, 4, 5, 6, 7, 8, 28, 29] (by decide +kernel) (by decide +kernel)) (goodIn_sub (fun _ h => List.mem_cons_of_mem _ (List.mem_append_right _ h)) (by decide +kernel))
set_option maxRecDepth 20000 in
theorem gX3_poke_X2_put : GoodIn wsX3_poke (wsV RX3 64 RX2 yX2_put wsX2_put) := goodIn_app (goodIn_of _ (by decide +kernel)) ggX3_poke_X2_put
theorem dX3_poke_0 : decode cX3_poke 0 = .ok (.aload_n 0, 1) := by decide +kernel
theorem dX3_poke_1 : decode cX3_poke 1 = .ok (.getfield 10, 3) := by decide +kernel
theorem dX3_poke_4 : decode cX3_poke 4 = .ok (.iload_n 1, 1) := by decide +kernel
theorem dX3_poke_5 : decode cX3_poke 5 = .ok (.invokevirtual 57, 3) := by decide +kernel
theorem dX3_poke_8 : decode cX3_poke 8 = .ok (.ifCond .eq 10, 3) := by decide +kernel
theorem dX3_poke_11 : decode cX3_poke 11 = .ok (.iload_n 2, 1) := by decide +kernel
theorem dX3_poke_12 : decode cX3_poke 12 = .ok (.invokestatic 36, 3) := by decide +kernel
theorem dX3_poke_15 : decode cX3_poke 15 = .ok (.ifCond .ne 6, 3) := by decide +kernel
theorem dX3_poke_18 : decode cX3_poke 18 = .ok (.bipush (-12), 2) := by decide +kernel
theorem dX3_poke_20 : decode cX3_poke 20 = .ok (.ireturn, 1) := by decide +kernel
theorem dX3_poke_21 : decode cX3_poke 21 = .ok (.aload_n 0, 1) := by decide +kernel
theorem dX3_poke_22 : decode cX3_poke 22 = .ok (.getfield 10, 3) := by decide +kernel
theorem dX3_poke_25 : decode cX3_poke 25 = .ok (.iload_n 1, 1) := by decide +kernel
theorem dX3_poke_26 : decode cX3_poke 26 = .ok (.invokevirtual 60, 3) := by decide +kernel
theorem dX3_poke_29 : decode cX3_poke 29 = .ok (.istore_n 3, 1) := by decide +kernel
theorem dX3_poke_30 : decode cX3_poke 30 = .ok (.aload_n 0, 1) := by decide +kernel
theorem dX3_poke_31 : decode cX3_poke 31 = .ok (.getfield 10, 3) := by decide +kernel
theorem dX3_poke_34 : decode cX3_poke 34 = .ok (.iload_n 1, 1) := by decide +kernel
theorem dX3_poke_35 : decode cX3_poke 35 = .ok (.iload_n 2, 1) := by decide +kernel
theorem dX3_poke_36 : decode cX3_poke 36 = .ok (.invokevirtual 64, 3) := by decide +kernel
theorem dX3_poke_39 : decode cX3_poke 39 = .ok (.aload_n 0, 1) := by decide +kernel
theorem dX3_poke_40 : decode cX3_poke 40 = .ok (.iconst 0, 1) := by decide +kernel
theorem dX3_poke_41 : decode cX3_poke 41 = .ok (.putfield 28, 3) := by decide +kernel
theorem dX3_poke_44 : decode cX3_poke 44 = .ok (.iload_n 3, 1) := by decide +kernel
theorem dX3_poke_45 : decode cX3_poke 45 = .ok (.ireturn, 1) := by decide +kernel
set_option maxRecDepth 20000 in
theorem ggX3_clear_X2_count : GoodIn wsX3_clear wsX2_count := goodIn_r _ [8, 9, 19, 20] (by decide +kernel) (by decide +kernel)
set_option maxRecDepth 20000 in
theorem gX3_clear_X2_count : GoodIn wsX3_clear (wsV RX3 54 RX2 yX2_count wsX2_count) := goodIn_app (goodIn_of _ (by decide +kernel)) ggX3_clear_X2_count
set_option maxRecDepth 20000 in
theorem ggX3_clear_X2_empty : GoodIn wsX3_clear wsX2_empty := goodIn_r _ [13, 9, 19, 20] (by decide +kernel) (by decide +kernel)
set_option maxRecDepth 20000 in
theorem gX3_clear_X2_empty : GoodIn wsX3_clear (wsV RX3 68 RX2 yX2_empty wsX2_empty) := goodIn_app (goodIn_of _ (by decide +kernel)) ggX3_clear_X2_empty
theorem dX3_clear_0 : decode cX3_clear 0 = .ok (.aload_n 0, 1) := by decide +kernel
theorem dX3_clear_1 : decode cX3_clear 1 = .ok (.getfield 10, 3) := by decide +kernel
theorem dX3_clear_4 : decode cX3_clear 4 = .ok (.invokevirtual 54, 3) := by decide +kernel
theorem dX3_clear_7 : decode cX3_clear 7 = .ok (.istore_n 1, 1) := by decide +kernel
theorem dX3_clear_8 : decode cX3_clear 8 = .ok (.aload_n 0, 1) := by decide +kernel
theorem dX3_clear_9 : decode cX3_clear 9 = .ok (.getfield 10, 3) := by decide +kernel
theorem dX3_clear_12 : decode cX3_clear 12 = .ok (.invokevirtual 68, 3) := by decide +kernel
theorem dX3_clear_15 : decode cX3_clear 15 = .ok (.aload_n 0, 1) := by decide +kernel
theorem dX3_clear_16 : decode cX3_clear 16 = .ok (.iconst 0, 1) := by decide +kernel
theorem dX3_clear_17 : decode cX3_clear 17 = .ok (.putfield 28, 3) := by decide +kernel
theorem dX3_clear_20 : decode cX3_clear 20 = .ok (.aload_n 0, 1) := by decide +kernel
theorem dX3_clear_21 : decode cX3_clear 21 = .ok (.iconst 0, 1) := by decide +kernel
theorem dX3_clear_22 : decode cX3_clear 22 = .ok (.putfield 32, 3) := by decide +kernel
theorem dX3_clear_25 : decode cX3_clear 25 = .ok (.iload_n 1, 1) := by decide +kernel
theorem dX3_clear_26 : decode cX3_clear 26 = .ok (.ireturn, 1) := by decide +kernel
set_option maxRecDepth 20000 in
theorem ggX3_read_X0_holds : GoodIn wsX3_read wsX0_holds := goodIn_ca (goodIn_r _ [10, 11, 12, 13, 14, 15, 16, 17, 18, 19, 20, 21, 9, 22, 23, 24, 25, 26, 27, 28, 29, 30, 31, 32, 33, 34, 35, 36, 37, 38, 39, 40, 41, 42, 43, 44, 45, 46, 47, 48, 49, 50, 51, 52, 53, 54, 55, 56, 57, 58, 59, 60, 61, 62, 63, 64, 65, 66, 67, 68, 69, 70, 71, 72, 73, 74, 75, 76, 77, 78, 79, 80, 81, 82, 83, 84, 85, 86, 87, 88, 89, 90, 91, 92, 93, 94, 95, 96, 97, 98, 99, 100, 101, 102, 103, 104, 105, 106, 107, 108, 109, 110, 111, 112, 113, 114, 115, 116, 135, 136, 137] (by decide +kernel) (by decide +kernel)) (goodIn_sub (fun _ h => List.mem_cons_of_mem _ (List.mem_append_right _ h)) (by decide +kernel))
set_option maxRecDepth 20000 in
theorem gX3_read_X0_holds : GoodIn wsX3_read (wsV RX3 71 RX0 yX0_holds wsX0_holds) := goodIn_app (goodIn_of _ (by decide +kernel)) ggX3_read_X0_holds
set_option maxRecDepth 20000 in
theorem ggX3_read_X0_placeOf : GoodIn wsX3_read wsX0_placeOf := goodIn_ca (goodIn_r _ [120, 11, 30, 31, 32, 15, 33, 17, 97, 98, 99, 9, 100, 19, 20, 21, 22, 23, 24, 25, 26, 18, 38, 39, 40, 41, 135, 136, 137] (by decide +kernel) (by decide +kernel)) (goodIn_sub (fun _ h => List.mem_cons_of_mem _ (List.mem_append_right _ h)) (by decide +kernel))
set_option maxRecDepth 20000 in
theorem gX3_read_X0_placeOf : GoodIn wsX3_read (wsV RX3 74 RX0 yX0_placeOf wsX0_placeOf) := goodIn_app (goodIn_of _ (by decide +kernel)) ggX3_read_X0_placeOf
set_option maxRecDepth 20000 in
theorem ggX3_read_X2_copy : GoodIn wsX3_read wsX2_copy := goodIn_r _ [124, 18, 125, 126, 127, 128, 17, 136, 137] (by decide +kernel) (by decide +kernel)
set_option maxRecDepth 20000 in
theorem gX3_read_X2_copy : GoodIn wsX3_read (wsV RX3 77 RX2 yX2_copy wsX2_copy) := goodIn_app (goodIn_of _ (by decide +kernel)) ggX3_read_X2_copy
set_option maxRecDepth 20000 in
theorem ggX3_read_X0_version : GoodIn wsX3_read wsX0_version := goodIn_ca (goodIn_r _ [22, 11, 23, 24, 25, 15, 26, 17, 18, 135, 136, 137] (by decide +kernel) (by decide +kernel)) (goodIn_sub (fun _ h => List.mem_cons_of_mem _ (List.mem_append_right _ h)) (by decide +kernel))
set_option maxRecDepth 20000 in
theorem gX3_read_X0_version : GoodIn wsX3_read (wsV RX3 80 RX0 yX0_version wsX0_version) := goodIn_app (goodIn_of _ (by decide +kernel)) ggX3_read_X0_version
theorem dX3_read_0 : decode cX3_read 0 = .ok (.aload_n 0, 1) := by decide +kernel
theorem dX3_read_1 : decode cX3_read 1 = .ok (.iconst 0, 1) := by decide +kernel
theorem dX3_read_2 : decode cX3_read 2 = .ok (.putfield 32, 3) := by decide +kernel
theorem dX3_read_5 : decode cX3_read 5 = .ok (.iconst 1, 1) := by decide +kernel
theorem dX3_read_6 : decode cX3_read 6 = .ok (.istore_n 1, 1) := by decide +kernel
theorem dX3_read_7 : decode cX3_read 7 = .ok (.iload_n 1, 1) := by decide +kernel
theorem dX3_read_8 : decode cX3_read 8 = .ok (.bipush 15, 2) := by decide +kernel
theorem dX3_read_10 : decode cX3_read 10 = .ok (.if_icmp .gt 32, 3) := by decide +kernel
theorem dX3_read_13 : decode cX3_read 13 = .ok (.aload_n 0, 1) := by decide +kernel
theorem dX3_read_14 : decode cX3_read 14 = .ok (.getfield 32, 3) := by decide +kernel
theorem dX3_read_17 : decode cX3_read 17 = .ok (.ifCond .ne 25, 3) := by decide +kernel
theorem dX3_read_20 : decode cX3_read 20 = .ok (.aload_n 0, 1) := by decide +kernel
theorem dX3_read_21 : decode cX3_read 21 = .ok (.getfield 24, 3) := by decide +kernel
theorem dX3_read_24 : decode cX3_read 24 = .ok (.iload_n 1, 1) := by decide +kernel
theorem dX3_read_25 : decode cX3_read 25 = .ok (.invokevirtual 71, 3) := by decide +kernel
theorem dX3_read_28 : decode cX3_read 28 = .ok (.ifCond .ne 8, 3) := by decide +kernel
theorem dX3_read_31 : decode cX3_read 31 = .ok (.aload_n 0, 1) := by decide +kernel
theorem dX3_read_32 : decode cX3_read 32 = .ok (.iload_n 1, 1) := by decide +kernel
theorem dX3_read_33 : decode cX3_read 33 = .ok (.putfield 32, 3) := by decide +kernel
theorem dX3_read_36 : decode cX3_read 36 = .ok (.iinc 1 1, 3) := by decide +kernel
theorem dX3_read_39 : decode cX3_read 39 = .ok (.goto (-32), 3) := by decide +kernel
theorem dX3_read_42 : decode cX3_read 42 = .ok (.aload_n 0, 1) := by decide +kernel
theorem dX3_read_43 : decode cX3_read 43 = .ok (.aload_n 0, 1) := by decide +kernel
theorem dX3_read_44 : decode cX3_read 44 = .ok (.getfield 32, 3) := by decide +kernel
theorem dX3_read_47 : decode cX3_read 47 = .ok (.ifCond .ne 7, 3) := by decide +kernel
theorem dX3_read_50 : decode cX3_read 50 = .ok (.iconst 1, 1) := by decide +kernel
theorem dX3_read_51 : decode cX3_read 51 = .ok (.goto 4, 3) := by decide +kernel
theorem dX3_read_54 : decode cX3_read 54 = .ok (.iconst 0, 1) := by decide +kernel
theorem dX3_read_55 : decode cX3_read 55 = .ok (.putfield 28, 3) := by decide +kernel
theorem dX3_read_58 : decode cX3_read 58 = .ok (.aload_n 0, 1) := by decide +kernel
theorem dX3_read_59 : decode cX3_read 59 = .ok (.getfield 28, 3) := by decide +kernel
theorem dX3_read_62 : decode cX3_read 62 = .ok (.ifCond .ne 18, 3) := by decide +kernel
theorem dX3_read_65 : decode cX3_read 65 = .ok (.bipush (-20), 2) := by decide +kernel
theorem dX3_read_67 : decode cX3_read 67 = .ok (.aload_n 0, 1) := by decide +kernel
theorem dX3_read_68 : decode cX3_read 68 = .ok (.getfield 24, 3) := by decide +kernel
theorem dX3_read_71 : decode cX3_read 71 = .ok (.aload_n 0, 1) := by decide +kernel
theorem dX3_read_72 : decode cX3_read 72 = .ok (.getfield 32, 3) := by decide +kernel
theorem dX3_read_75 : decode cX3_read 75 = .ok (.invokevirtual 74, 3) := by decide +kernel
theorem dX3_read_78 : decode cX3_read 78 = .ok (.isub, 1) := by decide +kernel
theorem dX3_read_79 : decode cX3_read 79 = .ok (.ireturn, 1) := by decide +kernel
theorem dX3_read_80 : decode cX3_read 80 = .ok (.aload_n 0, 1) := by decide +kernel
theorem dX3_read_81 : decode cX3_read 81 = .ok (.getfield 16, 3) := by decide +kernel
theorem dX3_read_84 : decode cX3_read 84 = .ok (.aload_n 0, 1) := by decide +kernel
theorem dX3_read_85 : decode cX3_read 85 = .ok (.getfield 10, 3) := by decide +kernel
theorem dX3_read_88 : decode cX3_read 88 = .ok (.invokevirtual 77, 3) := by decide +kernel
theorem dX3_read_91 : decode cX3_read 91 = .ok (.aload_n 0, 1) := by decide +kernel
theorem dX3_read_92 : decode cX3_read 92 = .ok (.getfield 24, 3) := by decide +kernel
theorem dX3_read_95 : decode cX3_read 95 = .ok (.invokevirtual 80, 3) := by decide +kernel
theorem dX3_read_98 : decode cX3_read 98 = .ok (.ireturn, 1) := by decide +kernel
theorem dX3_rule_0 : decode cX3_rule 0 = .ok (.aload_n 0, 1) := by decide +kernel
theorem dX3_rule_1 : decode cX3_rule 1 = .ok (.getfield 32, 3) := by decide +kernel
theorem dX3_rule_4 : decode cX3_rule 4 = .ok (.ireturn, 1) := by decide +kernel
set_option maxRecDepth 20000 in
theorem ggX3_field_X0_term : GoodIn wsX3_field wsX0_term := goodIn_ca (goodIn_r _ [7, 8, 9, 10, 11, 6, 12, 13, 14, 15, 16, 17, 18, 19, 20, 21, 22, 23, 24, 25, 26, 27, 28, 29, 30, 31, 32, 33, 34, 35, 36, 37, 38, 39, 40, 41, 42, 43, 44, 45, 46, 47, 48, 49, 50, 51, 52, 53, 54, 55, 56, 57, 58, 59, 60, 61, 62, 63, 64, 65, 66, 67, 68, 69, 70, 71, 72, 73, 74, 75, 76, 77, 78, 79, 80, 81, 82, 83, 84, 85, 86, 87, 88, 89, 90, 91, 92, 93, 94, 95, 101, 102, 103] (by decide +kernel) (by decide +kernel)) (goodIn_sub (fun _ h => List.mem_cons_of_mem _ (List.mem_append_right _ h)) (by decide +kernel))
set_option maxRecDepth 20000 in
theorem gX3_field_X0_term : GoodIn wsX3_field (wsV RX3 83 RX0 yX0_term wsX0_term) := goodIn_app (goodIn_of _ (by decide +kernel)) ggX3_field_X0_term
theorem dX3_field_0 : decode cX3_field 0 = .ok (.aload_n 0, 1) := by decide +kernel
theorem dX3_field_1 : decode cX3_field 1 = .ok (.getfield 28, 3) := by decide +kernel
theorem dX3_field_4 : decode cX3_field 4 = .ok (.ifCond .ne 6, 3) := by decide +kernel
theorem dX3_field_7 : decode cX3_field 7 = .ok (.bipush (-11), 2) := by decide +kernel
theorem dX3_field_9 : decode cX3_field 9 = .ok (.ireturn, 1) := by decide +kernel
theorem dX3_field_10 : decode cX3_field 10 = .ok (.iload_n 1, 1) := by decide +kernel
theorem dX3_field_11 : decode cX3_field 11 = .ok (.ifCond .lt 9, 3) := by decide +kernel
theorem dX3_field_14 : decode cX3_field 14 = .ok (.iload_n 1, 1) := by decide +kernel
theorem dX3_field_15 : decode cX3_field 15 = .ok (.bipush 18, 2) := by decide +kernel
theorem dX3_field_17 : decode cX3_field 17 = .ok (.if_icmp .lt 8, 3) := by decide +kernel
theorem dX3_field_20 : decode cX3_field 20 = .ok (.bipush (-12), 2) := by decide +kernel
theorem dX3_field_22 : decode cX3_field 22 = .ok (.goto 11, 3) := by decide +kernel
theorem dX3_field_25 : decode cX3_field 25 = .ok (.aload_n 0, 1) := by decide +kernel
theorem dX3_field_26 : decode cX3_field 26 = .ok (.getfield 24, 3) := by decide +kernel
theorem dX3_field_29 : decode cX3_field 29 = .ok (.iload_n 1, 1) := by decide +kernel
theorem dX3_field_30 : decode cX3_field 30 = .ok (.invokevirtual 83, 3) := by decide +kernel
theorem dX3_field_33 : decode cX3_field 33 = .ok (.ireturn, 1) := by decide +kernel
set_option maxRecDepth 20000 in
theorem ggX3_serial_X2_at : GoodIn wsX3_serial wsX2_at := goodIn_ca (goodIn_r _ [10, 11, 12, 24, 25] (by decide +kernel) (by decide +kernel)) (goodIn_sub (fun _ h => List.mem_cons_of_mem _ (List.mem_append_right _ h)) (by decide +kernel))
set_option maxRecDepth 20000 in
theorem gX3_serial_X2_at : GoodIn wsX3_serial (wsV RX3 60 RX2 yX2_at wsX2_at) := goodIn_app (goodIn_of _ (by decide +kernel)) ggX3_serial_X2_at
theorem dX3_serial_0 : decode cX3_serial 0 = .ok (.aload_n 0, 1) := by decide +kernel
theorem dX3_serial_1 : decode cX3_serial 1 = .ok (.getfield 28, 3) := by decide +kernel
theorem dX3_serial_4 : decode cX3_serial 4 = .ok (.ifCond .ne 6, 3) := by decide +kernel
theorem dX3_serial_7 : decode cX3_serial 7 = .ok (.bipush (-11), 2) := by decide +kernel
theorem dX3_serial_9 : decode cX3_serial 9 = .ok (.ireturn, 1) := by decide +kernel
theorem dX3_serial_10 : decode cX3_serial 10 = .ok (.iload_n 1, 1) := by decide +kernel
theorem dX3_serial_11 : decode cX3_serial 11 = .ok (.ifCond .lt 9, 3) := by decide +kernel
theorem dX3_serial_14 : decode cX3_serial 14 = .ok (.iload_n 1, 1) := by decide +kernel
theorem dX3_serial_15 : decode cX3_serial 15 = .ok (.bipush 6, 2) := by decide +kernel
theorem dX3_serial_17 : decode cX3_serial 17 = .ok (.if_icmp .lt 13, 3) := by decide +kernel
theorem dX3_serial_20 : decode cX3_serial 20 = .ok (.new 86, 3) := by decide +kernel
theorem dX3_serial_23 : decode cX3_serial 23 = .ok (.dup, 1) := by decide +kernel
theorem dX3_serial_24 : decode cX3_serial 24 = .ok (.ldc 88, 2) := by decide +kernel
theorem dX3_serial_26 : decode cX3_serial 26 = .ok (.invokespecial 90, 3) := by decide +kernel
theorem dX3_serial_29 : decode cX3_serial 29 = .ok (.athrow, 1) := by decide +kernel
theorem dX3_serial_30 : decode cX3_serial 30 = .ok (.aload_n 0, 1) := by decide +kernel
theorem dX3_serial_31 : decode cX3_serial 31 = .ok (.getfield 16, 3) := by decide +kernel
theorem dX3_serial_34 : decode cX3_serial 34 = .ok (.bipush 18, 2) := by decide +kernel
theorem dX3_serial_36 : decode cX3_serial 36 = .ok (.iload_n 1, 1) := by decide +kernel
theorem dX3_serial_37 : decode cX3_serial 37 = .ok (.iadd, 1) := by decide +kernel
theorem dX3_serial_38 : decode cX3_serial 38 = .ok (.invokevirtual 60, 3) := by decide +kernel
theorem dX3_serial_41 : decode cX3_serial 41 = .ok (.ireturn, 1) := by decide +kernel
set_option maxRecDepth 20000 in
theorem ggX3_global_X0_globals : GoodIn wsX3_global wsX0_globals := goodIn_ca (goodIn_r _ [11, 12, 13, 14, 15, 16, 17, 18, 19, 32, 33, 34] (by decide +kernel) (by decide +kernel)) (goodIn_sub (fun _ h => List.mem_cons_of_mem _ (List.mem_append_right _ h)) (by decide +kernel))
set_option maxRecDepth 20000 in
theorem gX3_global_X0_globals : GoodIn wsX3_global (wsV RX3 95 RX0 yX0_globals wsX0_globals) := goodIn_app (goodIn_of _ (by decide +kernel)) ggX3_global_X0_globals
set_option maxRecDepth 20000 in
theorem ggX3_global_X2_two : GoodIn wsX3_global wsX2_two := goodIn_ca (goodIn_r _ [17, 18, 19, 33, 34] (by decide +kernel) (by decide +kernel)) (goodIn_sub (fun _ h => List.mem_cons_of_mem _ (List.mem_append_right _ h)) (by decide +kernel))
set_option maxRecDepth 20000 in
theorem gX3_global_X2_two : GoodIn wsX3_global (wsV RX3 98 RX2 yX2_two wsX2_two) := goodIn_app (goodIn_of _ (by decide +kernel)) ggX3_global_X2_two
theorem dX3_global_0 : decode cX3_global 0 = .ok (.aload_n 0, 1) := by decide +kernel
theorem dX3_global_1 : decode cX3_global 1 = .ok (.getfield 28, 3) := by decide +kernel
theorem dX3_global_4 : decode cX3_global 4 = .ok (.ifCond .ne 6, 3) := by decide +kernel
theorem dX3_global_7 : decode cX3_global 7 = .ok (.bipush (-11), 2) := by decide +kernel
theorem dX3_global_9 : decode cX3_global 9 = .ok (.ireturn, 1) := by decide +kernel
theorem dX3_global_10 : decode cX3_global 10 = .ok (.iload_n 1, 1) := by decide +kernel
theorem dX3_global_11 : decode cX3_global 11 = .ok (.ifCond .lt 10, 3) := by decide +kernel
theorem dX3_global_14 : decode cX3_global 14 = .ok (.iload_n 1, 1) := by decide +kernel
theorem dX3_global_15 : decode cX3_global 15 = .ok (.sipush 240, 3) := by decide +kernel
theorem dX3_global_18 : decode cX3_global 18 = .ok (.if_icmp .lt 13, 3) := by decide +kernel
theorem dX3_global_21 : decode cX3_global 21 = .ok (.new 86, 3) := by decide +kernel
theorem dX3_global_24 : decode cX3_global 24 = .ok (.dup, 1) := by decide +kernel
theorem dX3_global_25 : decode cX3_global 25 = .ok (.ldc 93, 2) := by decide +kernel
theorem dX3_global_27 : decode cX3_global 27 = .ok (.invokespecial 90, 3) := by decide +kernel
theorem dX3_global_30 : decode cX3_global 30 = .ok (.athrow, 1) := by decide +kernel
theorem dX3_global_31 : decode cX3_global 31 = .ok (.aload_n 0, 1) := by decide +kernel
theorem dX3_global_32 : decode cX3_global 32 = .ok (.getfield 16, 3) := by decide +kernel
theorem dX3_global_35 : decode cX3_global 35 = .ok (.aload_n 0, 1) := by decide +kernel
theorem dX3_global_36 : decode cX3_global 36 = .ok (.getfield 24, 3) := by decide +kernel
theorem dX3_global_39 : decode cX3_global 39 = .ok (.invokevirtual 95, 3) := by decide +kernel
theorem dX3_global_42 : decode cX3_global 42 = .ok (.iconst 2, 1) := by decide +kernel
theorem dX3_global_43 : decode cX3_global 43 = .ok (.iload_n 1, 1) := by decide +kernel
theorem dX3_global_44 : decode cX3_global 44 = .ok (.imul, 1) := by decide +kernel
theorem dX3_global_45 : decode cX3_global 45 = .ok (.iadd, 1) := by decide +kernel
theorem dX3_global_46 : decode cX3_global 46 = .ok (.invokevirtual 98, 3) := by decide +kernel
theorem dX3_global_49 : decode cX3_global 49 = .ok (.i2s, 1) := by decide +kernel
theorem dX3_global_50 : decode cX3_global 50 = .ok (.ireturn, 1) := by decide +kernel
set_option maxRecDepth 20000 in
theorem ggX3_load_X2_has : GoodIn wsX3_load wsX2_has := goodIn_r _ [10, 11, 12, 28, 29] (by decide +kernel) (by decide +kernel)
set_option maxRecDepth 20000 in
theorem gX3_load_X2_has : GoodIn wsX3_load (wsV RX3 57 RX2 yX2_has wsX2_has) := goodIn_app (goodIn_of _ (by decide +kernel)) ggX3_load_X2_has
set_option maxRecDepth 20000 in
theorem ggX3_load_X2_at : GoodIn wsX3_load wsX2_at := goodIn_ca (goodIn_r _ [16, 11, 12, 28, 29] (by decide +kernel) (by decide +kernel)) (goodIn_sub (fun _ h => List.mem_cons_of_mem _ (List.mem_append_right _ h)) (by decide +kernel))
set_option maxRecDepth 20000 in
theorem gX3_load_X2_at : GoodIn wsX3_load (wsV RX3 60 RX2 yX2_at wsX2_at) := goodIn_app (goodIn_of _ (by decide +kernel)) ggX3_load_X2_at
theorem dX3_load_0 : decode cX3_load 0 = .ok (.aload_n 0, 1) := by decide +kernel
theorem dX3_load_1 : decode cX3_load 1 = .ok (.getfield 28, 3) := by decide +kernel
theorem dX3_load_4 : decode cX3_load 4 = .ok (.ifCond .ne 6, 3) := by decide +kernel
theorem dX3_load_7 : decode cX3_load 7 = .ok (.bipush (-11), 2) := by decide +kernel
theorem dX3_load_9 : decode cX3_load 9 = .ok (.ireturn, 1) := by decide +kernel
theorem dX3_load_10 : decode cX3_load 10 = .ok (.aload_n 0, 1) := by decide +kernel
theorem dX3_load_11 : decode cX3_load 11 = .ok (.getfield 16, 3) := by decide +kernel
theorem dX3_load_14 : decode cX3_load 14 = .ok (.iload_n 1, 1) := by decide +kernel
theorem dX3_load_15 : decode cX3_load 15 = .ok (.invokevirtual 57, 3) := by decide +kernel
theorem dX3_load_18 : decode cX3_load 18 = .ok (.ifCond .ne 13, 3) := by decide +kernel
theorem dX3_load_21 : decode cX3_load 21 = .ok (.new 86, 3) := by decide +kernel
theorem dX3_load_24 : decode cX3_load 24 = .ok (.dup, 1) := by decide +kernel
theorem dX3_load_25 : decode cX3_load 25 = .ok (.ldc 101, 2) := by decide +kernel
theorem dX3_load_27 : decode cX3_load 27 = .ok (.invokespecial 90, 3) := by decide +kernel
theorem dX3_load_30 : decode cX3_load 30 = .ok (.athrow, 1) := by decide +kernel
theorem dX3_load_31 : decode cX3_load 31 = .ok (.aload_n 0, 1) := by decide +kernel
theorem dX3_load_32 : decode cX3_load 32 = .ok (.getfield 16, 3) := by decide +kernel
theorem dX3_load_35 : decode cX3_load 35 = .ok (.iload_n 1, 1) := by decide +kernel
theorem dX3_load_36 : decode cX3_load 36 = .ok (.invokevirtual 60, 3) := by decide +kernel
theorem dX3_load_39 : decode cX3_load 39 = .ok (.ireturn, 1) := by decide +kernel
set_option maxRecDepth 20000 in
theorem ggX3_store_X0_staticFrom : GoodIn wsX3_store wsX0_staticFrom := goodIn_ca (goodIn_r _ [8, 9, 10, 11, 12, 13, 14, 15, 16, 34, 35, 36] (by decide +kernel) (by decide +kernel)) (goodIn_sub (fun _ h => List.mem_cons_of_mem _ (List.mem_append_right _ h)) (by decide +kernel))
set_option maxRecDepth 20000 in
theorem gX3_store_X0_staticFrom : GoodIn wsX3_store (wsV RX3 103 RX0 yX0_staticFrom wsX0_staticFrom) := goodIn_app (goodIn_of _ (by decide +kernel)) ggX3_store_X0_staticFrom
set_option maxRecDepth 20000 in
theorem ggX3_store_X2_at : GoodIn wsX3_store wsX2_at := goodIn_ca (goodIn_r _ [20, 15, 16, 35, 36] (by decide +kernel) (by decide +kernel)) (goodIn_sub (fun _ h => List.mem_cons_of_mem _ (List.mem_append_right _ h)) (by decide +kernel))
set_option maxRecDepth 20000 in
theorem gX3_store_X2_at : GoodIn wsX3_store (wsV RX3 60 RX2 yX2_at wsX2_at) := goodIn_app (goodIn_of _ (by decide +kernel)) ggX3_store_X2_at
set_option maxRecDepth 20000 in
theorem ggX3_store_X2_put : GoodIn wsX3_store wsX2_put := goodIn_ca (goodIn_r _ [24, 16, 25, 26, 27, 13, 28, 15, 35, 36] (by decide +kernel) (by decide +kernel)) (goodIn_sub (fun _ h => List.mem_cons_of_mem _ (List.mem_append_right _ h)) (by decide +kernel))
set_option maxRecDepth 20000 in
theorem gX3_store_X2_put : GoodIn wsX3_store (wsV RX3 64 RX2 yX2_put wsX2_put) := goodIn_app (goodIn_of _ (by decide +kernel)) ggX3_store_X2_put
theorem dX3_store_0 : decode cX3_store 0 = .ok (.aload_n 0, 1) := by decide +kernel
theorem dX3_store_1 : decode cX3_store 1 = .ok (.getfield 28, 3) := by decide +kernel
theorem dX3_store_4 : decode cX3_store 4 = .ok (.ifCond .ne 6, 3) := by decide +kernel
theorem dX3_store_7 : decode cX3_store 7 = .ok (.bipush (-11), 2) := by decide +kernel
theorem dX3_store_9 : decode cX3_store 9 = .ok (.ireturn, 1) := by decide +kernel
theorem dX3_store_10 : decode cX3_store 10 = .ok (.iload_n 1, 1) := by decide +kernel
theorem dX3_store_11 : decode cX3_store 11 = .ok (.bipush 64, 2) := by decide +kernel
theorem dX3_store_13 : decode cX3_store 13 = .ok (.if_icmp .lt 14, 3) := by decide +kernel
theorem dX3_store_16 : decode cX3_store 16 = .ok (.iload_n 1, 1) := by decide +kernel
theorem dX3_store_17 : decode cX3_store 17 = .ok (.aload_n 0, 1) := by decide +kernel
theorem dX3_store_18 : decode cX3_store 18 = .ok (.getfield 24, 3) := by decide +kernel
theorem dX3_store_21 : decode cX3_store 21 = .ok (.invokevirtual 103, 3) := by decide +kernel
theorem dX3_store_24 : decode cX3_store 24 = .ok (.if_icmp .lt 6, 3) := by decide +kernel
theorem dX3_store_27 : decode cX3_store 27 = .ok (.bipush (-13), 2) := by decide +kernel
theorem dX3_store_29 : decode cX3_store 29 = .ok (.ireturn, 1) := by decide +kernel
theorem dX3_store_30 : decode cX3_store 30 = .ok (.aload_n 0, 1) := by decide +kernel
theorem dX3_store_31 : decode cX3_store 31 = .ok (.getfield 16, 3) := by decide +kernel
theorem dX3_store_34 : decode cX3_store 34 = .ok (.iload_n 1, 1) := by decide +kernel
theorem dX3_store_35 : decode cX3_store 35 = .ok (.invokevirtual 60, 3) := by decide +kernel
theorem dX3_store_38 : decode cX3_store 38 = .ok (.istore_n 3, 1) := by decide +kernel
theorem dX3_store_39 : decode cX3_store 39 = .ok (.aload_n 0, 1) := by decide +kernel
theorem dX3_store_40 : decode cX3_store 40 = .ok (.getfield 16, 3) := by decide +kernel
theorem dX3_store_43 : decode cX3_store 43 = .ok (.iload_n 1, 1) := by decide +kernel
theorem dX3_store_44 : decode cX3_store 44 = .ok (.iload_n 2, 1) := by decide +kernel
theorem dX3_store_45 : decode cX3_store 45 = .ok (.invokevirtual 64, 3) := by decide +kernel
theorem dX3_store_48 : decode cX3_store 48 = .ok (.iload_n 3, 1) := by decide +kernel
theorem dX3_store_49 : decode cX3_store 49 = .ok (.ireturn, 1) := by decide +kernel
set_option maxRecDepth 20000 in
theorem ggX3_packed_X3_isTwo : GoodIn wsX3_packed wsX3_isTwo := goodIn_r _ [6, 7] (by decide +kernel) (by decide +kernel)
set_option maxRecDepth 20000 in
theorem gX3_packed_X3_isTwo : GoodIn wsX3_packed (va_wsS RX3 106 yX3_isTwo wsX3_isTwo) := goodIn_app (goodIn_of _ (by decide +kernel)) ggX3_packed_X3_isTwo
set_option maxRecDepth 20000 in
theorem ggX3_packed_X0_unpacked : GoodIn wsX3_packed wsX0_unpacked := goodIn_ca (goodIn_r _ [12, 13, 14, 15, 16, 11, 17, 18, 19, 20, 21, 22, 23, 24, 25, 26, 27, 28, 34, 35, 36] (by decide +kernel) (by decide +kernel)) (goodIn_sub (fun _ h => List.mem_cons_of_mem _ (List.mem_append_right _ h)) (by decide +kernel))
set_option maxRecDepth 20000 in
theorem gX3_packed_X0_unpacked : GoodIn wsX3_packed (wsV RX3 109 RX0 yX0_unpacked wsX0_unpacked) := goodIn_app (goodIn_of _ (by decide +kernel)) ggX3_packed_X0_unpacked
theorem dX3_packed_0 : decode cX3_packed 0 = .ok (.aload_n 0, 1) := by decide +kernel
theorem dX3_packed_1 : decode cX3_packed 1 = .ok (.getfield 28, 3) := by decide +kernel
theorem dX3_packed_4 : decode cX3_packed 4 = .ok (.ifCond .ne 6, 3) := by decide +kernel
theorem dX3_packed_7 : decode cX3_packed 7 = .ok (.bipush (-11), 2) := by decide +kernel
theorem dX3_packed_9 : decode cX3_packed 9 = .ok (.ireturn, 1) := by decide +kernel
theorem dX3_packed_10 : decode cX3_packed 10 = .ok (.iload_n 1, 1) := by decide +kernel
theorem dX3_packed_11 : decode cX3_packed 11 = .ok (.invokestatic 106, 3) := by decide +kernel
theorem dX3_packed_14 : decode cX3_packed 14 = .ok (.ifCond .eq 15, 3) := by decide +kernel
theorem dX3_packed_17 : decode cX3_packed 17 = .ok (.aload_n 0, 1) := by decide +kernel
theorem dX3_packed_18 : decode cX3_packed 18 = .ok (.getfield 24, 3) := by decide +kernel
theorem dX3_packed_21 : decode cX3_packed 21 = .ok (.iload_n 1, 1) := by decide +kernel
theorem dX3_packed_22 : decode cX3_packed 22 = .ok (.iload_n 2, 1) := by decide +kernel
theorem dX3_packed_23 : decode cX3_packed 23 = .ok (.invokevirtual 109, 3) := by decide +kernel
theorem dX3_packed_26 : decode cX3_packed 26 = .ok (.goto 5, 3) := by decide +kernel
theorem dX3_packed_29 : decode cX3_packed 29 = .ok (.bipush (-12), 2) := by decide +kernel
theorem dX3_packed_31 : decode cX3_packed 31 = .ok (.ireturn, 1) := by decide +kernel
set_option maxRecDepth 20000 in
theorem ggX3_first_X3_isTwo : GoodIn wsX3_first wsX3_isTwo := goodIn_r _ [10, 11] (by decide +kernel) (by decide +kernel)
set_option maxRecDepth 20000 in
theorem gX3_first_X3_isTwo : GoodIn wsX3_first (va_wsS RX3 106 yX3_isTwo wsX3_isTwo) := goodIn_app (goodIn_of _ (by decide +kernel)) ggX3_first_X3_isTwo
set_option maxRecDepth 20000 in
theorem ggX3_first_X0_unpacked : GoodIn wsX3_first wsX0_unpacked := goodIn_ca (goodIn_r _ [16, 17, 18, 19, 20, 15, 21, 22, 23, 24, 25, 26, 27, 28, 29, 30, 31, 32, 49, 50, 51] (by decide +kernel) (by decide +kernel)) (goodIn_sub (fun _ h => List.mem_cons_of_mem _ (List.mem_append_right _ h)) (by decide +kernel))
set_option maxRecDepth 20000 in
theorem gX3_first_X0_unpacked : GoodIn wsX3_first (wsV RX3 109 RX0 yX0_unpacked wsX0_unpacked) := goodIn_app (goodIn_of _ (by decide +kernel)) ggX3_first_X0_unpacked
set_option maxRecDepth 20000 in
theorem ggX3_first_X2_has : GoodIn wsX3_first wsX2_has := goodIn_r _ [36, 27, 28, 50, 51] (by decide +kernel) (by decide +kernel)
set_option maxRecDepth 20000 in
theorem gX3_first_X2_has : GoodIn wsX3_first (wsV RX3 57 RX2 yX2_has wsX2_has) := goodIn_app (goodIn_of _ (by decide +kernel)) ggX3_first_X2_has
set_option maxRecDepth 20000 in
theorem ggX3_first_X2_at : GoodIn wsX3_first wsX2_at := goodIn_ca (goodIn_r _ [26, 27, 28, 50, 51] (by decide +kernel) (by decide +kernel)) (goodIn_sub (fun _ h => List.mem_cons_of_mem _ (List.mem_append_right _ h)) (by decide +kernel))
set_option maxRecDepth 20000 in
theorem gX3_first_X2_at : GoodIn wsX3_first (wsV RX3 60 RX2 yX2_at wsX2_at) := goodIn_app (goodIn_of _ (by decide +kernel)) ggX3_first_X2_at
theorem dX3_first_0 : decode cX3_first 0 = .ok (.aload_n 0, 1) := by decide +kernel
theorem dX3_first_1 : decode cX3_first 1 = .ok (.getfield 28, 3) := by decide +kernel
theorem dX3_first_4 : decode cX3_first 4 = .ok (.ifCond .ne 6, 3) := by decide +kernel
theorem dX3_first_7 : decode cX3_first 7 = .ok (.bipush (-11), 2) := by decide +kernel
theorem dX3_first_9 : decode cX3_first 9 = .ok (.ireturn, 1) := by decide +kernel
theorem dX3_first_10 : decode cX3_first 10 = .ok (.iload_n 1, 1) := by decide +kernel
theorem dX3_first_11 : decode cX3_first 11 = .ok (.invokestatic 106, 3) := by decide +kernel
theorem dX3_first_14 : decode cX3_first 14 = .ok (.ifCond .ne 6, 3) := by decide +kernel
theorem dX3_first_17 : decode cX3_first 17 = .ok (.bipush (-12), 2) := by decide +kernel
theorem dX3_first_19 : decode cX3_first 19 = .ok (.ireturn, 1) := by decide +kernel
theorem dX3_first_20 : decode cX3_first 20 = .ok (.aload_n 0, 1) := by decide +kernel
theorem dX3_first_21 : decode cX3_first 21 = .ok (.getfield 24, 3) := by decide +kernel
theorem dX3_first_24 : decode cX3_first 24 = .ok (.iload_n 1, 1) := by decide +kernel
theorem dX3_first_25 : decode cX3_first 25 = .ok (.iload_n 2, 1) := by decide +kernel
theorem dX3_first_26 : decode cX3_first 26 = .ok (.invokevirtual 109, 3) := by decide +kernel
theorem dX3_first_29 : decode cX3_first 29 = .ok (.istore_n 3, 1) := by decide +kernel
theorem dX3_first_30 : decode cX3_first 30 = .ok (.aload_n 0, 1) := by decide +kernel
theorem dX3_first_31 : decode cX3_first 31 = .ok (.getfield 16, 3) := by decide +kernel
theorem dX3_first_34 : decode cX3_first 34 = .ok (.iload_n 3, 1) := by decide +kernel
theorem dX3_first_35 : decode cX3_first 35 = .ok (.invokevirtual 57, 3) := by decide +kernel
theorem dX3_first_38 : decode cX3_first 38 = .ok (.ifCond .ne 13, 3) := by decide +kernel
theorem dX3_first_41 : decode cX3_first 41 = .ok (.new 86, 3) := by decide +kernel
theorem dX3_first_44 : decode cX3_first 44 = .ok (.dup, 1) := by decide +kernel
theorem dX3_first_45 : decode cX3_first 45 = .ok (.ldc 113, 2) := by decide +kernel
theorem dX3_first_47 : decode cX3_first 47 = .ok (.invokespecial 90, 3) := by decide +kernel
theorem dX3_first_50 : decode cX3_first 50 = .ok (.athrow, 1) := by decide +kernel
theorem dX3_first_51 : decode cX3_first 51 = .ok (.aload_n 0, 1) := by decide +kernel
theorem dX3_first_52 : decode cX3_first 52 = .ok (.getfield 16, 3) := by decide +kernel
theorem dX3_first_55 : decode cX3_first 55 = .ok (.iload_n 3, 1) := by decide +kernel
theorem dX3_first_56 : decode cX3_first 56 = .ok (.invokevirtual 60, 3) := by decide +kernel
theorem dX3_first_59 : decode cX3_first 59 = .ok (.ireturn, 1) := by decide +kernel
set_option maxRecDepth 20000 in
theorem ggX3_sum_X3_sumAsRead : GoodIn wsX3_sum wsX3_sumAsRead := goodIn_ca (goodIn_r _ [6, 7, 8, 9, 10, 11, 12, 13, 14, 15, 16, 17, 18, 19, 20, 21, 22, 23, 24, 25, 26, 27, 28, 29, 30, 31, 32, 33, 34, 35, 36, 37, 38, 39, 40, 41, 42, 43, 44, 45, 46, 47] (by decide +kernel) (by decide +kernel)) (goodIn_sub (fun _ h => List.mem_cons_of_mem _ (List.mem_append_right _ h)) (by decide +kernel))
set_option maxRecDepth 20000 in
theorem gX3_sum_X3_sumAsRead : GoodIn wsX3_sum (wsV RX3 115 RX3 yX3_sumAsRead wsX3_sumAsRead) := goodIn_app (goodIn_of _ (by decide +kernel)) ggX3_sum_X3_sumAsRead
theorem dX3_sum_0 : decode cX3_sum 0 = .ok (.aload_n 0, 1) := by decide +kernel
theorem dX3_sum_1 : decode cX3_sum 1 = .ok (.getfield 28, 3) := by decide +kernel
theorem dX3_sum_4 : decode cX3_sum 4 = .ok (.ifCond .eq 10, 3) := by decide +kernel
theorem dX3_sum_7 : decode cX3_sum 7 = .ok (.aload_n 0, 1) := by decide +kernel
theorem dX3_sum_8 : decode cX3_sum 8 = .ok (.invokevirtual 115, 3) := by decide +kernel
theorem dX3_sum_11 : decode cX3_sum 11 = .ok (.goto 5, 3) := by decide +kernel
theorem dX3_sum_14 : decode cX3_sum 14 = .ok (.bipush (-11), 2) := by decide +kernel
theorem dX3_sum_16 : decode cX3_sum 16 = .ok (.ireturn, 1) := by decide +kernel
set_option maxRecDepth 20000 in
theorem ggX3_agrees_X3_sumAsRead : GoodIn wsX3_agrees wsX3_sumAsRead := goodIn_ca (goodIn_r _ [7, 8, 2, 9, 10, 11, 12, 13, 14, 15, 16, 17, 18, 19, 20, 21, 22, 23, 24, 25, 26, 27, 28, 29, 30, 31, 32, 33, 34, 35, 36, 37, 38, 39, 41, 42, 43, 44, 45, 46, 47, 48] (by decide +kernel) (by decide +kernel)) (goodIn_sub (fun _ h => List.mem_cons_of_mem _ (List.mem_append_right _ h)) (by decide +kernel))
set_option maxRecDepth 20000 in
theorem gX3_agrees_X3_sumAsRead : GoodIn wsX3_agrees (wsV RX3 115 RX3 yX3_sumAsRead wsX3_sumAsRead) := goodIn_app (goodIn_of _ (by decide +kernel)) ggX3_agrees_X3_sumAsRead
set_option maxRecDepth 20000 in
theorem ggX3_agrees_X2_two : GoodIn wsX3_agrees wsX2_two := goodIn_ca (goodIn_r _ [20, 21, 22, 47, 48] (by decide +kernel) (by decide +kernel)) (goodIn_sub (fun _ h => List.mem_cons_of_mem _ (List.mem_append_right _ h)) (by decide +kernel))
set_option maxRecDepth 20000 in
theorem gX3_agrees_X2_two : GoodIn wsX3_agrees (wsV RX3 98 RX2 yX2_two wsX2_two) := goodIn_app (goodIn_of _ (by decide +kernel)) ggX3_agrees_X2_two
theorem dX3_agrees_0 : decode cX3_agrees 0 = .ok (.aload_n 0, 1) := by decide +kernel
theorem dX3_agrees_1 : decode cX3_agrees 1 = .ok (.getfield 28, 3) := by decide +kernel
theorem dX3_agrees_4 : decode cX3_agrees 4 = .ok (.ifCond .ne 6, 3) := by decide +kernel
theorem dX3_agrees_7 : decode cX3_agrees 7 = .ok (.bipush (-11), 2) := by decide +kernel
theorem dX3_agrees_9 : decode cX3_agrees 9 = .ok (.ireturn, 1) := by decide +kernel
theorem dX3_agrees_10 : decode cX3_agrees 10 = .ok (.aload_n 0, 1) := by decide +kernel
theorem dX3_agrees_11 : decode cX3_agrees 11 = .ok (.invokevirtual 115, 3) := by decide +kernel
theorem dX3_agrees_14 : decode cX3_agrees 14 = .ok (.aload_n 0, 1) := by decide +kernel
theorem dX3_agrees_15 : decode cX3_agrees 15 = .ok (.getfield 10, 3) := by decide +kernel
theorem dX3_agrees_18 : decode cX3_agrees 18 = .ok (.bipush 28, 2) := by decide +kernel
theorem dX3_agrees_20 : decode cX3_agrees 20 = .ok (.invokevirtual 98, 3) := by decide +kernel
theorem dX3_agrees_23 : decode cX3_agrees 23 = .ok (.if_icmp .ne 7, 3) := by decide +kernel
theorem dX3_agrees_26 : decode cX3_agrees 26 = .ok (.iconst 1, 1) := by decide +kernel
theorem dX3_agrees_27 : decode cX3_agrees 27 = .ok (.goto 4, 3) := by decide +kernel
theorem dX3_agrees_30 : decode cX3_agrees 30 = .ok (.iconst 0, 1) := by decide +kernel
theorem dX3_agrees_31 : decode cX3_agrees 31 = .ok (.ireturn, 1) := by decide +kernel
set_option maxRecDepth 20000 in
theorem ggX3_flag_X1_isFlag : GoodIn wsX3_flag wsX1_isFlag := goodIn_r _ [6] (by decide +kernel) (by decide +kernel)
set_option maxRecDepth 20000 in
theorem gX3_flag_X1_isFlag : GoodIn wsX3_flag (va_wsS RX3 118 yX1_isFlag wsX1_isFlag) := goodIn_app (goodIn_of _ (by decide +kernel)) ggX3_flag_X1_isFlag
set_option maxRecDepth 20000 in
theorem ggX3_flag_X0_version : GoodIn wsX3_flag wsX0_version := goodIn_ca (goodIn_r _ [11, 12, 13, 14, 15, 16, 17, 18, 19, 62, 63, 64] (by decide +kernel) (by decide +kernel)) (goodIn_sub (fun _ h => List.mem_cons_of_mem _ (List.mem_append_right _ h)) (by decide +kernel))
set_option maxRecDepth 20000 in
theorem gX3_flag_X0_version : GoodIn wsX3_flag (wsV RX3 80 RX0 yX0_version wsX0_version) := goodIn_app (goodIn_of _ (by decide +kernel)) ggX3_flag_X0_version
set_option maxRecDepth 20000 in
theorem ggX3_flag_X1_maySwitchFirst : GoodIn wsX3_flag wsX1_maySwitchFirst := goodIn_r _ [22, 23, 24, 5, 25] (by decide +kernel) (by decide +kernel)
set_option maxRecDepth 20000 in
theorem gX3_flag_X1_maySwitchFirst : GoodIn wsX3_flag (va_wsS RX3 124 yX1_maySwitchFirst wsX1_maySwitchFirst) := goodIn_app (goodIn_of _ (by decide +kernel)) ggX3_flag_X1_maySwitchFirst
set_option maxRecDepth 20000 in
theorem ggX3_flag_X1_maySwitchSecond : GoodIn wsX3_flag wsX1_maySwitchSecond := goodIn_r _ [28] (by decide +kernel) (by decide +kernel)
set_option maxRecDepth 20000 in
theorem gX3_flag_X1_maySwitchSecond : GoodIn wsX3_flag (va_wsS RX3 128 yX1_maySwitchSecond wsX1_maySwitchSecond) := goodIn_app (goodIn_of _ (by decide +kernel)) ggX3_flag_X1_maySwitchSecond
set_option maxRecDepth 20000 in
theorem ggX3_flag_X3_flagBit : GoodIn wsX3_flag wsX3_flagBit := goodIn_ca (goodIn_r _ [33, 34, 35, 14, 15, 16, 17, 18, 19, 36, 37, 38, 39, 57, 58, 59, 60, 61, 63, 64] (by decide +kernel) (by decide +kernel)) (goodIn_sub (fun _ h => List.mem_cons_of_mem _ (List.mem_append_right _ h)) (by decide +kernel))
set_option maxRecDepth 20000 in
theorem gX3_flag_X3_flagBit : GoodIn wsX3_flag (wsV RX3 132 RX3 yX3_flagBit wsX3_flagBit) := goodIn_app (goodIn_of _ (by decide +kernel)) ggX3_flag_X3_flagBit
set_option maxRecDepth 20000 in
theorem ggX3_flag_X3_switchFlag : GoodIn wsX3_flag wsX3_switchFlag := goodIn_ca (goodIn_r _ [43, 34, 35, 14, 15, 16, 17, 18, 19, 36, 37, 38, 39, 44, 45, 46, 47, 48, 49, 50, 51, 52, 53, 54, 55, 56, 57, 58, 59, 60, 61, 63, 64] (by decide +kernel) (by decide +kernel)) (goodIn_sub (fun _ h => List.mem_cons_of_mem _ (List.mem_append_right _ h)) (by decide +kernel))
set_option maxRecDepth 20000 in
theorem gX3_flag_X3_switchFlag : GoodIn wsX3_flag (wsV RX3 135 RX3 yX3_switchFlag wsX3_switchFlag) := goodIn_app (goodIn_of _ (by decide +kernel)) ggX3_flag_X3_switchFlag
theorem dX3_flag_0 : decode cX3_flag 0 = .ok (.aload_n 0, 1) := by decide +kernel
theorem dX3_flag_1 : decode cX3_flag 1 = .ok (.getfield 28, 3) := by decide +kernel
theorem dX3_flag_4 : decode cX3_flag 4 = .ok (.ifCond .ne 6, 3) := by decide +kernel
theorem dX3_flag_7 : decode cX3_flag 7 = .ok (.bipush (-11), 2) := by decide +kernel
theorem dX3_flag_9 : decode cX3_flag 9 = .ok (.ireturn, 1) := by decide +kernel
theorem dX3_flag_10 : decode cX3_flag 10 = .ok (.iload_n 1, 1) := by decide +kernel
theorem dX3_flag_11 : decode cX3_flag 11 = .ok (.iload_n 2, 1) := by decide +kernel
theorem dX3_flag_12 : decode cX3_flag 12 = .ok (.invokestatic 118, 3) := by decide +kernel
theorem dX3_flag_15 : decode cX3_flag 15 = .ok (.ifCond .ne 6, 3) := by decide +kernel
theorem dX3_flag_18 : decode cX3_flag 18 = .ok (.bipush (-12), 2) := by decide +kernel
theorem dX3_flag_20 : decode cX3_flag 20 = .ok (.ireturn, 1) := by decide +kernel
theorem dX3_flag_21 : decode cX3_flag 21 = .ok (.aload_n 0, 1) := by decide +kernel
theorem dX3_flag_22 : decode cX3_flag 22 = .ok (.getfield 24, 3) := by decide +kernel
theorem dX3_flag_25 : decode cX3_flag 25 = .ok (.invokevirtual 80, 3) := by decide +kernel
theorem dX3_flag_28 : decode cX3_flag 28 = .ok (.istore 5, 2) := by decide +kernel
theorem dX3_flag_30 : decode cX3_flag 30 = .ok (.iload_n 1, 1) := by decide +kernel
theorem dX3_flag_31 : decode cX3_flag 31 = .ok (.iconst 1, 1) := by decide +kernel
theorem dX3_flag_32 : decode cX3_flag 32 = .ok (.if_icmp .ne 17, 3) := by decide +kernel
theorem dX3_flag_35 : decode cX3_flag 35 = .ok (.iload 5, 2) := by decide +kernel
theorem dX3_flag_37 : decode cX3_flag 37 = .ok (.iload_n 2, 1) := by decide +kernel
theorem dX3_flag_38 : decode cX3_flag 38 = .ok (.iload 4, 2) := by decide +kernel
theorem dX3_flag_40 : decode cX3_flag 40 = .ok (.invokestatic 124, 3) := by decide +kernel
theorem dX3_flag_43 : decode cX3_flag 43 = .ok (.ifCond .ne 6, 3) := by decide +kernel
theorem dX3_flag_46 : decode cX3_flag 46 = .ok (.bipush (-13), 2) := by decide +kernel
theorem dX3_flag_48 : decode cX3_flag 48 = .ok (.ireturn, 1) := by decide +kernel
theorem dX3_flag_49 : decode cX3_flag 49 = .ok (.iload_n 1, 1) := by decide +kernel
theorem dX3_flag_50 : decode cX3_flag 50 = .ok (.iconst 2, 1) := by decide +kernel
theorem dX3_flag_51 : decode cX3_flag 51 = .ok (.if_icmp .ne 18, 3) := by decide +kernel
theorem dX3_flag_54 : decode cX3_flag 54 = .ok (.iload 5, 2) := by decide +kernel
theorem dX3_flag_56 : decode cX3_flag 56 = .ok (.iload_n 2, 1) := by decide +kernel
theorem dX3_flag_57 : decode cX3_flag 57 = .ok (.iload_n 3, 1) := by decide +kernel
theorem dX3_flag_58 : decode cX3_flag 58 = .ok (.iload 4, 2) := by decide +kernel
theorem dX3_flag_60 : decode cX3_flag 60 = .ok (.invokestatic 128, 3) := by decide +kernel
theorem dX3_flag_63 : decode cX3_flag 63 = .ok (.ifCond .ne 6, 3) := by decide +kernel
theorem dX3_flag_66 : decode cX3_flag 66 = .ok (.bipush (-13), 2) := by decide +kernel
theorem dX3_flag_68 : decode cX3_flag 68 = .ok (.ireturn, 1) := by decide +kernel
theorem dX3_flag_69 : decode cX3_flag 69 = .ok (.aload_n 0, 1) := by decide +kernel
theorem dX3_flag_70 : decode cX3_flag 70 = .ok (.iload_n 1, 1) := by decide +kernel
theorem dX3_flag_71 : decode cX3_flag 71 = .ok (.iload_n 2, 1) := by decide +kernel
theorem dX3_flag_72 : decode cX3_flag 72 = .ok (.invokevirtual 132, 3) := by decide +kernel
theorem dX3_flag_75 : decode cX3_flag 75 = .ok (.istore 6, 2) := by decide +kernel
theorem dX3_flag_77 : decode cX3_flag 77 = .ok (.aload_n 0, 1) := by decide +kernel
theorem dX3_flag_78 : decode cX3_flag 78 = .ok (.iload_n 1, 1) := by decide +kernel
theorem dX3_flag_79 : decode cX3_flag 79 = .ok (.iload_n 2, 1) := by decide +kernel
theorem dX3_flag_80 : decode cX3_flag 80 = .ok (.iload_n 3, 1) := by decide +kernel
theorem dX3_flag_81 : decode cX3_flag 81 = .ok (.invokevirtual 135, 3) := by decide +kernel
theorem dX3_flag_84 : decode cX3_flag 84 = .ok (.iload 6, 2) := by decide +kernel
theorem dX3_flag_86 : decode cX3_flag 86 = .ok (.ireturn, 1) := by decide +kernel
set_option maxRecDepth 20000 in
theorem ggX3_isOn_X1_isFlag : GoodIn wsX3_isOn wsX1_isFlag := goodIn_r _ [5] (by decide +kernel) (by decide +kernel)
set_option maxRecDepth 20000 in
theorem gX3_isOn_X1_isFlag : GoodIn wsX3_isOn (va_wsS RX3 118 yX1_isFlag wsX1_isFlag) := goodIn_app (goodIn_of _ (by decide +kernel)) ggX3_isOn_X1_isFlag
set_option maxRecDepth 20000 in
theorem ggX3_isOn_X3_flagBit : GoodIn wsX3_isOn wsX3_flagBit := goodIn_ca (goodIn_r _ [10, 11, 12, 13, 14, 15, 16, 17, 18, 19, 20, 21, 22, 23, 24, 25, 26, 27, 28, 29] (by decide +kernel) (by decide +kernel)) (goodIn_sub (fun _ h => List.mem_cons_of_mem _ (List.mem_append_right _ h)) (by decide +kernel))
set_option maxRecDepth 20000 in
theorem gX3_isOn_X3_flagBit : GoodIn wsX3_isOn (wsV RX3 132 RX3 yX3_flagBit wsX3_flagBit) := goodIn_app (goodIn_of _ (by decide +kernel)) ggX3_isOn_X3_flagBit
theorem dX3_isOn_0 : decode cX3_isOn 0 = .ok (.aload_n 0, 1) := by decide +kernel
theorem dX3_isOn_1 : decode cX3_isOn 1 = .ok (.getfield 28, 3) := by decide +kernel
theorem dX3_isOn_4 : decode cX3_isOn 4 = .ok (.ifCond .ne 6, 3) := by decide +kernel
theorem dX3_isOn_7 : decode cX3_isOn 7 = .ok (.bipush (-11), 2) := by decide +kernel
theorem dX3_isOn_9 : decode cX3_isOn 9 = .ok (.ireturn, 1) := by decide +kernel
theorem dX3_isOn_10 : decode cX3_isOn 10 = .ok (.iload_n 1, 1) := by decide +kernel
theorem dX3_isOn_11 : decode cX3_isOn 11 = .ok (.iload_n 2, 1) := by decide +kernel
theorem dX3_isOn_12 : decode cX3_isOn 12 = .ok (.invokestatic 118, 3) := by decide +kernel
theorem dX3_isOn_15 : decode cX3_isOn 15 = .ok (.ifCond .eq 12, 3) := by decide +kernel
theorem dX3_isOn_18 : decode cX3_isOn 18 = .ok (.aload_n 0, 1) := by decide +kernel
theorem dX3_isOn_19 : decode cX3_isOn 19 = .ok (.iload_n 1, 1) := by decide +kernel
theorem dX3_isOn_20 : decode cX3_isOn 20 = .ok (.iload_n 2, 1) := by decide +kernel
theorem dX3_isOn_21 : decode cX3_isOn 21 = .ok (.invokevirtual 132, 3) := by decide +kernel
theorem dX3_isOn_24 : decode cX3_isOn 24 = .ok (.goto 5, 3) := by decide +kernel
theorem dX3_isOn_27 : decode cX3_isOn 27 = .ok (.bipush (-12), 2) := by decide +kernel
theorem dX3_isOn_29 : decode cX3_isOn 29 = .ok (.ireturn, 1) := by decide +kernel
set_option maxRecDepth 20000 in
theorem ggX3_set_X1_isWide : GoodIn wsX3_set wsX1_isWide := goodIn_r _ [7] (by decide +kernel) (by decide +kernel)
set_option maxRecDepth 20000 in
theorem gX3_set_X1_isWide : GoodIn wsX3_set (va_wsS RX3 139 yX1_isWide wsX1_isWide) := goodIn_app (goodIn_of _ (by decide +kernel)) ggX3_set_X1_isWide
set_option maxRecDepth 20000 in
theorem ggX3_set_X3_isTwo : GoodIn wsX3_set wsX3_isTwo := goodIn_r _ [11, 12] (by decide +kernel) (by decide +kernel)
set_option maxRecDepth 20000 in
theorem gX3_set_X3_isTwo : GoodIn wsX3_set (va_wsS RX3 106 yX3_isTwo wsX3_isTwo) := goodIn_app (goodIn_of _ (by decide +kernel)) ggX3_set_X3_isTwo
set_option maxRecDepth 20000 in
theorem ggX3_set_X3_isByte : GoodIn wsX3_set wsX3_isByte := goodIn_r _ [15] (by decide +kernel) (by decide +kernel)
set_option maxRecDepth 20000 in
theorem gX3_set_X3_isByte : GoodIn wsX3_set (va_wsS RX3 36 yX3_isByte wsX3_isByte) := goodIn_app (goodIn_of _ (by decide +kernel)) ggX3_set_X3_isByte
set_option maxRecDepth 20000 in
theorem ggX3_set_X0_version : GoodIn wsX3_set wsX0_version := goodIn_ca (goodIn_r _ [20, 21, 22, 23, 24, 25, 26, 27, 28, 58, 59, 60] (by decide +kernel) (by decide +kernel)) (goodIn_sub (fun _ h => List.mem_cons_of_mem _ (List.mem_append_right _ h)) (by decide +kernel))
set_option maxRecDepth 20000 in
theorem gX3_set_X0_version : GoodIn wsX3_set (wsV RX3 80 RX0 yX0_version wsX0_version) := goodIn_app (goodIn_of _ (by decide +kernel)) ggX3_set_X0_version
set_option maxRecDepth 20000 in
theorem ggX3_set_X1_settableFrom : GoodIn wsX3_set wsX1_settableFrom := goodIn_r _ [31] (by decide +kernel) (by decide +kernel)
set_option maxRecDepth 20000 in
theorem gX3_set_X1_settableFrom : GoodIn wsX3_set (va_wsS RX3 142 yX1_settableFrom wsX1_settableFrom) := goodIn_app (goodIn_of _ (by decide +kernel)) ggX3_set_X1_settableFrom
set_option maxRecDepth 20000 in
theorem ggX3_set_X1_settingPlace : GoodIn wsX3_set wsX1_settingPlace := goodIn_r _ [34] (by decide +kernel) (by decide +kernel)
set_option maxRecDepth 20000 in
theorem gX3_set_X1_settingPlace : GoodIn wsX3_set (va_wsS RX3 145 yX1_settingPlace wsX1_settingPlace) := goodIn_app (goodIn_of _ (by decide +kernel)) ggX3_set_X1_settingPlace
set_option maxRecDepth 20000 in
theorem ggX3_set_X2_two : GoodIn wsX3_set wsX2_two := goodIn_ca (goodIn_r _ [38, 27, 28, 59, 60] (by decide +kernel) (by decide +kernel)) (goodIn_sub (fun _ h => List.mem_cons_of_mem _ (List.mem_append_right _ h)) (by decide +kernel))
set_option maxRecDepth 20000 in
theorem gX3_set_X2_two : GoodIn wsX3_set (wsV RX3 98 RX2 yX2_two wsX2_two) := goodIn_app (goodIn_of _ (by decide +kernel)) ggX3_set_X2_two
set_option maxRecDepth 20000 in
theorem ggX3_set_X2_at : GoodIn wsX3_set wsX2_at := goodIn_ca (goodIn_r _ [26, 27, 28, 59, 60] (by decide +kernel) (by decide +kernel)) (goodIn_sub (fun _ h => List.mem_cons_of_mem _ (List.mem_append_right _ h)) (by decide +kernel))
set_option maxRecDepth 20000 in
theorem gX3_set_X2_at : GoodIn wsX3_set (wsV RX3 60 RX2 yX2_at wsX2_at) := goodIn_app (goodIn_of _ (by decide +kernel)) ggX3_set_X2_at
set_option maxRecDepth 20000 in
theorem ggX3_set_X2_putTwo : GoodIn wsX3_set wsX2_putTwo := goodIn_ca (goodIn_r _ [43, 44, 45, 46, 25, 47, 28, 48, 49, 50, 51, 27, 59, 60] (by decide +kernel) (by decide +kernel)) (goodIn_sub (fun _ h => List.mem_cons_of_mem _ (List.mem_append_right _ h)) (by decide +kernel))
set_option maxRecDepth 20000 in
theorem gX3_set_X2_putTwo : GoodIn wsX3_set (wsV RX3 148 RX2 yX2_putTwo wsX2_putTwo) := goodIn_app (goodIn_of _ (by decide +kernel)) ggX3_set_X2_putTwo
set_option maxRecDepth 20000 in
theorem ggX3_set_X2_put : GoodIn wsX3_set wsX2_put := goodIn_ca (goodIn_r _ [47, 28, 48, 49, 50, 25, 51, 27, 59, 60] (by decide +kernel) (by decide +kernel)) (goodIn_sub (fun _ h => List.mem_cons_of_mem _ (List.mem_append_right _ h)) (by decide +kernel))
set_option maxRecDepth 20000 in
theorem gX3_set_X2_put : GoodIn wsX3_set (wsV RX3 64 RX2 yX2_put wsX2_put) := goodIn_app (goodIn_of _ (by decide +kernel)) ggX3_set_X2_put
theorem dX3_set_0 : decode cX3_set 0 = .ok (.aload_n 0, 1) := by decide +kernel
theorem dX3_set_1 : decode cX3_set 1 = .ok (.getfield 28, 3) := by decide +kernel
theorem dX3_set_4 : decode cX3_set 4 = .ok (.ifCond .ne 6, 3) := by decide +kernel
theorem dX3_set_7 : decode cX3_set 7 = .ok (.bipush (-11), 2) := by decide +kernel
theorem dX3_set_9 : decode cX3_set 9 = .ok (.ireturn, 1) := by decide +kernel
theorem dX3_set_10 : decode cX3_set 10 = .ok (.iload_n 1, 1) := by decide +kernel
theorem dX3_set_11 : decode cX3_set 11 = .ok (.ifCond .lt 9, 3) := by decide +kernel
theorem dX3_set_14 : decode cX3_set 14 = .ok (.iload_n 1, 1) := by decide +kernel
theorem dX3_set_15 : decode cX3_set 15 = .ok (.bipush 11, 2) := by decide +kernel
theorem dX3_set_17 : decode cX3_set 17 = .ok (.if_icmp .lt 6, 3) := by decide +kernel
theorem dX3_set_20 : decode cX3_set 20 = .ok (.bipush (-12), 2) := by decide +kernel
theorem dX3_set_22 : decode cX3_set 22 = .ok (.ireturn, 1) := by decide +kernel
theorem dX3_set_23 : decode cX3_set 23 = .ok (.iload_n 1, 1) := by decide +kernel
theorem dX3_set_24 : decode cX3_set 24 = .ok (.invokestatic 139, 3) := by decide +kernel
theorem dX3_set_27 : decode cX3_set 27 = .ok (.istore_n 3, 1) := by decide +kernel
theorem dX3_set_28 : decode cX3_set 28 = .ok (.iload_n 3, 1) := by decide +kernel
theorem dX3_set_29 : decode cX3_set 29 = .ok (.ifCond .eq 13, 3) := by decide +kernel
theorem dX3_set_32 : decode cX3_set 32 = .ok (.iload_n 2, 1) := by decide +kernel
theorem dX3_set_33 : decode cX3_set 33 = .ok (.invokestatic 106, 3) := by decide +kernel
theorem dX3_set_36 : decode cX3_set 36 = .ok (.ifCond .ne 16, 3) := by decide +kernel
theorem dX3_set_39 : decode cX3_set 39 = .ok (.goto 10, 3) := by decide +kernel
theorem dX3_set_42 : decode cX3_set 42 = .ok (.iload_n 2, 1) := by decide +kernel
theorem dX3_set_43 : decode cX3_set 43 = .ok (.invokestatic 36, 3) := by decide +kernel
theorem dX3_set_46 : decode cX3_set 46 = .ok (.ifCond .ne 6, 3) := by decide +kernel
theorem dX3_set_49 : decode cX3_set 49 = .ok (.bipush (-12), 2) := by decide +kernel
theorem dX3_set_51 : decode cX3_set 51 = .ok (.ireturn, 1) := by decide +kernel
theorem dX3_set_52 : decode cX3_set 52 = .ok (.aload_n 0, 1) := by decide +kernel
theorem dX3_set_53 : decode cX3_set 53 = .ok (.getfield 24, 3) := by decide +kernel
theorem dX3_set_56 : decode cX3_set 56 = .ok (.invokevirtual 80, 3) := by decide +kernel
theorem dX3_set_59 : decode cX3_set 59 = .ok (.istore 4, 2) := by decide +kernel
theorem dX3_set_61 : decode cX3_set 61 = .ok (.iload 4, 2) := by decide +kernel
theorem dX3_set_63 : decode cX3_set 63 = .ok (.iload_n 1, 1) := by decide +kernel
theorem dX3_set_64 : decode cX3_set 64 = .ok (.invokestatic 142, 3) := by decide +kernel
theorem dX3_set_67 : decode cX3_set 67 = .ok (.if_icmp .ge 6, 3) := by decide +kernel
theorem dX3_set_70 : decode cX3_set 70 = .ok (.bipush (-13), 2) := by decide +kernel
theorem dX3_set_72 : decode cX3_set 72 = .ok (.ireturn, 1) := by decide +kernel
theorem dX3_set_73 : decode cX3_set 73 = .ok (.iload_n 1, 1) := by decide +kernel
theorem dX3_set_74 : decode cX3_set 74 = .ok (.iload 4, 2) := by decide +kernel
theorem dX3_set_76 : decode cX3_set 76 = .ok (.invokestatic 145, 3) := by decide +kernel
theorem dX3_set_79 : decode cX3_set 79 = .ok (.istore 5, 2) := by decide +kernel
theorem dX3_set_81 : decode cX3_set 81 = .ok (.iload_n 3, 1) := by decide +kernel
theorem dX3_set_82 : decode cX3_set 82 = .ok (.ifCond .eq 15, 3) := by decide +kernel
theorem dX3_set_85 : decode cX3_set 85 = .ok (.aload_n 0, 1) := by decide +kernel
theorem dX3_set_86 : decode cX3_set 86 = .ok (.getfield 16, 3) := by decide +kernel
theorem dX3_set_89 : decode cX3_set 89 = .ok (.iload 5, 2) := by decide +kernel
theorem dX3_set_91 : decode cX3_set 91 = .ok (.invokevirtual 98, 3) := by decide +kernel
theorem dX3_set_94 : decode cX3_set 94 = .ok (.goto 12, 3) := by decide +kernel
theorem dX3_set_97 : decode cX3_set 97 = .ok (.aload_n 0, 1) := by decide +kernel
theorem dX3_set_98 : decode cX3_set 98 = .ok (.getfield 16, 3) := by decide +kernel
theorem dX3_set_101 : decode cX3_set 101 = .ok (.iload 5, 2) := by decide +kernel
theorem dX3_set_103 : decode cX3_set 103 = .ok (.invokevirtual 60, 3) := by decide +kernel
theorem dX3_set_106 : decode cX3_set 106 = .ok (.istore 6, 2) := by decide +kernel
theorem dX3_set_108 : decode cX3_set 108 = .ok (.iload_n 3, 1) := by decide +kernel
theorem dX3_set_109 : decode cX3_set 109 = .ok (.ifCond .eq 16, 3) := by decide +kernel
theorem dX3_set_112 : decode cX3_set 112 = .ok (.aload_n 0, 1) := by decide +kernel
theorem dX3_set_113 : decode cX3_set 113 = .ok (.getfield 16, 3) := by decide +kernel
theorem dX3_set_116 : decode cX3_set 116 = .ok (.iload 5, 2) := by decide +kernel
theorem dX3_set_118 : decode cX3_set 118 = .ok (.iload_n 2, 1) := by decide +kernel
theorem dX3_set_119 : decode cX3_set 119 = .ok (.invokevirtual 148, 3) := by decide +kernel
theorem dX3_set_122 : decode cX3_set 122 = .ok (.goto 13, 3) := by decide +kernel
theorem dX3_set_125 : decode cX3_set 125 = .ok (.aload_n 0, 1) := by decide +kernel
theorem dX3_set_126 : decode cX3_set 126 = .ok (.getfield 16, 3) := by decide +kernel
theorem dX3_set_129 : decode cX3_set 129 = .ok (.iload 5, 2) := by decide +kernel
theorem dX3_set_131 : decode cX3_set 131 = .ok (.iload_n 2, 1) := by decide +kernel
theorem dX3_set_132 : decode cX3_set 132 = .ok (.invokevirtual 64, 3) := by decide +kernel
theorem dX3_set_135 : decode cX3_set 135 = .ok (.iload 6, 2) := by decide +kernel
theorem dX3_set_137 : decode cX3_set 137 = .ok (.ireturn, 1) := by decide +kernel
set_option maxRecDepth 20000 in
theorem ggX3_restart_X0_staticFrom : GoodIn wsX3_restart wsX0_staticFrom := goodIn_ca (goodIn_r _ [9, 10, 11, 12, 13, 14, 15, 16, 17, 35, 36, 37] (by decide +kernel) (by decide +kernel)) (goodIn_sub (fun _ h => List.mem_cons_of_mem _ (List.mem_append_right _ h)) (by decide +kernel))
set_option maxRecDepth 20000 in
theorem gX3_restart_X0_staticFrom : GoodIn wsX3_restart (wsV RX3 103 RX0 yX0_staticFrom wsX0_staticFrom) := goodIn_app (goodIn_of _ (by decide +kernel)) ggX3_restart_X0_staticFrom
set_option maxRecDepth 20000 in
theorem ggX3_restart_X2_at : GoodIn wsX3_restart wsX2_at := goodIn_ca (goodIn_r _ [21, 16, 17, 36, 37] (by decide +kernel) (by decide +kernel)) (goodIn_sub (fun _ h => List.mem_cons_of_mem _ (List.mem_append_right _ h)) (by decide +kernel))
set_option maxRecDepth 20000 in
theorem gX3_restart_X2_at : GoodIn wsX3_restart (wsV RX3 60 RX2 yX2_at wsX2_at) := goodIn_app (goodIn_of _ (by decide +kernel)) ggX3_restart_X2_at
set_option maxRecDepth 20000 in
theorem ggX3_restart_X2_put : GoodIn wsX3_restart wsX2_put := goodIn_ca (goodIn_r _ [25, 17, 26, 27, 28, 14, 29, 16, 36, 37] (by decide +kernel) (by decide +kernel)) (goodIn_sub (fun _ h => List.mem_cons_of_mem _ (List.mem_append_right _ h)) (by decide +kernel))
set_option maxRecDepth 20000 in
theorem gX3_restart_X2_put : GoodIn wsX3_restart (wsV RX3 64 RX2 yX2_put wsX2_put) := goodIn_app (goodIn_of _ (by decide +kernel)) ggX3_restart_X2_put
theorem dX3_restart_0 : decode cX3_restart 0 = .ok (.aload_n 0, 1) := by decide +kernel
theorem dX3_restart_1 : decode cX3_restart 1 = .ok (.getfield 28, 3) := by decide +kernel
theorem dX3_restart_4 : decode cX3_restart 4 = .ok (.ifCond .ne 6, 3) := by decide +kernel
theorem dX3_restart_7 : decode cX3_restart 7 = .ok (.bipush (-11), 2) := by decide +kernel
theorem dX3_restart_9 : decode cX3_restart 9 = .ok (.ireturn, 1) := by decide +kernel
theorem dX3_restart_10 : decode cX3_restart 10 = .ok (.iconst 0, 1) := by decide +kernel
theorem dX3_restart_11 : decode cX3_restart 11 = .ok (.istore_n 1, 1) := by decide +kernel
theorem dX3_restart_12 : decode cX3_restart 12 = .ok (.aload_n 0, 1) := by decide +kernel
theorem dX3_restart_13 : decode cX3_restart 13 = .ok (.getfield 24, 3) := by decide +kernel
theorem dX3_restart_16 : decode cX3_restart 16 = .ok (.invokevirtual 103, 3) := by decide +kernel
theorem dX3_restart_19 : decode cX3_restart 19 = .ok (.istore_n 2, 1) := by decide +kernel
theorem dX3_restart_20 : decode cX3_restart 20 = .ok (.bipush 64, 2) := by decide +kernel
theorem dX3_restart_22 : decode cX3_restart 22 = .ok (.istore_n 3, 1) := by decide +kernel
theorem dX3_restart_23 : decode cX3_restart 23 = .ok (.iload_n 3, 1) := by decide +kernel
theorem dX3_restart_24 : decode cX3_restart 24 = .ok (.iload_n 2, 1) := by decide +kernel
theorem dX3_restart_25 : decode cX3_restart 25 = .ok (.if_icmp .ge 47, 3) := by decide +kernel
theorem dX3_restart_28 : decode cX3_restart 28 = .ok (.aload_n 0, 1) := by decide +kernel
theorem dX3_restart_29 : decode cX3_restart 29 = .ok (.getfield 16, 3) := by decide +kernel
theorem dX3_restart_32 : decode cX3_restart 32 = .ok (.iload_n 3, 1) := by decide +kernel
theorem dX3_restart_33 : decode cX3_restart 33 = .ok (.invokevirtual 60, 3) := by decide +kernel
theorem dX3_restart_36 : decode cX3_restart 36 = .ok (.aload_n 0, 1) := by decide +kernel
theorem dX3_restart_37 : decode cX3_restart 37 = .ok (.getfield 10, 3) := by decide +kernel
theorem dX3_restart_40 : decode cX3_restart 40 = .ok (.iload_n 3, 1) := by decide +kernel
theorem dX3_restart_41 : decode cX3_restart 41 = .ok (.invokevirtual 60, 3) := by decide +kernel
theorem dX3_restart_44 : decode cX3_restart 44 = .ok (.if_icmp .eq 22, 3) := by decide +kernel
theorem dX3_restart_47 : decode cX3_restart 47 = .ok (.iinc 1 1, 3) := by decide +kernel
theorem dX3_restart_50 : decode cX3_restart 50 = .ok (.aload_n 0, 1) := by decide +kernel
theorem dX3_restart_51 : decode cX3_restart 51 = .ok (.getfield 16, 3) := by decide +kernel
theorem dX3_restart_54 : decode cX3_restart 54 = .ok (.iload_n 3, 1) := by decide +kernel
theorem dX3_restart_55 : decode cX3_restart 55 = .ok (.aload_n 0, 1) := by decide +kernel
theorem dX3_restart_56 : decode cX3_restart 56 = .ok (.getfield 10, 3) := by decide +kernel
theorem dX3_restart_59 : decode cX3_restart 59 = .ok (.iload_n 3, 1) := by decide +kernel
theorem dX3_restart_60 : decode cX3_restart 60 = .ok (.invokevirtual 60, 3) := by decide +kernel
theorem dX3_restart_63 : decode cX3_restart 63 = .ok (.invokevirtual 64, 3) := by decide +kernel
theorem dX3_restart_66 : decode cX3_restart 66 = .ok (.iinc 3 1, 3) := by decide +kernel
theorem dX3_restart_69 : decode cX3_restart 69 = .ok (.goto (-46), 3) := by decide +kernel
theorem dX3_restart_72 : decode cX3_restart 72 = .ok (.iload_n 1, 1) := by decide +kernel
theorem dX3_restart_73 : decode cX3_restart 73 = .ok (.ireturn, 1) := by decide +kernel
set_option maxRecDepth 20000 in
theorem ggX3_sign_X0_signs : GoodIn wsX3_sign wsX0_signs := goodIn_ca (goodIn_r _ [11, 12, 13, 14, 15, 10, 16, 17, 18, 19, 20, 21, 22, 23, 24, 25, 26, 27, 41, 42, 43] (by decide +kernel) (by decide +kernel)) (goodIn_sub (fun _ h => List.mem_cons_of_mem _ (List.mem_append_right _ h)) (by decide +kernel))
set_option maxRecDepth 20000 in
theorem gX3_sign_X0_signs : GoodIn wsX3_sign (wsV RX3 151 RX0 yX0_signs wsX0_signs) := goodIn_app (goodIn_of _ (by decide +kernel)) ggX3_sign_X0_signs
set_option maxRecDepth 20000 in
theorem ggX3_sign_X0_words : GoodIn wsX3_sign wsX0_words := goodIn_ca (goodIn_r _ [16, 12, 17, 18, 19, 20, 21, 22, 23, 41, 42, 43] (by decide +kernel) (by decide +kernel)) (goodIn_sub (fun _ h => List.mem_cons_of_mem _ (List.mem_append_right _ h)) (by decide +kernel))
set_option maxRecDepth 20000 in
theorem gX3_sign_X0_words : GoodIn wsX3_sign (wsV RX3 156 RX0 yX0_words wsX0_words) := goodIn_app (goodIn_of _ (by decide +kernel)) ggX3_sign_X0_words
set_option maxRecDepth 20000 in
theorem ggX3_sign_X2_at : GoodIn wsX3_sign wsX2_at := goodIn_ca (goodIn_r _ [27, 22, 23, 42, 43] (by decide +kernel) (by decide +kernel)) (goodIn_sub (fun _ h => List.mem_cons_of_mem _ (List.mem_append_right _ h)) (by decide +kernel))
set_option maxRecDepth 20000 in
theorem gX3_sign_X2_at : GoodIn wsX3_sign (wsV RX3 60 RX2 yX2_at wsX2_at) := goodIn_app (goodIn_of _ (by decide +kernel)) ggX3_sign_X2_at
theorem dX3_sign_0 : decode cX3_sign 0 = .ok (.aload_n 0, 1) := by decide +kernel
theorem dX3_sign_1 : decode cX3_sign 1 = .ok (.getfield 28, 3) := by decide +kernel
theorem dX3_sign_4 : decode cX3_sign 4 = .ok (.ifCond .ne 6, 3) := by decide +kernel
theorem dX3_sign_7 : decode cX3_sign 7 = .ok (.bipush (-11), 2) := by decide +kernel
theorem dX3_sign_9 : decode cX3_sign 9 = .ok (.ireturn, 1) := by decide +kernel
theorem dX3_sign_10 : decode cX3_sign 10 = .ok (.iload_n 1, 1) := by decide +kernel
theorem dX3_sign_11 : decode cX3_sign 11 = .ok (.ifCond .lt 14, 3) := by decide +kernel
theorem dX3_sign_14 : decode cX3_sign 14 = .ok (.iload_n 1, 1) := by decide +kernel
theorem dX3_sign_15 : decode cX3_sign 15 = .ok (.aload_n 0, 1) := by decide +kernel
theorem dX3_sign_16 : decode cX3_sign 16 = .ok (.getfield 24, 3) := by decide +kernel
theorem dX3_sign_19 : decode cX3_sign 19 = .ok (.invokevirtual 151, 3) := by decide +kernel
theorem dX3_sign_22 : decode cX3_sign 22 = .ok (.if_icmp .lt 13, 3) := by decide +kernel
theorem dX3_sign_25 : decode cX3_sign 25 = .ok (.new 86, 3) := by decide +kernel
theorem dX3_sign_28 : decode cX3_sign 28 = .ok (.dup, 1) := by decide +kernel
theorem dX3_sign_29 : decode cX3_sign 29 = .ok (.ldc 154, 2) := by decide +kernel
theorem dX3_sign_31 : decode cX3_sign 31 = .ok (.invokespecial 90, 3) := by decide +kernel
theorem dX3_sign_34 : decode cX3_sign 34 = .ok (.athrow, 1) := by decide +kernel
theorem dX3_sign_35 : decode cX3_sign 35 = .ok (.aload_n 0, 1) := by decide +kernel
theorem dX3_sign_36 : decode cX3_sign 36 = .ok (.getfield 10, 3) := by decide +kernel
theorem dX3_sign_39 : decode cX3_sign 39 = .ok (.aload_n 0, 1) := by decide +kernel
theorem dX3_sign_40 : decode cX3_sign 40 = .ok (.getfield 24, 3) := by decide +kernel
theorem dX3_sign_43 : decode cX3_sign 43 = .ok (.invokevirtual 156, 3) := by decide +kernel
theorem dX3_sign_46 : decode cX3_sign 46 = .ok (.iconst 1, 1) := by decide +kernel
theorem dX3_sign_47 : decode cX3_sign 47 = .ok (.iadd, 1) := by decide +kernel
theorem dX3_sign_48 : decode cX3_sign 48 = .ok (.iload_n 1, 1) := by decide +kernel
theorem dX3_sign_49 : decode cX3_sign 49 = .ok (.iadd, 1) := by decide +kernel
theorem dX3_sign_50 : decode cX3_sign 50 = .ok (.invokevirtual 60, 3) := by decide +kernel
theorem dX3_sign_53 : decode cX3_sign 53 = .ok (.ireturn, 1) := by decide +kernel
set_option maxRecDepth 20000 in
theorem ggX3_ratio_X0_entries : GoodIn wsX3_ratio wsX0_entries := goodIn_ca (goodIn_r _ [9, 10, 11, 12, 13, 8, 14, 15, 16, 17, 18, 19, 20, 21, 22, 23, 24, 25, 26, 27, 28, 29, 55, 56, 57] (by decide +kernel) (by decide +kernel)) (goodIn_sub (fun _ h => List.mem_cons_of_mem _ (List.mem_append_right _ h)) (by decide +kernel))
set_option maxRecDepth 20000 in
theorem gX3_ratio_X0_entries : GoodIn wsX3_ratio (wsV RX3 159 RX0 yX0_entries wsX0_entries) := goodIn_app (goodIn_of _ (by decide +kernel)) ggX3_ratio_X0_entries
set_option maxRecDepth 20000 in
theorem ggX3_ratio_X0_entryBytes : GoodIn wsX3_ratio wsX0_entryBytes := goodIn_ca (goodIn_r _ [33, 10, 11, 12, 13, 8, 14, 15, 16, 17, 18, 19, 20, 21, 22, 23, 24, 25, 26, 27, 28, 29, 55, 56, 57] (by decide +kernel) (by decide +kernel)) (goodIn_sub (fun _ h => List.mem_cons_of_mem _ (List.mem_append_right _ h)) (by decide +kernel))
set_option maxRecDepth 20000 in
theorem gX3_ratio_X0_entryBytes : GoodIn wsX3_ratio (wsV RX3 162 RX0 yX0_entryBytes wsX0_entryBytes) := goodIn_app (goodIn_of _ (by decide +kernel)) ggX3_ratio_X0_entryBytes
set_option maxRecDepth 20000 in
theorem ggX3_ratio_X0_length : GoodIn wsX3_ratio wsX0_length := goodIn_ca (goodIn_r _ [37, 10, 15, 16, 17, 18, 19, 20, 21, 38, 39, 40, 8, 41, 26, 27, 28, 29, 42, 43, 44, 45, 46, 47, 48, 49, 55, 56, 57] (by decide +kernel) (by decide +kernel)) (goodIn_sub (fun _ h => List.mem_cons_of_mem _ (List.mem_append_right _ h)) (by decide +kernel))
set_option maxRecDepth 20000 in
theorem gX3_ratio_X0_length : GoodIn wsX3_ratio (wsV RX3 170 RX0 yX0_length wsX0_length) := goodIn_app (goodIn_of _ (by decide +kernel)) ggX3_ratio_X0_length
theorem dX3_ratio_0 : decode cX3_ratio 0 = .ok (.aload_n 0, 1) := by decide +kernel
theorem dX3_ratio_1 : decode cX3_ratio 1 = .ok (.getfield 28, 3) := by decide +kernel
theorem dX3_ratio_4 : decode cX3_ratio 4 = .ok (.ifCond .ne 6, 3) := by decide +kernel
theorem dX3_ratio_7 : decode cX3_ratio 7 = .ok (.bipush (-11), 2) := by decide +kernel
theorem dX3_ratio_9 : decode cX3_ratio 9 = .ok (.ireturn, 1) := by decide +kernel
theorem dX3_ratio_10 : decode cX3_ratio 10 = .ok (.iload_n 1, 1) := by decide +kernel
theorem dX3_ratio_11 : decode cX3_ratio 11 = .ok (.ifCond .eq 13, 3) := by decide +kernel
theorem dX3_ratio_14 : decode cX3_ratio 14 = .ok (.aload_n 0, 1) := by decide +kernel
theorem dX3_ratio_15 : decode cX3_ratio 15 = .ok (.getfield 24, 3) := by decide +kernel
theorem dX3_ratio_18 : decode cX3_ratio 18 = .ok (.invokevirtual 159, 3) := by decide +kernel
theorem dX3_ratio_21 : decode cX3_ratio 21 = .ok (.goto 10, 3) := by decide +kernel
theorem dX3_ratio_24 : decode cX3_ratio 24 = .ok (.aload_n 0, 1) := by decide +kernel
theorem dX3_ratio_25 : decode cX3_ratio 25 = .ok (.getfield 24, 3) := by decide +kernel
theorem dX3_ratio_28 : decode cX3_ratio 28 = .ok (.invokevirtual 162, 3) := by decide +kernel
theorem dX3_ratio_31 : decode cX3_ratio 31 = .ok (.istore_n 2, 1) := by decide +kernel
theorem dX3_ratio_32 : decode cX3_ratio 32 = .ok (.iload_n 2, 1) := by decide +kernel
theorem dX3_ratio_33 : decode cX3_ratio 33 = .ok (.ifCond .ne 13, 3) := by decide +kernel
theorem dX3_ratio_36 : decode cX3_ratio 36 = .ok (.new 165, 3) := by decide +kernel
theorem dX3_ratio_39 : decode cX3_ratio 39 = .ok (.dup, 1) := by decide +kernel
theorem dX3_ratio_40 : decode cX3_ratio 40 = .ok (.ldc 167, 2) := by decide +kernel
theorem dX3_ratio_42 : decode cX3_ratio 42 = .ok (.invokespecial 169, 3) := by decide +kernel
theorem dX3_ratio_45 : decode cX3_ratio 45 = .ok (.athrow, 1) := by decide +kernel
theorem dX3_ratio_46 : decode cX3_ratio 46 = .ok (.aload_n 0, 1) := by decide +kernel
theorem dX3_ratio_47 : decode cX3_ratio 47 = .ok (.getfield 24, 3) := by decide +kernel
theorem dX3_ratio_50 : decode cX3_ratio 50 = .ok (.invokevirtual 170, 3) := by decide +kernel
theorem dX3_ratio_53 : decode cX3_ratio 53 = .ok (.iload_n 2, 1) := by decide +kernel
theorem dX3_ratio_54 : decode cX3_ratio 54 = .ok (.idiv, 1) := by decide +kernel
theorem dX3_ratio_55 : decode cX3_ratio 55 = .ok (.ireturn, 1) := by decide +kernel
set_option maxRecDepth 20000 in
theorem ggX3_size_X2_count : GoodIn wsX3_size wsX2_count := goodIn_r _ [6, 7, 13, 14] (by decide +kernel) (by decide +kernel)
set_option maxRecDepth 20000 in
theorem gX3_size_X2_count : GoodIn wsX3_size (wsV RX3 54 RX2 yX2_count wsX2_count) := goodIn_app (goodIn_of _ (by decide +kernel)) ggX3_size_X2_count
theorem dX3_size_0 : decode cX3_size 0 = .ok (.aload_n 0, 1) := by decide +kernel
theorem dX3_size_1 : decode cX3_size 1 = .ok (.getfield 10, 3) := by decide +kernel
theorem dX3_size_4 : decode cX3_size 4 = .ok (.invokevirtual 54, 3) := by decide +kernel
theorem dX3_size_7 : decode cX3_size 7 = .ok (.ireturn, 1) := by decide +kernel
theorem dX3_isByte_0 : decode cX3_isByte 0 = .ok (.iload_n 0, 1) := by decide +kernel
theorem dX3_isByte_1 : decode cX3_isByte 1 = .ok (.ifCond .lt 14, 3) := by decide +kernel
theorem dX3_isByte_4 : decode cX3_isByte 4 = .ok (.iload_n 0, 1) := by decide +kernel
theorem dX3_isByte_5 : decode cX3_isByte 5 = .ok (.sipush 255, 3) := by decide +kernel
theorem dX3_isByte_8 : decode cX3_isByte 8 = .ok (.if_icmp .gt 7, 3) := by decide +kernel
theorem dX3_isByte_11 : decode cX3_isByte 11 = .ok (.iconst 1, 1) := by decide +kernel
theorem dX3_isByte_12 : decode cX3_isByte 12 = .ok (.goto 4, 3) := by decide +kernel
theorem dX3_isByte_15 : decode cX3_isByte 15 = .ok (.iconst 0, 1) := by decide +kernel
theorem dX3_isByte_16 : decode cX3_isByte 16 = .ok (.ireturn, 1) := by decide +kernel
theorem dX3_isTwo_0 : decode cX3_isTwo 0 = .ok (.iload_n 0, 1) := by decide +kernel
theorem dX3_isTwo_1 : decode cX3_isTwo 1 = .ok (.ifCond .lt 13, 3) := by decide +kernel
theorem dX3_isTwo_4 : decode cX3_isTwo 4 = .ok (.iload_n 0, 1) := by decide +kernel
theorem dX3_isTwo_5 : decode cX3_isTwo 5 = .ok (.ldc 173, 2) := by decide +kernel
theorem dX3_isTwo_7 : decode cX3_isTwo 7 = .ok (.if_icmp .gt 7, 3) := by decide +kernel
theorem dX3_isTwo_10 : decode cX3_isTwo 10 = .ok (.iconst 1, 1) := by decide +kernel
theorem dX3_isTwo_11 : decode cX3_isTwo 11 = .ok (.goto 4, 3) := by decide +kernel
theorem dX3_isTwo_14 : decode cX3_isTwo 14 = .ok (.iconst 0, 1) := by decide +kernel
theorem dX3_isTwo_15 : decode cX3_isTwo 15 = .ok (.ireturn, 1) := by decide +kernel
set_option maxRecDepth 20000 in
theorem ggX3_append_X2_room : GoodIn wsX3_append wsX2_room := goodIn_r _ [7, 8, 23, 24] (by decide +kernel) (by decide +kernel)
set_option maxRecDepth 20000 in
theorem gX3_append_X2_room : GoodIn wsX3_append (wsV RX3 44 RX2 yX2_room wsX2_room) := goodIn_app (goodIn_of _ (by decide +kernel)) ggX3_append_X2_room
set_option maxRecDepth 20000 in
theorem ggX3_append_X2_add : GoodIn wsX3_append wsX2_add := goodIn_ca (goodIn_r _ [12, 8, 13, 23, 24] (by decide +kernel) (by decide +kernel)) (goodIn_sub (fun _ h => List.mem_cons_of_mem _ (List.mem_append_right _ h)) (by decide +kernel))
set_option maxRecDepth 20000 in
theorem gX3_append_X2_add : GoodIn wsX3_append (wsV RX3 50 RX2 yX2_add wsX2_add) := goodIn_app (goodIn_of _ (by decide +kernel)) ggX3_append_X2_add
set_option maxRecDepth 20000 in
theorem ggX3_append_X2_count : GoodIn wsX3_append wsX2_count := goodIn_r _ [17, 8, 23, 24] (by decide +kernel) (by decide +kernel)
set_option maxRecDepth 20000 in
theorem gX3_append_X2_count : GoodIn wsX3_append (wsV RX3 54 RX2 yX2_count wsX2_count) := goodIn_app (goodIn_of _ (by decide +kernel)) ggX3_append_X2_count
theorem dX3_append_0 : decode cX3_append 0 = .ok (.iload_n 1, 1) := by decide +kernel
theorem dX3_append_1 : decode cX3_append 1 = .ok (.aload_n 0, 1) := by decide +kernel
theorem dX3_append_2 : decode cX3_append 2 = .ok (.getfield 10, 3) := by decide +kernel
theorem dX3_append_5 : decode cX3_append 5 = .ok (.invokevirtual 44, 3) := by decide +kernel
theorem dX3_append_8 : decode cX3_append 8 = .ok (.if_icmp .le 6, 3) := by decide +kernel
theorem dX3_append_11 : decode cX3_append 11 = .ok (.bipush (-14), 2) := by decide +kernel
theorem dX3_append_13 : decode cX3_append 13 = .ok (.ireturn, 1) := by decide +kernel
theorem dX3_append_14 : decode cX3_append 14 = .ok (.iconst 0, 1) := by decide +kernel
theorem dX3_append_15 : decode cX3_append 15 = .ok (.istore_n 3, 1) := by decide +kernel
theorem dX3_append_16 : decode cX3_append 16 = .ok (.iload_n 3, 1) := by decide +kernel
theorem dX3_append_17 : decode cX3_append 17 = .ok (.iload_n 1, 1) := by decide +kernel
theorem dX3_append_18 : decode cX3_append 18 = .ok (.if_icmp .ge 17, 3) := by decide +kernel
theorem dX3_append_21 : decode cX3_append 21 = .ok (.aload_n 0, 1) := by decide +kernel
theorem dX3_append_22 : decode cX3_append 22 = .ok (.getfield 10, 3) := by decide +kernel
theorem dX3_append_25 : decode cX3_append 25 = .ok (.iload_n 2, 1) := by decide +kernel
theorem dX3_append_26 : decode cX3_append 26 = .ok (.invokevirtual 50, 3) := by decide +kernel
theorem dX3_append_29 : decode cX3_append 29 = .ok (.iinc 3 1, 3) := by decide +kernel
theorem dX3_append_32 : decode cX3_append 32 = .ok (.goto (-16), 3) := by decide +kernel
theorem dX3_append_35 : decode cX3_append 35 = .ok (.aload_n 0, 1) := by decide +kernel
theorem dX3_append_36 : decode cX3_append 36 = .ok (.iconst 0, 1) := by decide +kernel
theorem dX3_append_37 : decode cX3_append 37 = .ok (.putfield 28, 3) := by decide +kernel
theorem dX3_append_40 : decode cX3_append 40 = .ok (.aload_n 0, 1) := by decide +kernel
theorem dX3_append_41 : decode cX3_append 41 = .ok (.getfield 10, 3) := by decide +kernel
theorem dX3_append_44 : decode cX3_append 44 = .ok (.invokevirtual 54, 3) := by decide +kernel
theorem dX3_append_47 : decode cX3_append 47 = .ok (.ireturn, 1) := by decide +kernel
set_option maxRecDepth 20000 in
theorem ggX3_sumAsRead_X0_length : GoodIn wsX3_sumAsRead wsX0_length := goodIn_ca (goodIn_r _ [8, 9, 10, 11, 12, 13, 14, 15, 16, 17, 18, 19, 7, 20, 21, 22, 23, 24, 25, 26, 27, 28, 29, 30, 31, 32, 39, 40, 41] (by decide +kernel) (by decide +kernel)) (goodIn_sub (fun _ h => List.mem_cons_of_mem _ (List.mem_append_right _ h)) (by decide +kernel))
set_option maxRecDepth 20000 in
theorem gX3_sumAsRead_X0_length : GoodIn wsX3_sumAsRead (wsV RX3 170 RX0 yX0_length wsX0_length) := goodIn_app (goodIn_of _ (by decide +kernel)) ggX3_sumAsRead_X0_length
set_option maxRecDepth 20000 in
theorem ggX3_sumAsRead_X2_at : GoodIn wsX3_sumAsRead wsX2_at := goodIn_ca (goodIn_r _ [24, 15, 16, 40, 41] (by decide +kernel) (by decide +kernel)) (goodIn_sub (fun _ h => List.mem_cons_of_mem _ (List.mem_append_right _ h)) (by decide +kernel))
set_option maxRecDepth 20000 in
theorem gX3_sumAsRead_X2_at : GoodIn wsX3_sumAsRead (wsV RX3 60 RX2 yX2_at wsX2_at) := goodIn_app (goodIn_of _ (by decide +kernel)) ggX3_sumAsRead_X2_at
theorem dX3_sumAsRead_0 : decode cX3_sumAsRead 0 = .ok (.iconst 0, 1) := by decide +kernel
theorem dX3_sumAsRead_1 : decode cX3_sumAsRead 1 = .ok (.istore_n 1, 1) := by decide +kernel
theorem dX3_sumAsRead_2 : decode cX3_sumAsRead 2 = .ok (.aload_n 0, 1) := by decide +kernel
theorem dX3_sumAsRead_3 : decode cX3_sumAsRead 3 = .ok (.getfield 24, 3) := by decide +kernel
theorem dX3_sumAsRead_6 : decode cX3_sumAsRead 6 = .ok (.invokevirtual 170, 3) := by decide +kernel
theorem dX3_sumAsRead_9 : decode cX3_sumAsRead 9 = .ok (.istore_n 2, 1) := by decide +kernel
theorem dX3_sumAsRead_10 : decode cX3_sumAsRead 10 = .ok (.bipush 64, 2) := by decide +kernel
theorem dX3_sumAsRead_12 : decode cX3_sumAsRead 12 = .ok (.istore_n 3, 1) := by decide +kernel
theorem dX3_sumAsRead_13 : decode cX3_sumAsRead 13 = .ok (.iload_n 3, 1) := by decide +kernel
theorem dX3_sumAsRead_14 : decode cX3_sumAsRead 14 = .ok (.iload_n 2, 1) := by decide +kernel
theorem dX3_sumAsRead_15 : decode cX3_sumAsRead 15 = .ok (.if_icmp .ge 20, 3) := by decide +kernel
theorem dX3_sumAsRead_18 : decode cX3_sumAsRead 18 = .ok (.iload_n 1, 1) := by decide +kernel
theorem dX3_sumAsRead_19 : decode cX3_sumAsRead 19 = .ok (.aload_n 0, 1) := by decide +kernel
theorem dX3_sumAsRead_20 : decode cX3_sumAsRead 20 = .ok (.getfield 10, 3) := by decide +kernel
theorem dX3_sumAsRead_23 : decode cX3_sumAsRead 23 = .ok (.iload_n 3, 1) := by decide +kernel
theorem dX3_sumAsRead_24 : decode cX3_sumAsRead 24 = .ok (.invokevirtual 60, 3) := by decide +kernel
theorem dX3_sumAsRead_27 : decode cX3_sumAsRead 27 = .ok (.iadd, 1) := by decide +kernel
theorem dX3_sumAsRead_28 : decode cX3_sumAsRead 28 = .ok (.istore_n 1, 1) := by decide +kernel
theorem dX3_sumAsRead_29 : decode cX3_sumAsRead 29 = .ok (.iinc 3 1, 3) := by decide +kernel
theorem dX3_sumAsRead_32 : decode cX3_sumAsRead 32 = .ok (.goto (-19), 3) := by decide +kernel
theorem dX3_sumAsRead_35 : decode cX3_sumAsRead 35 = .ok (.iload_n 1, 1) := by decide +kernel
theorem dX3_sumAsRead_36 : decode cX3_sumAsRead 36 = .ok (.ldc 173, 2) := by decide +kernel
theorem dX3_sumAsRead_38 : decode cX3_sumAsRead 38 = .ok (.iand, 1) := by decide +kernel
theorem dX3_sumAsRead_39 : decode cX3_sumAsRead 39 = .ok (.ireturn, 1) := by decide +kernel
set_option maxRecDepth 20000 in
theorem ggX3_flagBit_X2_at : GoodIn wsX3_flagBit wsX2_at := goodIn_ca (goodIn_r _ [6, 7, 8, 18, 19] (by decide +kernel) (by decide +kernel)) (goodIn_sub (fun _ h => List.mem_cons_of_mem _ (List.mem_append_right _ h)) (by decide +kernel))
set_option maxRecDepth 20000 in
theorem gX3_flagBit_X2_at : GoodIn wsX3_flagBit (wsV RX3 60 RX2 yX2_at wsX2_at) := goodIn_app (goodIn_of _ (by decide +kernel)) ggX3_flagBit_X2_at
set_option maxRecDepth 20000 in
theorem ggX3_flagBit_X2_two : GoodIn wsX3_flagBit wsX2_two := goodIn_ca (goodIn_r _ [12, 7, 8, 18, 19] (by decide +kernel) (by decide +kernel)) (goodIn_sub (fun _ h => List.mem_cons_of_mem _ (List.mem_append_right _ h)) (by decide +kernel))
set_option maxRecDepth 20000 in
theorem gX3_flagBit_X2_two : GoodIn wsX3_flagBit (wsV RX3 98 RX2 yX2_two wsX2_two) := goodIn_app (goodIn_of _ (by decide +kernel)) ggX3_flagBit_X2_two
theorem dX3_flagBit_0 : decode cX3_flagBit 0 = .ok (.iload_n 1, 1) := by decide +kernel
theorem dX3_flagBit_1 : decode cX3_flagBit 1 = .ok (.iconst 1, 1) := by decide +kernel
theorem dX3_flagBit_2 : decode cX3_flagBit 2 = .ok (.if_icmp .ne 14, 3) := by decide +kernel
theorem dX3_flagBit_5 : decode cX3_flagBit 5 = .ok (.aload_n 0, 1) := by decide +kernel
theorem dX3_flagBit_6 : decode cX3_flagBit 6 = .ok (.getfield 16, 3) := by decide +kernel
theorem dX3_flagBit_9 : decode cX3_flagBit 9 = .ok (.iconst 1, 1) := by decide +kernel
theorem dX3_flagBit_10 : decode cX3_flagBit 10 = .ok (.invokevirtual 60, 3) := by decide +kernel
theorem dX3_flagBit_13 : decode cX3_flagBit 13 = .ok (.goto 12, 3) := by decide +kernel
theorem dX3_flagBit_16 : decode cX3_flagBit 16 = .ok (.aload_n 0, 1) := by decide +kernel
theorem dX3_flagBit_17 : decode cX3_flagBit 17 = .ok (.getfield 16, 3) := by decide +kernel
theorem dX3_flagBit_20 : decode cX3_flagBit 20 = .ok (.bipush 16, 2) := by decide +kernel
theorem dX3_flagBit_22 : decode cX3_flagBit 22 = .ok (.invokevirtual 98, 3) := by decide +kernel
theorem dX3_flagBit_25 : decode cX3_flagBit 25 = .ok (.istore_n 3, 1) := by decide +kernel
theorem dX3_flagBit_26 : decode cX3_flagBit 26 = .ok (.iload_n 3, 1) := by decide +kernel
theorem dX3_flagBit_27 : decode cX3_flagBit 27 = .ok (.iload_n 2, 1) := by decide +kernel
theorem dX3_flagBit_28 : decode cX3_flagBit 28 = .ok (.ishr, 1) := by decide +kernel
theorem dX3_flagBit_29 : decode cX3_flagBit 29 = .ok (.iconst 1, 1) := by decide +kernel
theorem dX3_flagBit_30 : decode cX3_flagBit 30 = .ok (.iand, 1) := by decide +kernel
theorem dX3_flagBit_31 : decode cX3_flagBit 31 = .ok (.ireturn, 1) := by decide +kernel
set_option maxRecDepth 20000 in
theorem ggX3_switchFlag_X2_at : GoodIn wsX3_switchFlag wsX2_at := goodIn_ca (goodIn_r _ [6, 7, 8, 31, 32] (by decide +kernel) (by decide +kernel)) (goodIn_sub (fun _ h => List.mem_cons_of_mem _ (List.mem_append_right _ h)) (by decide +kernel))
set_option maxRecDepth 20000 in
theorem gX3_switchFlag_X2_at : GoodIn wsX3_switchFlag (wsV RX3 60 RX2 yX2_at wsX2_at) := goodIn_app (goodIn_of _ (by decide +kernel)) ggX3_switchFlag_X2_at
set_option maxRecDepth 20000 in
theorem ggX3_switchFlag_X2_two : GoodIn wsX3_switchFlag wsX2_two := goodIn_ca (goodIn_r _ [12, 7, 8, 31, 32] (by decide +kernel) (by decide +kernel)) (goodIn_sub (fun _ h => List.mem_cons_of_mem _ (List.mem_append_right _ h)) (by decide +kernel))
set_option maxRecDepth 20000 in
theorem gX3_switchFlag_X2_two : GoodIn wsX3_switchFlag (wsV RX3 98 RX2 yX2_two wsX2_two) := goodIn_app (goodIn_of _ (by decide +kernel)) ggX3_switchFlag_X2_two
set_option maxRecDepth 20000 in
theorem ggX3_switchFlag_X2_put : GoodIn wsX3_switchFlag wsX2_put := goodIn_ca (goodIn_r _ [16, 8, 17, 18, 19, 5, 20, 7, 31, 32] (by decide +kernel) (by decide +kernel)) (goodIn_sub (fun _ h => List.mem_cons_of_mem _ (List.mem_append_right _ h)) (by decide +kernel))
set_option maxRecDepth 20000 in
theorem gX3_switchFlag_X2_put : GoodIn wsX3_switchFlag (wsV RX3 64 RX2 yX2_put wsX2_put) := goodIn_app (goodIn_of _ (by decide +kernel)) ggX3_switchFlag_X2_put
set_option maxRecDepth 20000 in
theorem ggX3_switchFlag_X2_putTwo : GoodIn wsX3_switchFlag wsX2_putTwo := goodIn_ca (goodIn_r _ [24, 25, 14, 15, 5, 16, 8, 17, 18, 19, 20, 7, 31, 32] (by decide +kernel) (by decide +kernel)) (goodIn_sub (fun _ h => List.mem_cons_of_mem _ (List.mem_append_right _ h)) (by decide +kernel))
set_option maxRecDepth 20000 in
theorem gX3_switchFlag_X2_putTwo : GoodIn wsX3_switchFlag (wsV RX3 148 RX2 yX2_putTwo wsX2_putTwo) := goodIn_app (goodIn_of _ (by decide +kernel)) ggX3_switchFlag_X2_putTwo
theorem dX3_switchFlag_0 : decode cX3_switchFlag 0 = .ok (.iload_n 1, 1) := by decide +kernel
theorem dX3_switchFlag_1 : decode cX3_switchFlag 1 = .ok (.iconst 1, 1) := by decide +kernel
theorem dX3_switchFlag_2 : decode cX3_switchFlag 2 = .ok (.if_icmp .ne 14, 3) := by decide +kernel
theorem dX3_switchFlag_5 : decode cX3_switchFlag 5 = .ok (.aload_n 0, 1) := by decide +kernel
theorem dX3_switchFlag_6 : decode cX3_switchFlag 6 = .ok (.getfield 16, 3) := by decide +kernel
theorem dX3_switchFlag_9 : decode cX3_switchFlag 9 = .ok (.iconst 1, 1) := by decide +kernel
theorem dX3_switchFlag_10 : decode cX3_switchFlag 10 = .ok (.invokevirtual 60, 3) := by decide +kernel
theorem dX3_switchFlag_13 : decode cX3_switchFlag 13 = .ok (.goto 12, 3) := by decide +kernel
theorem dX3_switchFlag_16 : decode cX3_switchFlag 16 = .ok (.aload_n 0, 1) := by decide +kernel
theorem dX3_switchFlag_17 : decode cX3_switchFlag 17 = .ok (.getfield 16, 3) := by decide +kernel
theorem dX3_switchFlag_20 : decode cX3_switchFlag 20 = .ok (.bipush 16, 2) := by decide +kernel
theorem dX3_switchFlag_22 : decode cX3_switchFlag 22 = .ok (.invokevirtual 98, 3) := by decide +kernel
theorem dX3_switchFlag_25 : decode cX3_switchFlag 25 = .ok (.istore 4, 2) := by decide +kernel
theorem dX3_switchFlag_27 : decode cX3_switchFlag 27 = .ok (.iload_n 3, 1) := by decide +kernel
theorem dX3_switchFlag_28 : decode cX3_switchFlag 28 = .ok (.ifCond .eq 12, 3) := by decide +kernel
theorem dX3_switchFlag_31 : decode cX3_switchFlag 31 = .ok (.iload 4, 2) := by decide +kernel
theorem dX3_switchFlag_33 : decode cX3_switchFlag 33 = .ok (.iconst 1, 1) := by decide +kernel
theorem dX3_switchFlag_34 : decode cX3_switchFlag 34 = .ok (.iload_n 2, 1) := by decide +kernel
theorem dX3_switchFlag_35 : decode cX3_switchFlag 35 = .ok (.ishl, 1) := by decide +kernel
theorem dX3_switchFlag_36 : decode cX3_switchFlag 36 = .ok (.ior, 1) := by decide +kernel
theorem dX3_switchFlag_37 : decode cX3_switchFlag 37 = .ok (.goto 11, 3) := by decide +kernel
theorem dX3_switchFlag_40 : decode cX3_switchFlag 40 = .ok (.iload 4, 2) := by decide +kernel
theorem dX3_switchFlag_42 : decode cX3_switchFlag 42 = .ok (.iconst 1, 1) := by decide +kernel
theorem dX3_switchFlag_43 : decode cX3_switchFlag 43 = .ok (.iload_n 2, 1) := by decide +kernel
theorem dX3_switchFlag_44 : decode cX3_switchFlag 44 = .ok (.ishl, 1) := by decide +kernel
theorem dX3_switchFlag_45 : decode cX3_switchFlag 45 = .ok (.iconst (-1), 1) := by decide +kernel
theorem dX3_switchFlag_46 : decode cX3_switchFlag 46 = .ok (.ixor, 1) := by decide +kernel
theorem dX3_switchFlag_47 : decode cX3_switchFlag 47 = .ok (.iand, 1) := by decide +kernel
theorem dX3_switchFlag_48 : decode cX3_switchFlag 48 = .ok (.istore 5, 2) := by decide +kernel
theorem dX3_switchFlag_50 : decode cX3_switchFlag 50 = .ok (.iload_n 1, 1) := by decide +kernel
theorem dX3_switchFlag_51 : decode cX3_switchFlag 51 = .ok (.iconst 1, 1) := by decide +kernel
theorem dX3_switchFlag_52 : decode cX3_switchFlag 52 = .ok (.if_icmp .ne 16, 3) := by decide +kernel
theorem dX3_switchFlag_55 : decode cX3_switchFlag 55 = .ok (.aload_n 0, 1) := by decide +kernel
theorem dX3_switchFlag_56 : decode cX3_switchFlag 56 = .ok (.getfield 16, 3) := by decide +kernel
theorem dX3_switchFlag_59 : decode cX3_switchFlag 59 = .ok (.iconst 1, 1) := by decide +kernel
theorem dX3_switchFlag_60 : decode cX3_switchFlag 60 = .ok (.iload 5, 2) := by decide +kernel
theorem dX3_switchFlag_62 : decode cX3_switchFlag 62 = .ok (.invokevirtual 64, 3) := by decide +kernel
theorem dX3_switchFlag_65 : decode cX3_switchFlag 65 = .ok (.goto 14, 3) := by decide +kernel
theorem dX3_switchFlag_68 : decode cX3_switchFlag 68 = .ok (.aload_n 0, 1) := by decide +kernel
theorem dX3_switchFlag_69 : decode cX3_switchFlag 69 = .ok (.getfield 16, 3) := by decide +kernel
theorem dX3_switchFlag_72 : decode cX3_switchFlag 72 = .ok (.bipush 16, 2) := by decide +kernel
theorem dX3_switchFlag_74 : decode cX3_switchFlag 74 = .ok (.iload 5, 2) := by decide +kernel
theorem dX3_switchFlag_76 : decode cX3_switchFlag 76 = .ok (.invokevirtual 148, 3) := by decide +kernel
theorem dX3_switchFlag_79 : decode cX3_switchFlag 79 = .ok (.return_, 1) := by decide +kernel
