theorem dX2_init_0 : decode cX2_init 0 = .ok (.aload_n 0, 1) := by decide +kernel
theorem dX2_init_1 : decode cX2_init 1 = .ok (.invokespecial 3, 3) := by decide +kernel
theorem dX2_init_4 : decode cX2_init 4 = .ok (.aload_n 0, 1) := by decide +kernel
theorem dX2_init_5 : decode cX2_init 5 = .ok (.sipush 600, 3) := by decide +kernel
theorem dX2_init_8 : decode cX2_init 8 = .ok (.newarray .int, 2) := by decide +kernel
theorem dX2_init_10 : decode cX2_init 10 = .ok (.putfield 9, 3) := by decide +kernel
theorem dX2_init_13 : decode cX2_init 13 = .ok (.aload_n 0, 1) := by decide +kernel
theorem dX2_init_14 : decode cX2_init 14 = .ok (.iconst 0, 1) := by decide +kernel
theorem dX2_init_15 : decode cX2_init 15 = .ok (.putfield 15, 3) := by decide +kernel
theorem dX2_init_18 : decode cX2_init 18 = .ok (.return_, 1) := by decide +kernel
theorem dX2_count_0 : decode cX2_count 0 = .ok (.aload_n 0, 1) := by decide +kernel
theorem dX2_count_1 : decode cX2_count 1 = .ok (.getfield 15, 3) := by decide +kernel
theorem dX2_count_4 : decode cX2_count 4 = .ok (.ireturn, 1) := by decide +kernel
theorem dX2_room_0 : decode cX2_room 0 = .ok (.sipush 600, 3) := by decide +kernel
theorem dX2_room_3 : decode cX2_room 3 = .ok (.aload_n 0, 1) := by decide +kernel
theorem dX2_room_4 : decode cX2_room 4 = .ok (.getfield 15, 3) := by decide +kernel
theorem dX2_room_7 : decode cX2_room 7 = .ok (.isub, 1) := by decide +kernel
theorem dX2_room_8 : decode cX2_room 8 = .ok (.ireturn, 1) := by decide +kernel
theorem dX2_has_0 : decode cX2_has 0 = .ok (.iload_n 1, 1) := by decide +kernel
theorem dX2_has_1 : decode cX2_has 1 = .ok (.ifCond .lt 24, 3) := by decide +kernel
theorem dX2_has_4 : decode cX2_has 4 = .ok (.iload_n 1, 1) := by decide +kernel
theorem dX2_has_5 : decode cX2_has 5 = .ok (.aload_n 0, 1) := by decide +kernel
theorem dX2_has_6 : decode cX2_has 6 = .ok (.getfield 15, 3) := by decide +kernel
theorem dX2_has_9 : decode cX2_has 9 = .ok (.if_icmp .ge 16, 3) := by decide +kernel
theorem dX2_has_12 : decode cX2_has 12 = .ok (.iload_n 1, 1) := by decide +kernel
theorem dX2_has_13 : decode cX2_has 13 = .ok (.aload_n 0, 1) := by decide +kernel
theorem dX2_has_14 : decode cX2_has 14 = .ok (.getfield 9, 3) := by decide +kernel
theorem dX2_has_17 : decode cX2_has 17 = .ok (.arraylength, 1) := by decide +kernel
theorem dX2_has_18 : decode cX2_has 18 = .ok (.if_icmp .ge 7, 3) := by decide +kernel
theorem dX2_has_21 : decode cX2_has 21 = .ok (.iconst 1, 1) := by decide +kernel
theorem dX2_has_22 : decode cX2_has 22 = .ok (.goto 4, 3) := by decide +kernel
theorem dX2_has_25 : decode cX2_has 25 = .ok (.iconst 0, 1) := by decide +kernel
theorem dX2_has_26 : decode cX2_has 26 = .ok (.ireturn, 1) := by decide +kernel
theorem dX2_at_0 : decode cX2_at 0 = .ok (.iload_n 1, 1) := by decide +kernel
theorem dX2_at_1 : decode cX2_at 1 = .ok (.ifCond .lt 29, 3) := by decide +kernel
theorem dX2_at_4 : decode cX2_at 4 = .ok (.iload_n 1, 1) := by decide +kernel
theorem dX2_at_5 : decode cX2_at 5 = .ok (.aload_n 0, 1) := by decide +kernel
theorem dX2_at_6 : decode cX2_at 6 = .ok (.getfield 15, 3) := by decide +kernel
theorem dX2_at_9 : decode cX2_at 9 = .ok (.if_icmp .ge 21, 3) := by decide +kernel
theorem dX2_at_12 : decode cX2_at 12 = .ok (.iload_n 1, 1) := by decide +kernel
theorem dX2_at_13 : decode cX2_at 13 = .ok (.aload_n 0, 1) := by decide +kernel
theorem dX2_at_14 : decode cX2_at 14 = .ok (.getfield 9, 3) := by decide +kernel
theorem dX2_at_17 : decode cX2_at 17 = .ok (.arraylength, 1) := by decide +kernel
theorem dX2_at_18 : decode cX2_at 18 = .ok (.if_icmp .ge 12, 3) := by decide +kernel
theorem dX2_at_21 : decode cX2_at 21 = .ok (.aload_n 0, 1) := by decide +kernel
theorem dX2_at_22 : decode cX2_at 22 = .ok (.getfield 9, 3) := by decide +kernel
theorem dX2_at_25 : decode cX2_at 25 = .ok (.iload_n 1, 1) := by decide +kernel
theorem dX2_at_26 : decode cX2_at 26 = .ok (.iaload, 1) := by decide +kernel
theorem dX2_at_27 : decode cX2_at 27 = .ok (.goto 4, 3) := by decide +kernel
theorem dX2_at_30 : decode cX2_at 30 = .ok (.iconst (-1), 1) := by decide +kernel
theorem dX2_at_31 : decode cX2_at 31 = .ok (.ireturn, 1) := by decide +kernel
theorem dX2_two_0 : decode cX2_two 0 = .ok (.iload_n 1, 1) := by decide +kernel
theorem dX2_two_1 : decode cX2_two 1 = .ok (.ifCond .lt 24, 3) := by decide +kernel
theorem dX2_two_4 : decode cX2_two 4 = .ok (.iload_n 1, 1) := by decide +kernel
theorem dX2_two_5 : decode cX2_two 5 = .ok (.aload_n 0, 1) := by decide +kernel
theorem dX2_two_6 : decode cX2_two 6 = .ok (.getfield 15, 3) := by decide +kernel
theorem dX2_two_9 : decode cX2_two 9 = .ok (.iconst 1, 1) := by decide +kernel
theorem dX2_two_10 : decode cX2_two 10 = .ok (.isub, 1) := by decide +kernel
theorem dX2_two_11 : decode cX2_two 11 = .ok (.if_icmp .ge 14, 3) := by decide +kernel
theorem dX2_two_14 : decode cX2_two 14 = .ok (.iload_n 1, 1) := by decide +kernel
theorem dX2_two_15 : decode cX2_two 15 = .ok (.aload_n 0, 1) := by decide +kernel
theorem dX2_two_16 : decode cX2_two 16 = .ok (.getfield 9, 3) := by decide +kernel
theorem dX2_two_19 : decode cX2_two 19 = .ok (.arraylength, 1) := by decide +kernel
theorem dX2_two_20 : decode cX2_two 20 = .ok (.iconst 1, 1) := by decide +kernel
theorem dX2_two_21 : decode cX2_two 21 = .ok (.isub, 1) := by decide +kernel
theorem dX2_two_22 : decode cX2_two 22 = .ok (.if_icmp .lt 5, 3) := by decide +kernel
theorem dX2_two_25 : decode cX2_two 25 = .ok (.iconst (-1), 1) := by decide +kernel
theorem dX2_two_26 : decode cX2_two 26 = .ok (.ireturn, 1) := by decide +kernel
theorem dX2_two_27 : decode cX2_two 27 = .ok (.aload_n 0, 1) := by decide +kernel
theorem dX2_two_28 : decode cX2_two 28 = .ok (.getfield 9, 3) := by decide +kernel
theorem dX2_two_31 : decode cX2_two 31 = .ok (.iload_n 1, 1) := by decide +kernel
theorem dX2_two_32 : decode cX2_two 32 = .ok (.iaload, 1) := by decide +kernel
theorem dX2_two_33 : decode cX2_two 33 = .ok (.sipush 256, 3) := by decide +kernel
theorem dX2_two_36 : decode cX2_two 36 = .ok (.imul, 1) := by decide +kernel
theorem dX2_two_37 : decode cX2_two 37 = .ok (.aload_n 0, 1) := by decide +kernel
theorem dX2_two_38 : decode cX2_two 38 = .ok (.getfield 9, 3) := by decide +kernel
theorem dX2_two_41 : decode cX2_two 41 = .ok (.iload_n 1, 1) := by decide +kernel
theorem dX2_two_42 : decode cX2_two 42 = .ok (.iconst 1, 1) := by decide +kernel
theorem dX2_two_43 : decode cX2_two 43 = .ok (.iadd, 1) := by decide +kernel
theorem dX2_two_44 : decode cX2_two 44 = .ok (.iaload, 1) := by decide +kernel
theorem dX2_two_45 : decode cX2_two 45 = .ok (.iadd, 1) := by decide +kernel
theorem dX2_two_46 : decode cX2_two 46 = .ok (.ireturn, 1) := by decide +kernel
set_option maxRecDepth 20000 in
theorem ggX2_put_X2_has : GoodIn wsX2_put wsX2_has := goodIn_r _ [6, 7, 1, 8, 9] (by decide +kernel) (by decide +kernel)
set_option maxRecDepth 20000 in
theorem gX2_put_X2_has : GoodIn wsX2_put (wsV RX2 19 RX2 yX2_has wsX2_has) := goodIn_app (goodIn_of _ (by decide +kernel)) ggX2_put_X2_has
theorem dX2_put_0 : decode cX2_put 0 = .ok (.aload_n 0, 1) := by decide +kernel
theorem dX2_put_1 : decode cX2_put 1 = .ok (.iload_n 1, 1) := by decide +kernel
theorem dX2_put_2 : decode cX2_put 2 = .ok (.invokevirtual 19, 3) := by decide +kernel
theorem dX2_put_5 : decode cX2_put 5 = .ok (.ifCond .eq 14, 3) := by decide +kernel
theorem dX2_put_8 : decode cX2_put 8 = .ok (.aload_n 0, 1) := by decide +kernel
theorem dX2_put_9 : decode cX2_put 9 = .ok (.getfield 9, 3) := by decide +kernel
theorem dX2_put_12 : decode cX2_put 12 = .ok (.iload_n 1, 1) := by decide +kernel
theorem dX2_put_13 : decode cX2_put 13 = .ok (.iload_n 2, 1) := by decide +kernel
theorem dX2_put_14 : decode cX2_put 14 = .ok (.sipush 255, 3) := by decide +kernel
theorem dX2_put_17 : decode cX2_put 17 = .ok (.iand, 1) := by decide +kernel
theorem dX2_put_18 : decode cX2_put 18 = .ok (.iastore, 1) := by decide +kernel
theorem dX2_put_19 : decode cX2_put 19 = .ok (.return_, 1) := by decide +kernel
set_option maxRecDepth 20000 in
theorem ggX2_putTwo_X2_put : GoodIn wsX2_putTwo wsX2_put := goodIn_ca (goodIn_r _ [5, 6, 7, 8, 9, 4, 10, 11, 12, 13] (by decide +kernel) (by decide +kernel)) (goodIn_sub (fun _ h => List.mem_cons_of_mem _ (List.mem_append_right _ h)) (by decide +kernel))
set_option maxRecDepth 20000 in
theorem gX2_putTwo_X2_put : GoodIn wsX2_putTwo (wsV RX2 23 RX2 yX2_put wsX2_put) := goodIn_app (goodIn_of _ (by decide +kernel)) ggX2_putTwo_X2_put
theorem dX2_putTwo_0 : decode cX2_putTwo 0 = .ok (.aload_n 0, 1) := by decide +kernel
theorem dX2_putTwo_1 : decode cX2_putTwo 1 = .ok (.iload_n 1, 1) := by decide +kernel
theorem dX2_putTwo_2 : decode cX2_putTwo 2 = .ok (.iload_n 2, 1) := by decide +kernel
theorem dX2_putTwo_3 : decode cX2_putTwo 3 = .ok (.bipush 8, 2) := by decide +kernel
theorem dX2_putTwo_5 : decode cX2_putTwo 5 = .ok (.ishr, 1) := by decide +kernel
theorem dX2_putTwo_6 : decode cX2_putTwo 6 = .ok (.invokevirtual 23, 3) := by decide +kernel
theorem dX2_putTwo_9 : decode cX2_putTwo 9 = .ok (.aload_n 0, 1) := by decide +kernel
theorem dX2_putTwo_10 : decode cX2_putTwo 10 = .ok (.iload_n 1, 1) := by decide +kernel
theorem dX2_putTwo_11 : decode cX2_putTwo 11 = .ok (.iconst 1, 1) := by decide +kernel
theorem dX2_putTwo_12 : decode cX2_putTwo 12 = .ok (.iadd, 1) := by decide +kernel
theorem dX2_putTwo_13 : decode cX2_putTwo 13 = .ok (.iload_n 2, 1) := by decide +kernel
theorem dX2_putTwo_14 : decode cX2_putTwo 14 = .ok (.invokevirtual 23, 3) := by decide +kernel
theorem dX2_putTwo_17 : decode cX2_putTwo 17 = .ok (.return_, 1) := by decide +kernel
theorem dX2_add_0 : decode cX2_add 0 = .ok (.aload_n 0, 1) := by decide +kernel
theorem dX2_add_1 : decode cX2_add 1 = .ok (.getfield 15, 3) := by decide +kernel
theorem dX2_add_4 : decode cX2_add 4 = .ok (.ifCond .lt 35, 3) := by decide +kernel
theorem dX2_add_7 : decode cX2_add 7 = .ok (.aload_n 0, 1) := by decide +kernel
theorem dX2_add_8 : decode cX2_add 8 = .ok (.getfield 15, 3) := by decide +kernel
theorem dX2_add_11 : decode cX2_add 11 = .ok (.aload_n 0, 1) := by decide +kernel
theorem dX2_add_12 : decode cX2_add 12 = .ok (.getfield 9, 3) := by decide +kernel
theorem dX2_add_15 : decode cX2_add 15 = .ok (.arraylength, 1) := by decide +kernel
theorem dX2_add_16 : decode cX2_add 16 = .ok (.if_icmp .ge 23, 3) := by decide +kernel
theorem dX2_add_19 : decode cX2_add 19 = .ok (.aload_n 0, 1) := by decide +kernel
theorem dX2_add_20 : decode cX2_add 20 = .ok (.getfield 9, 3) := by decide +kernel
theorem dX2_add_23 : decode cX2_add 23 = .ok (.aload_n 0, 1) := by decide +kernel
theorem dX2_add_24 : decode cX2_add 24 = .ok (.getfield 15, 3) := by decide +kernel
theorem dX2_add_27 : decode cX2_add 27 = .ok (.iload_n 1, 1) := by decide +kernel
theorem dX2_add_28 : decode cX2_add 28 = .ok (.iastore, 1) := by decide +kernel
theorem dX2_add_29 : decode cX2_add 29 = .ok (.aload_n 0, 1) := by decide +kernel
theorem dX2_add_30 : decode cX2_add 30 = .ok (.dup, 1) := by decide +kernel
theorem dX2_add_31 : decode cX2_add 31 = .ok (.getfield 15, 3) := by decide +kernel
theorem dX2_add_34 : decode cX2_add 34 = .ok (.iconst 1, 1) := by decide +kernel
theorem dX2_add_35 : decode cX2_add 35 = .ok (.iadd, 1) := by decide +kernel
theorem dX2_add_36 : decode cX2_add 36 = .ok (.putfield 15, 3) := by decide +kernel
theorem dX2_add_39 : decode cX2_add 39 = .ok (.return_, 1) := by decide +kernel
theorem dX2_empty_0 : decode cX2_empty 0 = .ok (.aload_n 0, 1) := by decide +kernel
theorem dX2_empty_1 : decode cX2_empty 1 = .ok (.iconst 0, 1) := by decide +kernel
theorem dX2_empty_2 : decode cX2_empty 2 = .ok (.putfield 15, 3) := by decide +kernel
theorem dX2_empty_5 : decode cX2_empty 5 = .ok (.return_, 1) := by decide +kernel
theorem dX2_copy_0 : decode cX2_copy 0 = .ok (.aload_n 1, 1) := by decide +kernel
theorem dX2_copy_1 : decode cX2_copy 1 = .ok (.ifnull 27, 3) := by decide +kernel
theorem dX2_copy_4 : decode cX2_copy 4 = .ok (.aload_n 1, 1) := by decide +kernel
theorem dX2_copy_5 : decode cX2_copy 5 = .ok (.getfield 9, 3) := by decide +kernel
theorem dX2_copy_8 : decode cX2_copy 8 = .ok (.iconst 0, 1) := by decide +kernel
theorem dX2_copy_9 : decode cX2_copy 9 = .ok (.aload_n 0, 1) := by decide +kernel
theorem dX2_copy_10 : decode cX2_copy 10 = .ok (.getfield 9, 3) := by decide +kernel
theorem dX2_copy_13 : decode cX2_copy 13 = .ok (.iconst 0, 1) := by decide +kernel
theorem dX2_copy_14 : decode cX2_copy 14 = .ok (.sipush 600, 3) := by decide +kernel
theorem dX2_copy_17 : decode cX2_copy 17 = .ok (.invokestatic 27, 3) := by decide +kernel
theorem dX2_copy_20 : decode cX2_copy 20 = .ok (.aload_n 0, 1) := by decide +kernel
theorem dX2_copy_21 : decode cX2_copy 21 = .ok (.aload_n 1, 1) := by decide +kernel
theorem dX2_copy_22 : decode cX2_copy 22 = .ok (.getfield 15, 3) := by decide +kernel
theorem dX2_copy_25 : decode cX2_copy 25 = .ok (.putfield 15, 3) := by decide +kernel
theorem dX2_copy_28 : decode cX2_copy 28 = .ok (.return_, 1) := by decide +kernel
