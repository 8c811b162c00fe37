theorem dX4_init_0 : decode cX4_init 0 = .ok (.aload_n 0, 1) := by decide +kernel
theorem dX4_init_1 : decode cX4_init 1 = .ok (.invokespecial 1, 3) := by decide +kernel
theorem dX4_init_4 : decode cX4_init 4 = .ok (.aload_n 0, 1) := by decide +kernel
theorem dX4_init_5 : decode cX4_init 5 = .ok (.sipush 600, 3) := by decide +kernel
theorem dX4_init_8 : decode cX4_init 8 = .ok (.newarray .int, 2) := by decide +kernel
theorem dX4_init_10 : decode cX4_init 10 = .ok (.putfield 7, 3) := by decide +kernel
theorem dX4_init_13 : decode cX4_init 13 = .ok (.aload_n 0, 1) := by decide +kernel
theorem dX4_init_14 : decode cX4_init 14 = .ok (.sipush 600, 3) := by decide +kernel
theorem dX4_init_17 : decode cX4_init 17 = .ok (.newarray .int, 2) := by decide +kernel
theorem dX4_init_19 : decode cX4_init 19 = .ok (.putfield 13, 3) := by decide +kernel
theorem dX4_init_22 : decode cX4_init 22 = .ok (.aload_n 0, 1) := by decide +kernel
theorem dX4_init_23 : decode cX4_init 23 = .ok (.sipush 600, 3) := by decide +kernel
theorem dX4_init_26 : decode cX4_init 26 = .ok (.newarray .int, 2) := by decide +kernel
theorem dX4_init_28 : decode cX4_init 28 = .ok (.putfield 16, 3) := by decide +kernel
theorem dX4_init_31 : decode cX4_init 31 = .ok (.return_, 1) := by decide +kernel
theorem dX4_thrown_0 : decode cX4_thrown 0 = .ok (.aload_n 0, 1) := by decide +kernel
theorem dX4_thrown_1 : decode cX4_thrown 1 = .ok (.getfield 19, 3) := by decide +kernel
theorem dX4_thrown_4 : decode cX4_thrown 4 = .ok (.ireturn, 1) := by decide +kernel
theorem dX4_in_0 : decode cX4_in 0 = .ok (.iload_n 0, 1) := by decide +kernel
theorem dX4_in_1 : decode cX4_in 1 = .ok (.iload_n 1, 1) := by decide +kernel
theorem dX4_in_2 : decode cX4_in 2 = .ok (.if_icmp .lt 12, 3) := by decide +kernel
theorem dX4_in_5 : decode cX4_in 5 = .ok (.iload_n 0, 1) := by decide +kernel
theorem dX4_in_6 : decode cX4_in 6 = .ok (.iload_n 2, 1) := by decide +kernel
theorem dX4_in_7 : decode cX4_in 7 = .ok (.if_icmp .gt 7, 3) := by decide +kernel
theorem dX4_in_10 : decode cX4_in 10 = .ok (.iconst 1, 1) := by decide +kernel
theorem dX4_in_11 : decode cX4_in 11 = .ok (.goto 4, 3) := by decide +kernel
theorem dX4_in_14 : decode cX4_in 14 = .ok (.iconst 0, 1) := by decide +kernel
theorem dX4_in_15 : decode cX4_in 15 = .ok (.ireturn, 1) := by decide +kernel
set_option maxRecDepth 20000 in
theorem ggX4_octet_X4_fill : GoodIn wsX4_octet wsX4_fill := goodIn_ca (goodIn_r _ [5, 6, 7, 8, 9, 10, 11, 4, 12, 13, 14, 15, 16, 17, 18, 19, 20, 21] (by decide +kernel) (by decide +kernel)) (goodIn_sub (fun _ h => List.mem_cons_of_mem _ (List.mem_append_right _ h)) (by decide +kernel))
set_option maxRecDepth 20000 in
theorem gX4_octet_X4_fill : GoodIn wsX4_octet (wsV RX4 23 RX4 yX4_fill wsX4_fill) := goodIn_app (goodIn_of _ (by decide +kernel)) ggX4_octet_X4_fill
theorem dX4_octet_0 : decode cX4_octet 0 = .ok (.aload_n 0, 1) := by decide +kernel
theorem dX4_octet_1 : decode cX4_octet 1 = .ok (.iconst 1, 1) := by decide +kernel
theorem dX4_octet_2 : decode cX4_octet 2 = .ok (.iload_n 1, 1) := by decide +kernel
theorem dX4_octet_3 : decode cX4_octet 3 = .ok (.invokevirtual 23, 3) := by decide +kernel
theorem dX4_octet_6 : decode cX4_octet 6 = .ok (.ireturn, 1) := by decide +kernel
set_option maxRecDepth 20000 in
theorem ggX4_feed_X4_in : GoodIn wsX4_feed wsX4_in := goodIn_r _ [9] (by decide +kernel) (by decide +kernel)
set_option maxRecDepth 20000 in
theorem gX4_feed_X4_in : GoodIn wsX4_feed (va_wsS RX4 27 yX4_in wsX4_in) := goodIn_app (goodIn_of _ (by decide +kernel)) ggX4_feed_X4_in
theorem dX4_feed_0 : decode cX4_feed 0 = .ok (.aload_n 0, 1) := by decide +kernel
theorem dX4_feed_1 : decode cX4_feed 1 = .ok (.iconst 0, 1) := by decide +kernel
theorem dX4_feed_2 : decode cX4_feed 2 = .ok (.putfield 19, 3) := by decide +kernel
theorem dX4_feed_5 : decode cX4_feed 5 = .ok (.iload_n 3, 1) := by decide +kernel
theorem dX4_feed_6 : decode cX4_feed 6 = .ok (.iconst 1, 1) := by decide +kernel
theorem dX4_feed_7 : decode cX4_feed 7 = .ok (.bipush 8, 2) := by decide +kernel
theorem dX4_feed_9 : decode cX4_feed 9 = .ok (.invokestatic 27, 3) := by decide +kernel
theorem dX4_feed_12 : decode cX4_feed 12 = .ok (.ifCond .ne 6, 3) := by decide +kernel
theorem dX4_feed_15 : decode cX4_feed 15 = .ok (.bipush (-12), 2) := by decide +kernel
theorem dX4_feed_17 : decode cX4_feed 17 = .ok (.ireturn, 1) := by decide +kernel
theorem dX4_feed_18 : decode cX4_feed 18 = .ok (.aload_n 0, 1) := by decide +kernel
theorem dX4_feed_19 : decode cX4_feed 19 = .ok (.getfield 31, 3) := by decide +kernel
theorem dX4_feed_22 : decode cX4_feed 22 = .ok (.iload_n 3, 1) := by decide +kernel
theorem dX4_feed_23 : decode cX4_feed 23 = .ok (.iadd, 1) := by decide +kernel
theorem dX4_feed_24 : decode cX4_feed 24 = .ok (.sipush 600, 3) := by decide +kernel
theorem dX4_feed_27 : decode cX4_feed 27 = .ok (.if_icmp .le 6, 3) := by decide +kernel
theorem dX4_feed_30 : decode cX4_feed 30 = .ok (.bipush (-14), 2) := by decide +kernel
theorem dX4_feed_32 : decode cX4_feed 32 = .ok (.ireturn, 1) := by decide +kernel
theorem dX4_feed_33 : decode cX4_feed 33 = .ok (.iload_n 3, 1) := by decide +kernel
theorem dX4_feed_34 : decode cX4_feed 34 = .ok (.iconst 1, 1) := by decide +kernel
theorem dX4_feed_35 : decode cX4_feed 35 = .ok (.isub, 1) := by decide +kernel
theorem dX4_feed_36 : decode cX4_feed 36 = .ok (.istore 4, 2) := by decide +kernel
theorem dX4_feed_38 : decode cX4_feed 38 = .ok (.iload 4, 2) := by decide +kernel
theorem dX4_feed_40 : decode cX4_feed 40 = .ok (.ifCond .lt 40, 3) := by decide +kernel
theorem dX4_feed_43 : decode cX4_feed 43 = .ok (.aload_n 0, 1) := by decide +kernel
theorem dX4_feed_44 : decode cX4_feed 44 = .ok (.getfield 7, 3) := by decide +kernel
theorem dX4_feed_47 : decode cX4_feed 47 = .ok (.aload_n 0, 1) := by decide +kernel
theorem dX4_feed_48 : decode cX4_feed 48 = .ok (.getfield 31, 3) := by decide +kernel
theorem dX4_feed_51 : decode cX4_feed 51 = .ok (.lload_n 1, 1) := by decide +kernel
theorem dX4_feed_52 : decode cX4_feed 52 = .ok (.bipush 8, 2) := by decide +kernel
theorem dX4_feed_54 : decode cX4_feed 54 = .ok (.iload 4, 2) := by decide +kernel
theorem dX4_feed_56 : decode cX4_feed 56 = .ok (.imul, 1) := by decide +kernel
theorem dX4_feed_57 : decode cX4_feed 57 = .ok (.lshr, 1) := by decide +kernel
theorem dX4_feed_58 : decode cX4_feed 58 = .ok (.ldc2_w 34, 3) := by decide +kernel
theorem dX4_feed_61 : decode cX4_feed 61 = .ok (.land, 1) := by decide +kernel
theorem dX4_feed_62 : decode cX4_feed 62 = .ok (.l2i, 1) := by decide +kernel
theorem dX4_feed_63 : decode cX4_feed 63 = .ok (.iastore, 1) := by decide +kernel
theorem dX4_feed_64 : decode cX4_feed 64 = .ok (.aload_n 0, 1) := by decide +kernel
theorem dX4_feed_65 : decode cX4_feed 65 = .ok (.dup, 1) := by decide +kernel
theorem dX4_feed_66 : decode cX4_feed 66 = .ok (.getfield 31, 3) := by decide +kernel
theorem dX4_feed_69 : decode cX4_feed 69 = .ok (.iconst 1, 1) := by decide +kernel
theorem dX4_feed_70 : decode cX4_feed 70 = .ok (.iadd, 1) := by decide +kernel
theorem dX4_feed_71 : decode cX4_feed 71 = .ok (.putfield 31, 3) := by decide +kernel
theorem dX4_feed_74 : decode cX4_feed 74 = .ok (.iinc 4 (-1), 3) := by decide +kernel
theorem dX4_feed_77 : decode cX4_feed 77 = .ok (.goto (-39), 3) := by decide +kernel
theorem dX4_feed_80 : decode cX4_feed 80 = .ok (.aload_n 0, 1) := by decide +kernel
theorem dX4_feed_81 : decode cX4_feed 81 = .ok (.iconst 0, 1) := by decide +kernel
theorem dX4_feed_82 : decode cX4_feed 82 = .ok (.putfield 36, 3) := by decide +kernel
theorem dX4_feed_85 : decode cX4_feed 85 = .ok (.aload_n 0, 1) := by decide +kernel
theorem dX4_feed_86 : decode cX4_feed 86 = .ok (.getfield 31, 3) := by decide +kernel
theorem dX4_feed_89 : decode cX4_feed 89 = .ok (.ireturn, 1) := by decide +kernel
set_option maxRecDepth 20000 in
theorem ggX4_fill_X4_in : GoodIn wsX4_fill wsX4_in := goodIn_r _ [8] (by decide +kernel) (by decide +kernel)
set_option maxRecDepth 20000 in
theorem gX4_fill_X4_in : GoodIn wsX4_fill (va_wsS RX4 27 yX4_in wsX4_in) := goodIn_app (goodIn_of _ (by decide +kernel)) ggX4_fill_X4_in
theorem dX4_fill_0 : decode cX4_fill 0 = .ok (.aload_n 0, 1) := by decide +kernel
theorem dX4_fill_1 : decode cX4_fill 1 = .ok (.iconst 0, 1) := by decide +kernel
theorem dX4_fill_2 : decode cX4_fill 2 = .ok (.putfield 19, 3) := by decide +kernel
theorem dX4_fill_5 : decode cX4_fill 5 = .ok (.iload_n 1, 1) := by decide +kernel
theorem dX4_fill_6 : decode cX4_fill 6 = .ok (.iconst 1, 1) := by decide +kernel
theorem dX4_fill_7 : decode cX4_fill 7 = .ok (.sipush 600, 3) := by decide +kernel
theorem dX4_fill_10 : decode cX4_fill 10 = .ok (.invokestatic 27, 3) := by decide +kernel
theorem dX4_fill_13 : decode cX4_fill 13 = .ok (.ifCond .eq 14, 3) := by decide +kernel
theorem dX4_fill_16 : decode cX4_fill 16 = .ok (.iload_n 2, 1) := by decide +kernel
theorem dX4_fill_17 : decode cX4_fill 17 = .ok (.iconst 0, 1) := by decide +kernel
theorem dX4_fill_18 : decode cX4_fill 18 = .ok (.sipush 255, 3) := by decide +kernel
theorem dX4_fill_21 : decode cX4_fill 21 = .ok (.invokestatic 27, 3) := by decide +kernel
theorem dX4_fill_24 : decode cX4_fill 24 = .ok (.ifCond .ne 6, 3) := by decide +kernel
theorem dX4_fill_27 : decode cX4_fill 27 = .ok (.bipush (-12), 2) := by decide +kernel
theorem dX4_fill_29 : decode cX4_fill 29 = .ok (.ireturn, 1) := by decide +kernel
theorem dX4_fill_30 : decode cX4_fill 30 = .ok (.aload_n 0, 1) := by decide +kernel
theorem dX4_fill_31 : decode cX4_fill 31 = .ok (.getfield 31, 3) := by decide +kernel
theorem dX4_fill_34 : decode cX4_fill 34 = .ok (.iload_n 1, 1) := by decide +kernel
theorem dX4_fill_35 : decode cX4_fill 35 = .ok (.iadd, 1) := by decide +kernel
theorem dX4_fill_36 : decode cX4_fill 36 = .ok (.sipush 600, 3) := by decide +kernel
theorem dX4_fill_39 : decode cX4_fill 39 = .ok (.if_icmp .le 6, 3) := by decide +kernel
theorem dX4_fill_42 : decode cX4_fill 42 = .ok (.bipush (-14), 2) := by decide +kernel
theorem dX4_fill_44 : decode cX4_fill 44 = .ok (.ireturn, 1) := by decide +kernel
theorem dX4_fill_45 : decode cX4_fill 45 = .ok (.iconst 0, 1) := by decide +kernel
theorem dX4_fill_46 : decode cX4_fill 46 = .ok (.istore_n 3, 1) := by decide +kernel
theorem dX4_fill_47 : decode cX4_fill 47 = .ok (.iload_n 3, 1) := by decide +kernel
theorem dX4_fill_48 : decode cX4_fill 48 = .ok (.iload_n 1, 1) := by decide +kernel
theorem dX4_fill_49 : decode cX4_fill 49 = .ok (.if_icmp .ge 29, 3) := by decide +kernel
theorem dX4_fill_52 : decode cX4_fill 52 = .ok (.aload_n 0, 1) := by decide +kernel
theorem dX4_fill_53 : decode cX4_fill 53 = .ok (.getfield 7, 3) := by decide +kernel
theorem dX4_fill_56 : decode cX4_fill 56 = .ok (.aload_n 0, 1) := by decide +kernel
theorem dX4_fill_57 : decode cX4_fill 57 = .ok (.getfield 31, 3) := by decide +kernel
theorem dX4_fill_60 : decode cX4_fill 60 = .ok (.iload_n 2, 1) := by decide +kernel
theorem dX4_fill_61 : decode cX4_fill 61 = .ok (.iastore, 1) := by decide +kernel
theorem dX4_fill_62 : decode cX4_fill 62 = .ok (.aload_n 0, 1) := by decide +kernel
theorem dX4_fill_63 : decode cX4_fill 63 = .ok (.dup, 1) := by decide +kernel
theorem dX4_fill_64 : decode cX4_fill 64 = .ok (.getfield 31, 3) := by decide +kernel
theorem dX4_fill_67 : decode cX4_fill 67 = .ok (.iconst 1, 1) := by decide +kernel
theorem dX4_fill_68 : decode cX4_fill 68 = .ok (.iadd, 1) := by decide +kernel
theorem dX4_fill_69 : decode cX4_fill 69 = .ok (.putfield 31, 3) := by decide +kernel
theorem dX4_fill_72 : decode cX4_fill 72 = .ok (.iinc 3 1, 3) := by decide +kernel
theorem dX4_fill_75 : decode cX4_fill 75 = .ok (.goto (-28), 3) := by decide +kernel
theorem dX4_fill_78 : decode cX4_fill 78 = .ok (.aload_n 0, 1) := by decide +kernel
theorem dX4_fill_79 : decode cX4_fill 79 = .ok (.iconst 0, 1) := by decide +kernel
theorem dX4_fill_80 : decode cX4_fill 80 = .ok (.putfield 36, 3) := by decide +kernel
theorem dX4_fill_83 : decode cX4_fill 83 = .ok (.aload_n 0, 1) := by decide +kernel
theorem dX4_fill_84 : decode cX4_fill 84 = .ok (.getfield 31, 3) := by decide +kernel
theorem dX4_fill_87 : decode cX4_fill 87 = .ok (.ireturn, 1) := by decide +kernel
set_option maxRecDepth 20000 in
theorem ggX4_poke_X4_in : GoodIn wsX4_poke wsX4_in := goodIn_r _ [8] (by decide +kernel) (by decide +kernel)
set_option maxRecDepth 20000 in
theorem gX4_poke_X4_in : GoodIn wsX4_poke (va_wsS RX4 27 yX4_in wsX4_in) := goodIn_app (goodIn_of _ (by decide +kernel)) ggX4_poke_X4_in
theorem dX4_poke_0 : decode cX4_poke 0 = .ok (.aload_n 0, 1) := by decide +kernel
theorem dX4_poke_1 : decode cX4_poke 1 = .ok (.iconst 0, 1) := by decide +kernel
theorem dX4_poke_2 : decode cX4_poke 2 = .ok (.putfield 19, 3) := by decide +kernel
theorem dX4_poke_5 : decode cX4_poke 5 = .ok (.iload_n 1, 1) := by decide +kernel
theorem dX4_poke_6 : decode cX4_poke 6 = .ok (.iconst 0, 1) := by decide +kernel
theorem dX4_poke_7 : decode cX4_poke 7 = .ok (.aload_n 0, 1) := by decide +kernel
theorem dX4_poke_8 : decode cX4_poke 8 = .ok (.getfield 31, 3) := by decide +kernel
theorem dX4_poke_11 : decode cX4_poke 11 = .ok (.iconst 1, 1) := by decide +kernel
theorem dX4_poke_12 : decode cX4_poke 12 = .ok (.isub, 1) := by decide +kernel
theorem dX4_poke_13 : decode cX4_poke 13 = .ok (.invokestatic 27, 3) := by decide +kernel
theorem dX4_poke_16 : decode cX4_poke 16 = .ok (.ifCond .eq 14, 3) := by decide +kernel
theorem dX4_poke_19 : decode cX4_poke 19 = .ok (.iload_n 2, 1) := by decide +kernel
theorem dX4_poke_20 : decode cX4_poke 20 = .ok (.iconst 0, 1) := by decide +kernel
theorem dX4_poke_21 : decode cX4_poke 21 = .ok (.sipush 255, 3) := by decide +kernel
theorem dX4_poke_24 : decode cX4_poke 24 = .ok (.invokestatic 27, 3) := by decide +kernel
theorem dX4_poke_27 : decode cX4_poke 27 = .ok (.ifCond .ne 6, 3) := by decide +kernel
theorem dX4_poke_30 : decode cX4_poke 30 = .ok (.bipush (-12), 2) := by decide +kernel
theorem dX4_poke_32 : decode cX4_poke 32 = .ok (.ireturn, 1) := by decide +kernel
theorem dX4_poke_33 : decode cX4_poke 33 = .ok (.aload_n 0, 1) := by decide +kernel
theorem dX4_poke_34 : decode cX4_poke 34 = .ok (.getfield 7, 3) := by decide +kernel
theorem dX4_poke_37 : decode cX4_poke 37 = .ok (.iload_n 1, 1) := by decide +kernel
theorem dX4_poke_38 : decode cX4_poke 38 = .ok (.iaload, 1) := by decide +kernel
theorem dX4_poke_39 : decode cX4_poke 39 = .ok (.istore_n 3, 1) := by decide +kernel
theorem dX4_poke_40 : decode cX4_poke 40 = .ok (.aload_n 0, 1) := by decide +kernel
theorem dX4_poke_41 : decode cX4_poke 41 = .ok (.getfield 7, 3) := by decide +kernel
theorem dX4_poke_44 : decode cX4_poke 44 = .ok (.iload_n 1, 1) := by decide +kernel
theorem dX4_poke_45 : decode cX4_poke 45 = .ok (.iload_n 2, 1) := by decide +kernel
theorem dX4_poke_46 : decode cX4_poke 46 = .ok (.iastore, 1) := by decide +kernel
theorem dX4_poke_47 : decode cX4_poke 47 = .ok (.aload_n 0, 1) := by decide +kernel
theorem dX4_poke_48 : decode cX4_poke 48 = .ok (.iconst 0, 1) := by decide +kernel
theorem dX4_poke_49 : decode cX4_poke 49 = .ok (.putfield 36, 3) := by decide +kernel
theorem dX4_poke_52 : decode cX4_poke 52 = .ok (.iload_n 3, 1) := by decide +kernel
theorem dX4_poke_53 : decode cX4_poke 53 = .ok (.ireturn, 1) := by decide +kernel
theorem dX4_clear_0 : decode cX4_clear 0 = .ok (.aload_n 0, 1) := by decide +kernel
theorem dX4_clear_1 : decode cX4_clear 1 = .ok (.iconst 0, 1) := by decide +kernel
theorem dX4_clear_2 : decode cX4_clear 2 = .ok (.putfield 19, 3) := by decide +kernel
theorem dX4_clear_5 : decode cX4_clear 5 = .ok (.aload_n 0, 1) := by decide +kernel
theorem dX4_clear_6 : decode cX4_clear 6 = .ok (.getfield 31, 3) := by decide +kernel
theorem dX4_clear_9 : decode cX4_clear 9 = .ok (.istore_n 1, 1) := by decide +kernel
theorem dX4_clear_10 : decode cX4_clear 10 = .ok (.aload_n 0, 1) := by decide +kernel
theorem dX4_clear_11 : decode cX4_clear 11 = .ok (.iconst 0, 1) := by decide +kernel
theorem dX4_clear_12 : decode cX4_clear 12 = .ok (.putfield 31, 3) := by decide +kernel
theorem dX4_clear_15 : decode cX4_clear 15 = .ok (.aload_n 0, 1) := by decide +kernel
theorem dX4_clear_16 : decode cX4_clear 16 = .ok (.iconst 0, 1) := by decide +kernel
theorem dX4_clear_17 : decode cX4_clear 17 = .ok (.putfield 36, 3) := by decide +kernel
theorem dX4_clear_20 : decode cX4_clear 20 = .ok (.aload_n 0, 1) := by decide +kernel
theorem dX4_clear_21 : decode cX4_clear 21 = .ok (.iconst 0, 1) := by decide +kernel
theorem dX4_clear_22 : decode cX4_clear 22 = .ok (.putfield 40, 3) := by decide +kernel
theorem dX4_clear_25 : decode cX4_clear 25 = .ok (.iload_n 1, 1) := by decide +kernel
theorem dX4_clear_26 : decode cX4_clear 26 = .ok (.ireturn, 1) := by decide +kernel
theorem dX4_size_0 : decode cX4_size 0 = .ok (.aload_n 0, 1) := by decide +kernel
theorem dX4_size_1 : decode cX4_size 1 = .ok (.iconst 0, 1) := by decide +kernel
theorem dX4_size_2 : decode cX4_size 2 = .ok (.putfield 19, 3) := by decide +kernel
theorem dX4_size_5 : decode cX4_size 5 = .ok (.aload_n 0, 1) := by decide +kernel
theorem dX4_size_6 : decode cX4_size 6 = .ok (.getfield 31, 3) := by decide +kernel
theorem dX4_size_9 : decode cX4_size 9 = .ok (.ireturn, 1) := by decide +kernel
theorem dX4_isThere_0 : decode cX4_isThere 0 = .ok (.iload_n 1, 1) := by decide +kernel
theorem dX4_isThere_1 : decode cX4_isThere 1 = .ok (.aload_n 0, 1) := by decide +kernel
theorem dX4_isThere_2 : decode cX4_isThere 2 = .ok (.getfield 31, 3) := by decide +kernel
theorem dX4_isThere_5 : decode cX4_isThere 5 = .ok (.if_icmp .ge 7, 3) := by decide +kernel
theorem dX4_isThere_8 : decode cX4_isThere 8 = .ok (.iconst 1, 1) := by decide +kernel
theorem dX4_isThere_9 : decode cX4_isThere 9 = .ok (.goto 4, 3) := by decide +kernel
theorem dX4_isThere_12 : decode cX4_isThere 12 = .ok (.iconst 0, 1) := by decide +kernel
theorem dX4_isThere_13 : decode cX4_isThere 13 = .ok (.ireturn, 1) := by decide +kernel
theorem dX4_two_0 : decode cX4_two 0 = .ok (.sipush 256, 3) := by decide +kernel
theorem dX4_two_3 : decode cX4_two 3 = .ok (.aload_n 0, 1) := by decide +kernel
theorem dX4_two_4 : decode cX4_two 4 = .ok (.getfield 7, 3) := by decide +kernel
theorem dX4_two_7 : decode cX4_two 7 = .ok (.iload_n 1, 1) := by decide +kernel
theorem dX4_two_8 : decode cX4_two 8 = .ok (.iaload, 1) := by decide +kernel
theorem dX4_two_9 : decode cX4_two 9 = .ok (.imul, 1) := by decide +kernel
theorem dX4_two_10 : decode cX4_two 10 = .ok (.aload_n 0, 1) := by decide +kernel
theorem dX4_two_11 : decode cX4_two 11 = .ok (.getfield 7, 3) := by decide +kernel
theorem dX4_two_14 : decode cX4_two 14 = .ok (.iload_n 1, 1) := by decide +kernel
theorem dX4_two_15 : decode cX4_two 15 = .ok (.iconst 1, 1) := by decide +kernel
theorem dX4_two_16 : decode cX4_two 16 = .ok (.iadd, 1) := by decide +kernel
theorem dX4_two_17 : decode cX4_two 17 = .ok (.iaload, 1) := by decide +kernel
theorem dX4_two_18 : decode cX4_two 18 = .ok (.iadd, 1) := by decide +kernel
theorem dX4_two_19 : decode cX4_two 19 = .ok (.ireturn, 1) := by decide +kernel
theorem dX4_brokenAt_0 : decode cX4_brokenAt 0 = .ok (.aload_n 0, 1) := by decide +kernel
theorem dX4_brokenAt_1 : decode cX4_brokenAt 1 = .ok (.iload_n 1, 1) := by decide +kernel
theorem dX4_brokenAt_2 : decode cX4_brokenAt 2 = .ok (.putfield 40, 3) := by decide +kernel
theorem dX4_brokenAt_5 : decode cX4_brokenAt 5 = .ok (.bipush (-20), 2) := by decide +kernel
theorem dX4_brokenAt_7 : decode cX4_brokenAt 7 = .ok (.iload_n 2, 1) := by decide +kernel
theorem dX4_brokenAt_8 : decode cX4_brokenAt 8 = .ok (.isub, 1) := by decide +kernel
theorem dX4_brokenAt_9 : decode cX4_brokenAt 9 = .ok (.ireturn, 1) := by decide +kernel
theorem dX4_scaleOf_0 : decode cX4_scaleOf 0 = .ok (.iload_n 0, 1) := by decide +kernel
theorem dX4_scaleOf_1 : decode cX4_scaleOf 1 = .ok (.iconst 4, 1) := by decide +kernel
theorem dX4_scaleOf_2 : decode cX4_scaleOf 2 = .ok (.if_icmp .ge 7, 3) := by decide +kernel
theorem dX4_scaleOf_5 : decode cX4_scaleOf 5 = .ok (.iconst 2, 1) := by decide +kernel
theorem dX4_scaleOf_6 : decode cX4_scaleOf 6 = .ok (.goto 15, 3) := by decide +kernel
theorem dX4_scaleOf_9 : decode cX4_scaleOf 9 = .ok (.iload_n 0, 1) := by decide +kernel
theorem dX4_scaleOf_10 : decode cX4_scaleOf 10 = .ok (.bipush 6, 2) := by decide +kernel
theorem dX4_scaleOf_12 : decode cX4_scaleOf 12 = .ok (.if_icmp .ge 7, 3) := by decide +kernel
theorem dX4_scaleOf_15 : decode cX4_scaleOf 15 = .ok (.iconst 4, 1) := by decide +kernel
theorem dX4_scaleOf_16 : decode cX4_scaleOf 16 = .ok (.goto 5, 3) := by decide +kernel
theorem dX4_scaleOf_19 : decode cX4_scaleOf 19 = .ok (.bipush 8, 2) := by decide +kernel
theorem dX4_scaleOf_21 : decode cX4_scaleOf 21 = .ok (.ireturn, 1) := by decide +kernel
theorem dX4_fits_0 : decode cX4_fits 0 = .ok (.iload_n 0, 1) := by decide +kernel
theorem dX4_fits_1 : decode cX4_fits 1 = .ok (.bipush 64, 2) := by decide +kernel
theorem dX4_fits_3 : decode cX4_fits 3 = .ok (.if_icmp .lt 14, 3) := by decide +kernel
theorem dX4_fits_6 : decode cX4_fits 6 = .ok (.iload_n 0, 1) := by decide +kernel
theorem dX4_fits_7 : decode cX4_fits 7 = .ok (.iload_n 1, 1) := by decide +kernel
theorem dX4_fits_8 : decode cX4_fits 8 = .ok (.iadd, 1) := by decide +kernel
theorem dX4_fits_9 : decode cX4_fits 9 = .ok (.iload_n 2, 1) := by decide +kernel
theorem dX4_fits_10 : decode cX4_fits 10 = .ok (.if_icmp .gt 7, 3) := by decide +kernel
theorem dX4_fits_13 : decode cX4_fits 13 = .ok (.iconst 1, 1) := by decide +kernel
theorem dX4_fits_14 : decode cX4_fits 14 = .ok (.goto 4, 3) := by decide +kernel
theorem dX4_fits_17 : decode cX4_fits 17 = .ok (.iconst 0, 1) := by decide +kernel
theorem dX4_fits_18 : decode cX4_fits 18 = .ok (.ireturn, 1) := by decide +kernel
set_option maxRecDepth 20000 in
theorem ggX4_areWords_X4_isThere : GoodIn wsX4_areWords wsX4_isThere := goodIn_r _ [8, 9, 14, 15, 16, 17, 18, 19, 20, 21, 22] (by decide +kernel) (by decide +kernel)
set_option maxRecDepth 20000 in
theorem gX4_areWords_X4_isThere : GoodIn wsX4_areWords (wsV RX4 43 RX4 yX4_isThere wsX4_isThere) := goodIn_app (goodIn_of _ (by decide +kernel)) ggX4_areWords_X4_isThere
set_option maxRecDepth 20000 in
theorem ggX4_areWords_X4_two : GoodIn wsX4_areWords wsX4_two := goodIn_ca (goodIn_r _ [13, 1, 14, 15, 16, 17, 18, 19, 20, 21, 22] (by decide +kernel) (by decide +kernel)) (goodIn_sub (fun _ h => List.mem_cons_of_mem _ (List.mem_append_right _ h)) (by decide +kernel))
set_option maxRecDepth 20000 in
theorem gX4_areWords_X4_two : GoodIn wsX4_areWords (wsV RX4 47 RX4 yX4_two wsX4_two) := goodIn_app (goodIn_of _ (by decide +kernel)) ggX4_areWords_X4_two
theorem dX4_areWords_0 : decode cX4_areWords 0 = .ok (.iload_n 1, 1) := by decide +kernel
theorem dX4_areWords_1 : decode cX4_areWords 1 = .ok (.bipush 64, 2) := by decide +kernel
theorem dX4_areWords_3 : decode cX4_areWords 3 = .ok (.if_icmp .lt 28, 3) := by decide +kernel
theorem dX4_areWords_6 : decode cX4_areWords 6 = .ok (.aload_n 0, 1) := by decide +kernel
theorem dX4_areWords_7 : decode cX4_areWords 7 = .ok (.iload_n 1, 1) := by decide +kernel
theorem dX4_areWords_8 : decode cX4_areWords 8 = .ok (.invokevirtual 43, 3) := by decide +kernel
theorem dX4_areWords_11 : decode cX4_areWords 11 = .ok (.ifCond .eq 20, 3) := by decide +kernel
theorem dX4_areWords_14 : decode cX4_areWords 14 = .ok (.aload_n 0, 1) := by decide +kernel
theorem dX4_areWords_15 : decode cX4_areWords 15 = .ok (.iload_n 1, 1) := by decide +kernel
theorem dX4_areWords_16 : decode cX4_areWords 16 = .ok (.aload_n 0, 1) := by decide +kernel
theorem dX4_areWords_17 : decode cX4_areWords 17 = .ok (.getfield 7, 3) := by decide +kernel
theorem dX4_areWords_20 : decode cX4_areWords 20 = .ok (.iload_n 1, 1) := by decide +kernel
theorem dX4_areWords_21 : decode cX4_areWords 21 = .ok (.iaload, 1) := by decide +kernel
theorem dX4_areWords_22 : decode cX4_areWords 22 = .ok (.iadd, 1) := by decide +kernel
theorem dX4_areWords_23 : decode cX4_areWords 23 = .ok (.iconst 3, 1) := by decide +kernel
theorem dX4_areWords_24 : decode cX4_areWords 24 = .ok (.iadd, 1) := by decide +kernel
theorem dX4_areWords_25 : decode cX4_areWords 25 = .ok (.invokevirtual 43, 3) := by decide +kernel
theorem dX4_areWords_28 : decode cX4_areWords 28 = .ok (.ifCond .ne 5, 3) := by decide +kernel
theorem dX4_areWords_31 : decode cX4_areWords 31 = .ok (.iconst 0, 1) := by decide +kernel
theorem dX4_areWords_32 : decode cX4_areWords 32 = .ok (.ireturn, 1) := by decide +kernel
theorem dX4_areWords_33 : decode cX4_areWords 33 = .ok (.aload_n 0, 1) := by decide +kernel
theorem dX4_areWords_34 : decode cX4_areWords 34 = .ok (.getfield 7, 3) := by decide +kernel
theorem dX4_areWords_37 : decode cX4_areWords 37 = .ok (.iload_n 1, 1) := by decide +kernel
theorem dX4_areWords_38 : decode cX4_areWords 38 = .ok (.iaload, 1) := by decide +kernel
theorem dX4_areWords_39 : decode cX4_areWords 39 = .ok (.istore_n 2, 1) := by decide +kernel
theorem dX4_areWords_40 : decode cX4_areWords 40 = .ok (.aload_n 0, 1) := by decide +kernel
theorem dX4_areWords_41 : decode cX4_areWords 41 = .ok (.getfield 7, 3) := by decide +kernel
theorem dX4_areWords_44 : decode cX4_areWords 44 = .ok (.iload_n 1, 1) := by decide +kernel
theorem dX4_areWords_45 : decode cX4_areWords 45 = .ok (.iconst 1, 1) := by decide +kernel
theorem dX4_areWords_46 : decode cX4_areWords 46 = .ok (.iadd, 1) := by decide +kernel
theorem dX4_areWords_47 : decode cX4_areWords 47 = .ok (.iload_n 2, 1) := by decide +kernel
theorem dX4_areWords_48 : decode cX4_areWords 48 = .ok (.iadd, 1) := by decide +kernel
theorem dX4_areWords_49 : decode cX4_areWords 49 = .ok (.iaload, 1) := by decide +kernel
theorem dX4_areWords_50 : decode cX4_areWords 50 = .ok (.istore_n 3, 1) := by decide +kernel
theorem dX4_areWords_51 : decode cX4_areWords 51 = .ok (.aload_n 0, 1) := by decide +kernel
theorem dX4_areWords_52 : decode cX4_areWords 52 = .ok (.iload_n 1, 1) := by decide +kernel
theorem dX4_areWords_53 : decode cX4_areWords 53 = .ok (.iconst 2, 1) := by decide +kernel
theorem dX4_areWords_54 : decode cX4_areWords 54 = .ok (.iadd, 1) := by decide +kernel
theorem dX4_areWords_55 : decode cX4_areWords 55 = .ok (.iload_n 2, 1) := by decide +kernel
theorem dX4_areWords_56 : decode cX4_areWords 56 = .ok (.iadd, 1) := by decide +kernel
theorem dX4_areWords_57 : decode cX4_areWords 57 = .ok (.invokevirtual 47, 3) := by decide +kernel
theorem dX4_areWords_60 : decode cX4_areWords 60 = .ok (.i2s, 1) := by decide +kernel
theorem dX4_areWords_61 : decode cX4_areWords 61 = .ok (.istore 4, 2) := by decide +kernel
theorem dX4_areWords_63 : decode cX4_areWords 63 = .ok (.iload 4, 2) := by decide +kernel
theorem dX4_areWords_65 : decode cX4_areWords 65 = .ok (.ifCond .ge 9, 3) := by decide +kernel
theorem dX4_areWords_68 : decode cX4_areWords 68 = .ok (.iload 4, 2) := by decide +kernel
theorem dX4_areWords_70 : decode cX4_areWords 70 = .ok (.ineg, 1) := by decide +kernel
theorem dX4_areWords_71 : decode cX4_areWords 71 = .ok (.goto 5, 3) := by decide +kernel
theorem dX4_areWords_74 : decode cX4_areWords 74 = .ok (.iload 4, 2) := by decide +kernel
theorem dX4_areWords_76 : decode cX4_areWords 76 = .ok (.istore 4, 2) := by decide +kernel
theorem dX4_areWords_78 : decode cX4_areWords 78 = .ok (.iload_n 3, 1) := by decide +kernel
theorem dX4_areWords_79 : decode cX4_areWords 79 = .ok (.aload_n 0, 1) := by decide +kernel
theorem dX4_areWords_80 : decode cX4_areWords 80 = .ok (.getfield 51, 3) := by decide +kernel
theorem dX4_areWords_83 : decode cX4_areWords 83 = .ok (.iconst 4, 1) := by decide +kernel
theorem dX4_areWords_84 : decode cX4_areWords 84 = .ok (.if_icmp .ge 7, 3) := by decide +kernel
theorem dX4_areWords_87 : decode cX4_areWords 87 = .ok (.iconst 4, 1) := by decide +kernel
theorem dX4_areWords_88 : decode cX4_areWords 88 = .ok (.goto 5, 3) := by decide +kernel
theorem dX4_areWords_91 : decode cX4_areWords 91 = .ok (.bipush 6, 2) := by decide +kernel
theorem dX4_areWords_93 : decode cX4_areWords 93 = .ok (.if_icmp .lt 24, 3) := by decide +kernel
theorem dX4_areWords_96 : decode cX4_areWords 96 = .ok (.iload_n 1, 1) := by decide +kernel
theorem dX4_areWords_97 : decode cX4_areWords 97 = .ok (.iconst 4, 1) := by decide +kernel
theorem dX4_areWords_98 : decode cX4_areWords 98 = .ok (.iadd, 1) := by decide +kernel
theorem dX4_areWords_99 : decode cX4_areWords 99 = .ok (.iload_n 2, 1) := by decide +kernel
theorem dX4_areWords_100 : decode cX4_areWords 100 = .ok (.iadd, 1) := by decide +kernel
theorem dX4_areWords_101 : decode cX4_areWords 101 = .ok (.iload_n 3, 1) := by decide +kernel
theorem dX4_areWords_102 : decode cX4_areWords 102 = .ok (.iload 4, 2) := by decide +kernel
theorem dX4_areWords_104 : decode cX4_areWords 104 = .ok (.imul, 1) := by decide +kernel
theorem dX4_areWords_105 : decode cX4_areWords 105 = .ok (.iadd, 1) := by decide +kernel
theorem dX4_areWords_106 : decode cX4_areWords 106 = .ok (.aload_n 0, 1) := by decide +kernel
theorem dX4_areWords_107 : decode cX4_areWords 107 = .ok (.getfield 54, 3) := by decide +kernel
theorem dX4_areWords_110 : decode cX4_areWords 110 = .ok (.if_icmp .gt 7, 3) := by decide +kernel
theorem dX4_areWords_113 : decode cX4_areWords 113 = .ok (.iconst 1, 1) := by decide +kernel
theorem dX4_areWords_114 : decode cX4_areWords 114 = .ok (.goto 4, 3) := by decide +kernel
theorem dX4_areWords_117 : decode cX4_areWords 117 = .ok (.iconst 0, 1) := by decide +kernel
theorem dX4_areWords_118 : decode cX4_areWords 118 = .ok (.ireturn, 1) := by decide +kernel
theorem dX4_areEnds_0 : decode cX4_areEnds 0 = .ok (.iload_n 1, 1) := by decide +kernel
theorem dX4_areEnds_1 : decode cX4_areEnds 1 = .ok (.ifCond .ne 7, 3) := by decide +kernel
theorem dX4_areEnds_4 : decode cX4_areEnds 4 = .ok (.iconst 1, 1) := by decide +kernel
theorem dX4_areEnds_5 : decode cX4_areEnds 5 = .ok (.goto 4, 3) := by decide +kernel
theorem dX4_areEnds_8 : decode cX4_areEnds 8 = .ok (.iconst 0, 1) := by decide +kernel
theorem dX4_areEnds_9 : decode cX4_areEnds 9 = .ok (.istore_n 2, 1) := by decide +kernel
theorem dX4_areEnds_10 : decode cX4_areEnds 10 = .ok (.iload_n 1, 1) := by decide +kernel
theorem dX4_areEnds_11 : decode cX4_areEnds 11 = .ok (.istore_n 3, 1) := by decide +kernel
theorem dX4_areEnds_12 : decode cX4_areEnds 12 = .ok (.iload_n 1, 1) := by decide +kernel
theorem dX4_areEnds_13 : decode cX4_areEnds 13 = .ok (.bipush 64, 2) := by decide +kernel
theorem dX4_areEnds_15 : decode cX4_areEnds 15 = .ok (.if_icmp .lt 36, 3) := by decide +kernel
theorem dX4_areEnds_18 : decode cX4_areEnds 18 = .ok (.iload_n 3, 1) := by decide +kernel
theorem dX4_areEnds_19 : decode cX4_areEnds 19 = .ok (.aload_n 0, 1) := by decide +kernel
theorem dX4_areEnds_20 : decode cX4_areEnds 20 = .ok (.getfield 54, 3) := by decide +kernel
theorem dX4_areEnds_23 : decode cX4_areEnds 23 = .ok (.if_icmp .ge 28, 3) := by decide +kernel
theorem dX4_areEnds_26 : decode cX4_areEnds 26 = .ok (.iload_n 2, 1) := by decide +kernel
theorem dX4_areEnds_27 : decode cX4_areEnds 27 = .ok (.ifCond .ne 12, 3) := by decide +kernel
theorem dX4_areEnds_30 : decode cX4_areEnds 30 = .ok (.aload_n 0, 1) := by decide +kernel
theorem dX4_areEnds_31 : decode cX4_areEnds 31 = .ok (.getfield 7, 3) := by decide +kernel
theorem dX4_areEnds_34 : decode cX4_areEnds 34 = .ok (.iload_n 3, 1) := by decide +kernel
theorem dX4_areEnds_35 : decode cX4_areEnds 35 = .ok (.iaload, 1) := by decide +kernel
theorem dX4_areEnds_36 : decode cX4_areEnds 36 = .ok (.ifCond .ne 7, 3) := by decide +kernel
theorem dX4_areEnds_39 : decode cX4_areEnds 39 = .ok (.iconst 1, 1) := by decide +kernel
theorem dX4_areEnds_40 : decode cX4_areEnds 40 = .ok (.goto 4, 3) := by decide +kernel
theorem dX4_areEnds_43 : decode cX4_areEnds 43 = .ok (.iconst 0, 1) := by decide +kernel
theorem dX4_areEnds_44 : decode cX4_areEnds 44 = .ok (.istore_n 2, 1) := by decide +kernel
theorem dX4_areEnds_45 : decode cX4_areEnds 45 = .ok (.iinc 3 1, 3) := by decide +kernel
theorem dX4_areEnds_48 : decode cX4_areEnds 48 = .ok (.goto (-36), 3) := by decide +kernel
theorem dX4_areEnds_51 : decode cX4_areEnds 51 = .ok (.iload_n 2, 1) := by decide +kernel
theorem dX4_areEnds_52 : decode cX4_areEnds 52 = .ok (.ireturn, 1) := by decide +kernel
set_option maxRecDepth 20000 in
theorem ggX4_isMore_X4_isThere : GoodIn wsX4_isMore wsX4_isThere := goodIn_r _ [6, 7, 13, 14, 15, 16, 17, 18, 19, 20, 21] (by decide +kernel) (by decide +kernel)
set_option maxRecDepth 20000 in
theorem gX4_isMore_X4_isThere : GoodIn wsX4_isMore (wsV RX4 43 RX4 yX4_isThere wsX4_isThere) := goodIn_app (goodIn_of _ (by decide +kernel)) ggX4_isMore_X4_isThere
set_option maxRecDepth 20000 in
theorem ggX4_isMore_X4_two : GoodIn wsX4_isMore wsX4_two := goodIn_ca (goodIn_r _ [11, 12, 13, 14, 15, 16, 17, 18, 19, 20, 21] (by decide +kernel) (by decide +kernel)) (goodIn_sub (fun _ h => List.mem_cons_of_mem _ (List.mem_append_right _ h)) (by decide +kernel))
set_option maxRecDepth 20000 in
theorem gX4_isMore_X4_two : GoodIn wsX4_isMore (wsV RX4 47 RX4 yX4_two wsX4_two) := goodIn_app (goodIn_of _ (by decide +kernel)) ggX4_isMore_X4_two
theorem dX4_isMore_0 : decode cX4_isMore 0 = .ok (.iload_n 1, 1) := by decide +kernel
theorem dX4_isMore_1 : decode cX4_isMore 1 = .ok (.ifCond .eq 37, 3) := by decide +kernel
theorem dX4_isMore_4 : decode cX4_isMore 4 = .ok (.iload_n 1, 1) := by decide +kernel
theorem dX4_isMore_5 : decode cX4_isMore 5 = .ok (.bipush 64, 2) := by decide +kernel
theorem dX4_isMore_7 : decode cX4_isMore 7 = .ok (.if_icmp .lt 35, 3) := by decide +kernel
theorem dX4_isMore_10 : decode cX4_isMore 10 = .ok (.aload_n 0, 1) := by decide +kernel
theorem dX4_isMore_11 : decode cX4_isMore 11 = .ok (.iload_n 1, 1) := by decide +kernel
theorem dX4_isMore_12 : decode cX4_isMore 12 = .ok (.iconst 1, 1) := by decide +kernel
theorem dX4_isMore_13 : decode cX4_isMore 13 = .ok (.iadd, 1) := by decide +kernel
theorem dX4_isMore_14 : decode cX4_isMore 14 = .ok (.invokevirtual 43, 3) := by decide +kernel
theorem dX4_isMore_17 : decode cX4_isMore 17 = .ok (.ifCond .eq 25, 3) := by decide +kernel
theorem dX4_isMore_20 : decode cX4_isMore 20 = .ok (.iload_n 1, 1) := by decide +kernel
theorem dX4_isMore_21 : decode cX4_isMore 21 = .ok (.iconst 2, 1) := by decide +kernel
theorem dX4_isMore_22 : decode cX4_isMore 22 = .ok (.iadd, 1) := by decide +kernel
theorem dX4_isMore_23 : decode cX4_isMore 23 = .ok (.iconst 2, 1) := by decide +kernel
theorem dX4_isMore_24 : decode cX4_isMore 24 = .ok (.aload_n 0, 1) := by decide +kernel
theorem dX4_isMore_25 : decode cX4_isMore 25 = .ok (.iload_n 1, 1) := by decide +kernel
theorem dX4_isMore_26 : decode cX4_isMore 26 = .ok (.invokevirtual 47, 3) := by decide +kernel
theorem dX4_isMore_29 : decode cX4_isMore 29 = .ok (.imul, 1) := by decide +kernel
theorem dX4_isMore_30 : decode cX4_isMore 30 = .ok (.iadd, 1) := by decide +kernel
theorem dX4_isMore_31 : decode cX4_isMore 31 = .ok (.aload_n 0, 1) := by decide +kernel
theorem dX4_isMore_32 : decode cX4_isMore 32 = .ok (.getfield 54, 3) := by decide +kernel
theorem dX4_isMore_35 : decode cX4_isMore 35 = .ok (.if_icmp .gt 7, 3) := by decide +kernel
theorem dX4_isMore_38 : decode cX4_isMore 38 = .ok (.iconst 1, 1) := by decide +kernel
theorem dX4_isMore_39 : decode cX4_isMore 39 = .ok (.goto 4, 3) := by decide +kernel
theorem dX4_isMore_42 : decode cX4_isMore 42 = .ok (.iconst 0, 1) := by decide +kernel
theorem dX4_isMore_43 : decode cX4_isMore 43 = .ok (.ireturn, 1) := by decide +kernel
set_option maxRecDepth 20000 in
theorem ggX4_isThird_X4_two : GoodIn wsX4_isThird wsX4_two := goodIn_ca (goodIn_r _ [7, 1, 13, 14, 15, 16, 17, 18, 19, 20, 21] (by decide +kernel) (by decide +kernel)) (goodIn_sub (fun _ h => List.mem_cons_of_mem _ (List.mem_append_right _ h)) (by decide +kernel))
set_option maxRecDepth 20000 in
theorem gX4_isThird_X4_two : GoodIn wsX4_isThird (wsV RX4 47 RX4 yX4_two wsX4_two) := goodIn_app (goodIn_of _ (by decide +kernel)) ggX4_isThird_X4_two
set_option maxRecDepth 20000 in
theorem ggX4_isThird_X4_isThere : GoodIn wsX4_isThird wsX4_isThere := goodIn_r _ [11, 12, 13, 14, 15, 16, 17, 18, 19, 20, 21] (by decide +kernel) (by decide +kernel)
set_option maxRecDepth 20000 in
theorem gX4_isThird_X4_isThere : GoodIn wsX4_isThird (wsV RX4 43 RX4 yX4_isThere wsX4_isThere) := goodIn_app (goodIn_of _ (by decide +kernel)) ggX4_isThird_X4_isThere
theorem dX4_isThird_0 : decode cX4_isThird 0 = .ok (.aload_n 0, 1) := by decide +kernel
theorem dX4_isThird_1 : decode cX4_isThird 1 = .ok (.iload_n 1, 1) := by decide +kernel
theorem dX4_isThird_2 : decode cX4_isThird 2 = .ok (.bipush 6, 2) := by decide +kernel
theorem dX4_isThird_4 : decode cX4_isThird 4 = .ok (.iadd, 1) := by decide +kernel
theorem dX4_isThird_5 : decode cX4_isThird 5 = .ok (.invokevirtual 47, 3) := by decide +kernel
theorem dX4_isThird_8 : decode cX4_isThird 8 = .ok (.istore_n 2, 1) := by decide +kernel
theorem dX4_isThird_9 : decode cX4_isThird 9 = .ok (.iload_n 2, 1) := by decide +kernel
theorem dX4_isThird_10 : decode cX4_isThird 10 = .ok (.ifCond .eq 36, 3) := by decide +kernel
theorem dX4_isThird_13 : decode cX4_isThird 13 = .ok (.iload_n 2, 1) := by decide +kernel
theorem dX4_isThird_14 : decode cX4_isThird 14 = .ok (.bipush 64, 2) := by decide +kernel
theorem dX4_isThird_16 : decode cX4_isThird 16 = .ok (.if_icmp .lt 34, 3) := by decide +kernel
theorem dX4_isThird_19 : decode cX4_isThird 19 = .ok (.aload_n 0, 1) := by decide +kernel
theorem dX4_isThird_20 : decode cX4_isThird 20 = .ok (.iload_n 2, 1) := by decide +kernel
theorem dX4_isThird_21 : decode cX4_isThird 21 = .ok (.invokevirtual 43, 3) := by decide +kernel
theorem dX4_isThird_24 : decode cX4_isThird 24 = .ok (.ifCond .eq 26, 3) := by decide +kernel
theorem dX4_isThird_27 : decode cX4_isThird 27 = .ok (.iload_n 2, 1) := by decide +kernel
theorem dX4_isThird_28 : decode cX4_isThird 28 = .ok (.iconst 1, 1) := by decide +kernel
theorem dX4_isThird_29 : decode cX4_isThird 29 = .ok (.iadd, 1) := by decide +kernel
theorem dX4_isThird_30 : decode cX4_isThird 30 = .ok (.iconst 2, 1) := by decide +kernel
theorem dX4_isThird_31 : decode cX4_isThird 31 = .ok (.aload_n 0, 1) := by decide +kernel
theorem dX4_isThird_32 : decode cX4_isThird 32 = .ok (.getfield 7, 3) := by decide +kernel
theorem dX4_isThird_35 : decode cX4_isThird 35 = .ok (.iload_n 2, 1) := by decide +kernel
theorem dX4_isThird_36 : decode cX4_isThird 36 = .ok (.iaload, 1) := by decide +kernel
theorem dX4_isThird_37 : decode cX4_isThird 37 = .ok (.imul, 1) := by decide +kernel
theorem dX4_isThird_38 : decode cX4_isThird 38 = .ok (.iadd, 1) := by decide +kernel
theorem dX4_isThird_39 : decode cX4_isThird 39 = .ok (.aload_n 0, 1) := by decide +kernel
theorem dX4_isThird_40 : decode cX4_isThird 40 = .ok (.getfield 54, 3) := by decide +kernel
theorem dX4_isThird_43 : decode cX4_isThird 43 = .ok (.if_icmp .gt 7, 3) := by decide +kernel
theorem dX4_isThird_46 : decode cX4_isThird 46 = .ok (.iconst 1, 1) := by decide +kernel
theorem dX4_isThird_47 : decode cX4_isThird 47 = .ok (.goto 4, 3) := by decide +kernel
theorem dX4_isThird_50 : decode cX4_isThird 50 = .ok (.iconst 0, 1) := by decide +kernel
theorem dX4_isThird_51 : decode cX4_isThird 51 = .ok (.ireturn, 1) := by decide +kernel
set_option maxRecDepth 20000 in
theorem ggX4_startOf_X4_two : GoodIn wsX4_startOf wsX4_two := goodIn_ca (goodIn_r _ [6, 7, 8, 9, 10, 11, 12, 13, 14, 15, 16] (by decide +kernel) (by decide +kernel)) (goodIn_sub (fun _ h => List.mem_cons_of_mem _ (List.mem_append_right _ h)) (by decide +kernel))
set_option maxRecDepth 20000 in
theorem gX4_startOf_X4_two : GoodIn wsX4_startOf (wsV RX4 47 RX4 yX4_two wsX4_two) := goodIn_app (goodIn_of _ (by decide +kernel)) ggX4_startOf_X4_two
theorem dX4_startOf_0 : decode cX4_startOf 0 = .ok (.aload_n 0, 1) := by decide +kernel
theorem dX4_startOf_1 : decode cX4_startOf 1 = .ok (.getfield 51, 3) := by decide +kernel
theorem dX4_startOf_4 : decode cX4_startOf 4 = .ok (.bipush 6, 2) := by decide +kernel
theorem dX4_startOf_6 : decode cX4_startOf 6 = .ok (.if_icmp .ne 24, 3) := by decide +kernel
theorem dX4_startOf_9 : decode cX4_startOf 9 = .ok (.iconst 4, 1) := by decide +kernel
theorem dX4_startOf_10 : decode cX4_startOf 10 = .ok (.aload_n 0, 1) := by decide +kernel
theorem dX4_startOf_11 : decode cX4_startOf 11 = .ok (.bipush 6, 2) := by decide +kernel
theorem dX4_startOf_13 : decode cX4_startOf 13 = .ok (.invokevirtual 47, 3) := by decide +kernel
theorem dX4_startOf_16 : decode cX4_startOf 16 = .ok (.imul, 1) := by decide +kernel
theorem dX4_startOf_17 : decode cX4_startOf 17 = .ok (.bipush 8, 2) := by decide +kernel
theorem dX4_startOf_19 : decode cX4_startOf 19 = .ok (.aload_n 0, 1) := by decide +kernel
theorem dX4_startOf_20 : decode cX4_startOf 20 = .ok (.bipush 40, 2) := by decide +kernel
theorem dX4_startOf_22 : decode cX4_startOf 22 = .ok (.invokevirtual 47, 3) := by decide +kernel
theorem dX4_startOf_25 : decode cX4_startOf 25 = .ok (.imul, 1) := by decide +kernel
theorem dX4_startOf_26 : decode cX4_startOf 26 = .ok (.iadd, 1) := by decide +kernel
theorem dX4_startOf_27 : decode cX4_startOf 27 = .ok (.goto 9, 3) := by decide +kernel
theorem dX4_startOf_30 : decode cX4_startOf 30 = .ok (.aload_n 0, 1) := by decide +kernel
theorem dX4_startOf_31 : decode cX4_startOf 31 = .ok (.bipush 6, 2) := by decide +kernel
theorem dX4_startOf_33 : decode cX4_startOf 33 = .ok (.invokevirtual 47, 3) := by decide +kernel
theorem dX4_startOf_36 : decode cX4_startOf 36 = .ok (.ireturn, 1) := by decide +kernel
set_option maxRecDepth 20000 in
theorem ggX4_judge_X4_brokenAt : GoodIn wsX4_judge wsX4_brokenAt := goodIn_r _ [10, 1, 52, 53, 54, 55, 56, 57, 58, 59, 60] (by decide +kernel) (by decide +kernel)
set_option maxRecDepth 20000 in
theorem gX4_judge_X4_brokenAt : GoodIn wsX4_judge (wsV RX4 57 RX4 yX4_brokenAt wsX4_brokenAt) := goodIn_app (goodIn_of _ (by decide +kernel)) ggX4_judge_X4_brokenAt
set_option maxRecDepth 20000 in
theorem ggX4_judge_X4_in : GoodIn wsX4_judge wsX4_in := goodIn_r _ [13] (by decide +kernel) (by decide +kernel)
set_option maxRecDepth 20000 in
theorem gX4_judge_X4_in : GoodIn wsX4_judge (va_wsS RX4 27 yX4_in wsX4_in) := goodIn_app (goodIn_of _ (by decide +kernel)) ggX4_judge_X4_in
set_option maxRecDepth 20000 in
theorem ggX4_judge_X4_two : GoodIn wsX4_judge wsX4_two := goodIn_ca (goodIn_r _ [17, 3, 52, 53, 54, 55, 56, 57, 58, 59, 60] (by decide +kernel) (by decide +kernel)) (goodIn_sub (fun _ h => List.mem_cons_of_mem _ (List.mem_append_right _ h)) (by decide +kernel))
set_option maxRecDepth 20000 in
theorem gX4_judge_X4_two : GoodIn wsX4_judge (wsV RX4 47 RX4 yX4_two wsX4_two) := goodIn_app (goodIn_of _ (by decide +kernel)) ggX4_judge_X4_two
set_option maxRecDepth 20000 in
theorem ggX4_judge_X4_scaleOf : GoodIn wsX4_judge wsX4_scaleOf := goodIn_r _ [20] (by decide +kernel) (by decide +kernel)
set_option maxRecDepth 20000 in
theorem gX4_judge_X4_scaleOf : GoodIn wsX4_judge (va_wsS RX4 60 yX4_scaleOf wsX4_scaleOf) := goodIn_app (goodIn_of _ (by decide +kernel)) ggX4_judge_X4_scaleOf
set_option maxRecDepth 20000 in
theorem ggX4_judge_X4_fits : GoodIn wsX4_judge wsX4_fits := goodIn_r _ [23] (by decide +kernel) (by decide +kernel)
set_option maxRecDepth 20000 in
theorem gX4_judge_X4_fits : GoodIn wsX4_judge (va_wsS RX4 63 yX4_fits wsX4_fits) := goodIn_app (goodIn_of _ (by decide +kernel)) ggX4_judge_X4_fits
set_option maxRecDepth 20000 in
theorem ggX4_judge_X4_areWords : GoodIn wsX4_judge wsX4_areWords := goodIn_ca (goodIn_r _ [27, 3, 4, 5, 28, 29, 30, 9, 31, 2, 14, 15, 16, 17, 52, 53, 54, 55, 56, 57, 58, 59, 60] (by decide +kernel) (by decide +kernel)) (goodIn_sub (fun _ h => List.mem_cons_of_mem _ (List.mem_append_right _ h)) (by decide +kernel))
set_option maxRecDepth 20000 in
theorem gX4_judge_X4_areWords : GoodIn wsX4_judge (wsV RX4 66 RX4 yX4_areWords wsX4_areWords) := goodIn_app (goodIn_of _ (by decide +kernel)) ggX4_judge_X4_areWords
set_option maxRecDepth 20000 in
theorem ggX4_judge_X4_startOf : GoodIn wsX4_judge wsX4_startOf := goodIn_ca (goodIn_r _ [35, 4, 14, 15, 16, 9, 17, 3, 52, 53, 54, 55, 56, 57, 58, 59, 60] (by decide +kernel) (by decide +kernel)) (goodIn_sub (fun _ h => List.mem_cons_of_mem _ (List.mem_append_right _ h)) (by decide +kernel))
set_option maxRecDepth 20000 in
theorem gX4_judge_X4_startOf : GoodIn wsX4_judge (wsV RX4 69 RX4 yX4_startOf wsX4_startOf) := goodIn_app (goodIn_of _ (by decide +kernel)) ggX4_judge_X4_startOf
set_option maxRecDepth 20000 in
theorem ggX4_judge_X4_judgeMore : GoodIn wsX4_judge wsX4_judgeMore := goodIn_ca (goodIn_r _ [39, 5, 4, 14, 15, 16, 9, 17, 3, 21, 22, 23, 6, 7, 8, 10, 1, 40, 41, 42, 43, 44, 45, 46, 47, 28, 29, 30, 31, 2, 48, 49, 50, 51, 52, 53, 54, 55, 56, 57, 58, 59, 60] (by decide +kernel) (by decide +kernel)) (goodIn_sub (fun _ h => List.mem_cons_of_mem _ (List.mem_append_right _ h)) (by decide +kernel))
set_option maxRecDepth 20000 in
theorem gX4_judge_X4_judgeMore : GoodIn wsX4_judge (wsV RX4 73 RX4 yX4_judgeMore wsX4_judgeMore) := goodIn_app (goodIn_of _ (by decide +kernel)) ggX4_judge_X4_judgeMore
theorem dX4_judge_0 : decode cX4_judge 0 = .ok (.aload_n 0, 1) := by decide +kernel
theorem dX4_judge_1 : decode cX4_judge 1 = .ok (.iconst 0, 1) := by decide +kernel
theorem dX4_judge_2 : decode cX4_judge 2 = .ok (.putfield 40, 3) := by decide +kernel
theorem dX4_judge_5 : decode cX4_judge 5 = .ok (.aload_n 0, 1) := by decide +kernel
theorem dX4_judge_6 : decode cX4_judge 6 = .ok (.getfield 31, 3) := by decide +kernel
theorem dX4_judge_9 : decode cX4_judge 9 = .ok (.ifCond .ne 10, 3) := by decide +kernel
theorem dX4_judge_12 : decode cX4_judge 12 = .ok (.aload_n 0, 1) := by decide +kernel
theorem dX4_judge_13 : decode cX4_judge 13 = .ok (.iconst 1, 1) := by decide +kernel
theorem dX4_judge_14 : decode cX4_judge 14 = .ok (.iconst 0, 1) := by decide +kernel
theorem dX4_judge_15 : decode cX4_judge 15 = .ok (.invokevirtual 57, 3) := by decide +kernel
theorem dX4_judge_18 : decode cX4_judge 18 = .ok (.ireturn, 1) := by decide +kernel
theorem dX4_judge_19 : decode cX4_judge 19 = .ok (.aload_n 0, 1) := by decide +kernel
theorem dX4_judge_20 : decode cX4_judge 20 = .ok (.aload_n 0, 1) := by decide +kernel
theorem dX4_judge_21 : decode cX4_judge 21 = .ok (.getfield 7, 3) := by decide +kernel
theorem dX4_judge_24 : decode cX4_judge 24 = .ok (.iconst 0, 1) := by decide +kernel
theorem dX4_judge_25 : decode cX4_judge 25 = .ok (.iaload, 1) := by decide +kernel
theorem dX4_judge_26 : decode cX4_judge 26 = .ok (.putfield 51, 3) := by decide +kernel
theorem dX4_judge_29 : decode cX4_judge 29 = .ok (.aload_n 0, 1) := by decide +kernel
theorem dX4_judge_30 : decode cX4_judge 30 = .ok (.getfield 51, 3) := by decide +kernel
theorem dX4_judge_33 : decode cX4_judge 33 = .ok (.iconst 1, 1) := by decide +kernel
theorem dX4_judge_34 : decode cX4_judge 34 = .ok (.bipush 8, 2) := by decide +kernel
theorem dX4_judge_36 : decode cX4_judge 36 = .ok (.invokestatic 27, 3) := by decide +kernel
theorem dX4_judge_39 : decode cX4_judge 39 = .ok (.ifCond .ne 10, 3) := by decide +kernel
theorem dX4_judge_42 : decode cX4_judge 42 = .ok (.aload_n 0, 1) := by decide +kernel
theorem dX4_judge_43 : decode cX4_judge 43 = .ok (.iconst 2, 1) := by decide +kernel
theorem dX4_judge_44 : decode cX4_judge 44 = .ok (.iconst 0, 1) := by decide +kernel
theorem dX4_judge_45 : decode cX4_judge 45 = .ok (.invokevirtual 57, 3) := by decide +kernel
theorem dX4_judge_48 : decode cX4_judge 48 = .ok (.ireturn, 1) := by decide +kernel
theorem dX4_judge_49 : decode cX4_judge 49 = .ok (.aload_n 0, 1) := by decide +kernel
theorem dX4_judge_50 : decode cX4_judge 50 = .ok (.getfield 31, 3) := by decide +kernel
theorem dX4_judge_53 : decode cX4_judge 53 = .ok (.bipush 64, 2) := by decide +kernel
theorem dX4_judge_55 : decode cX4_judge 55 = .ok (.if_icmp .ge 13, 3) := by decide +kernel
theorem dX4_judge_58 : decode cX4_judge 58 = .ok (.aload_n 0, 1) := by decide +kernel
theorem dX4_judge_59 : decode cX4_judge 59 = .ok (.iconst 3, 1) := by decide +kernel
theorem dX4_judge_60 : decode cX4_judge 60 = .ok (.aload_n 0, 1) := by decide +kernel
theorem dX4_judge_61 : decode cX4_judge 61 = .ok (.getfield 31, 3) := by decide +kernel
theorem dX4_judge_64 : decode cX4_judge 64 = .ok (.invokevirtual 57, 3) := by decide +kernel
theorem dX4_judge_67 : decode cX4_judge 67 = .ok (.ireturn, 1) := by decide +kernel
theorem dX4_judge_68 : decode cX4_judge 68 = .ok (.aload_n 0, 1) := by decide +kernel
theorem dX4_judge_69 : decode cX4_judge 69 = .ok (.aload_n 0, 1) := by decide +kernel
theorem dX4_judge_70 : decode cX4_judge 70 = .ok (.bipush 26, 2) := by decide +kernel
theorem dX4_judge_72 : decode cX4_judge 72 = .ok (.invokevirtual 47, 3) := by decide +kernel
theorem dX4_judge_75 : decode cX4_judge 75 = .ok (.aload_n 0, 1) := by decide +kernel
theorem dX4_judge_76 : decode cX4_judge 76 = .ok (.getfield 51, 3) := by decide +kernel
theorem dX4_judge_79 : decode cX4_judge 79 = .ok (.invokestatic 60, 3) := by decide +kernel
theorem dX4_judge_82 : decode cX4_judge 82 = .ok (.imul, 1) := by decide +kernel
theorem dX4_judge_83 : decode cX4_judge 83 = .ok (.putfield 54, 3) := by decide +kernel
theorem dX4_judge_86 : decode cX4_judge 86 = .ok (.aload_n 0, 1) := by decide +kernel
theorem dX4_judge_87 : decode cX4_judge 87 = .ok (.aload_n 0, 1) := by decide +kernel
theorem dX4_judge_88 : decode cX4_judge 88 = .ok (.bipush 26, 2) := by decide +kernel
theorem dX4_judge_90 : decode cX4_judge 90 = .ok (.invokevirtual 47, 3) := by decide +kernel
theorem dX4_judge_93 : decode cX4_judge 93 = .ok (.ifCond .ne 18, 3) := by decide +kernel
theorem dX4_judge_96 : decode cX4_judge 96 = .ok (.aload_n 0, 1) := by decide +kernel
theorem dX4_judge_97 : decode cX4_judge 97 = .ok (.getfield 51, 3) := by decide +kernel
theorem dX4_judge_100 : decode cX4_judge 100 = .ok (.iconst 4, 1) := by decide +kernel
theorem dX4_judge_101 : decode cX4_judge 101 = .ok (.if_icmp .ge 10, 3) := by decide +kernel
theorem dX4_judge_104 : decode cX4_judge 104 = .ok (.aload_n 0, 1) := by decide +kernel
theorem dX4_judge_105 : decode cX4_judge 105 = .ok (.getfield 31, 3) := by decide +kernel
theorem dX4_judge_108 : decode cX4_judge 108 = .ok (.goto 7, 3) := by decide +kernel
theorem dX4_judge_111 : decode cX4_judge 111 = .ok (.aload_n 0, 1) := by decide +kernel
theorem dX4_judge_112 : decode cX4_judge 112 = .ok (.getfield 54, 3) := by decide +kernel
theorem dX4_judge_115 : decode cX4_judge 115 = .ok (.putfield 54, 3) := by decide +kernel
theorem dX4_judge_118 : decode cX4_judge 118 = .ok (.aload_n 0, 1) := by decide +kernel
theorem dX4_judge_119 : decode cX4_judge 119 = .ok (.getfield 54, 3) := by decide +kernel
theorem dX4_judge_122 : decode cX4_judge 122 = .ok (.bipush 64, 2) := by decide +kernel
theorem dX4_judge_124 : decode cX4_judge 124 = .ok (.aload_n 0, 1) := by decide +kernel
theorem dX4_judge_125 : decode cX4_judge 125 = .ok (.getfield 31, 3) := by decide +kernel
theorem dX4_judge_128 : decode cX4_judge 128 = .ok (.invokestatic 27, 3) := by decide +kernel
theorem dX4_judge_131 : decode cX4_judge 131 = .ok (.ifCond .ne 11, 3) := by decide +kernel
theorem dX4_judge_134 : decode cX4_judge 134 = .ok (.aload_n 0, 1) := by decide +kernel
theorem dX4_judge_135 : decode cX4_judge 135 = .ok (.iconst 4, 1) := by decide +kernel
theorem dX4_judge_136 : decode cX4_judge 136 = .ok (.bipush 26, 2) := by decide +kernel
theorem dX4_judge_138 : decode cX4_judge 138 = .ok (.invokevirtual 57, 3) := by decide +kernel
theorem dX4_judge_141 : decode cX4_judge 141 = .ok (.ireturn, 1) := by decide +kernel
theorem dX4_judge_142 : decode cX4_judge 142 = .ok (.aload_n 0, 1) := by decide +kernel
theorem dX4_judge_143 : decode cX4_judge 143 = .ok (.bipush 14, 2) := by decide +kernel
theorem dX4_judge_145 : decode cX4_judge 145 = .ok (.invokevirtual 47, 3) := by decide +kernel
theorem dX4_judge_148 : decode cX4_judge 148 = .ok (.istore_n 1, 1) := by decide +kernel
theorem dX4_judge_149 : decode cX4_judge 149 = .ok (.iload_n 1, 1) := by decide +kernel
theorem dX4_judge_150 : decode cX4_judge 150 = .ok (.bipush 64, 2) := by decide +kernel
theorem dX4_judge_152 : decode cX4_judge 152 = .ok (.aload_n 0, 1) := by decide +kernel
theorem dX4_judge_153 : decode cX4_judge 153 = .ok (.getfield 54, 3) := by decide +kernel
theorem dX4_judge_156 : decode cX4_judge 156 = .ok (.invokestatic 27, 3) := by decide +kernel
theorem dX4_judge_159 : decode cX4_judge 159 = .ok (.ifCond .ne 11, 3) := by decide +kernel
theorem dX4_judge_162 : decode cX4_judge 162 = .ok (.aload_n 0, 1) := by decide +kernel
theorem dX4_judge_163 : decode cX4_judge 163 = .ok (.iconst 5, 1) := by decide +kernel
theorem dX4_judge_164 : decode cX4_judge 164 = .ok (.bipush 14, 2) := by decide +kernel
theorem dX4_judge_166 : decode cX4_judge 166 = .ok (.invokevirtual 57, 3) := by decide +kernel
theorem dX4_judge_169 : decode cX4_judge 169 = .ok (.ireturn, 1) := by decide +kernel
theorem dX4_judge_170 : decode cX4_judge 170 = .ok (.aload_n 0, 1) := by decide +kernel
theorem dX4_judge_171 : decode cX4_judge 171 = .ok (.iconst 4, 1) := by decide +kernel
theorem dX4_judge_172 : decode cX4_judge 172 = .ok (.invokevirtual 47, 3) := by decide +kernel
theorem dX4_judge_175 : decode cX4_judge 175 = .ok (.iload_n 1, 1) := by decide +kernel
theorem dX4_judge_176 : decode cX4_judge 176 = .ok (.aload_n 0, 1) := by decide +kernel
theorem dX4_judge_177 : decode cX4_judge 177 = .ok (.getfield 54, 3) := by decide +kernel
theorem dX4_judge_180 : decode cX4_judge 180 = .ok (.invokestatic 27, 3) := by decide +kernel
theorem dX4_judge_183 : decode cX4_judge 183 = .ok (.ifCond .ne 11, 3) := by decide +kernel
theorem dX4_judge_186 : decode cX4_judge 186 = .ok (.aload_n 0, 1) := by decide +kernel
theorem dX4_judge_187 : decode cX4_judge 187 = .ok (.bipush 6, 2) := by decide +kernel
theorem dX4_judge_189 : decode cX4_judge 189 = .ok (.iconst 4, 1) := by decide +kernel
theorem dX4_judge_190 : decode cX4_judge 190 = .ok (.invokevirtual 57, 3) := by decide +kernel
theorem dX4_judge_193 : decode cX4_judge 193 = .ok (.ireturn, 1) := by decide +kernel
theorem dX4_judge_194 : decode cX4_judge 194 = .ok (.aload_n 0, 1) := by decide +kernel
theorem dX4_judge_195 : decode cX4_judge 195 = .ok (.bipush 12, 2) := by decide +kernel
theorem dX4_judge_197 : decode cX4_judge 197 = .ok (.invokevirtual 47, 3) := by decide +kernel
theorem dX4_judge_200 : decode cX4_judge 200 = .ok (.sipush 480, 3) := by decide +kernel
theorem dX4_judge_203 : decode cX4_judge 203 = .ok (.iload_n 1, 1) := by decide +kernel
theorem dX4_judge_204 : decode cX4_judge 204 = .ok (.invokestatic 63, 3) := by decide +kernel
theorem dX4_judge_207 : decode cX4_judge 207 = .ok (.ifCond .ne 12, 3) := by decide +kernel
theorem dX4_judge_210 : decode cX4_judge 210 = .ok (.aload_n 0, 1) := by decide +kernel
theorem dX4_judge_211 : decode cX4_judge 211 = .ok (.bipush 7, 2) := by decide +kernel
theorem dX4_judge_213 : decode cX4_judge 213 = .ok (.bipush 12, 2) := by decide +kernel
theorem dX4_judge_215 : decode cX4_judge 215 = .ok (.invokevirtual 57, 3) := by decide +kernel
theorem dX4_judge_218 : decode cX4_judge 218 = .ok (.ireturn, 1) := by decide +kernel
theorem dX4_judge_219 : decode cX4_judge 219 = .ok (.aload_n 0, 1) := by decide +kernel
theorem dX4_judge_220 : decode cX4_judge 220 = .ok (.bipush 10, 2) := by decide +kernel
theorem dX4_judge_222 : decode cX4_judge 222 = .ok (.invokevirtual 47, 3) := by decide +kernel
theorem dX4_judge_225 : decode cX4_judge 225 = .ok (.aload_n 0, 1) := by decide +kernel
theorem dX4_judge_226 : decode cX4_judge 226 = .ok (.getfield 51, 3) := by decide +kernel
theorem dX4_judge_229 : decode cX4_judge 229 = .ok (.iconst 4, 1) := by decide +kernel
theorem dX4_judge_230 : decode cX4_judge 230 = .ok (.if_icmp .ge 8, 3) := by decide +kernel
theorem dX4_judge_233 : decode cX4_judge 233 = .ok (.bipush 62, 2) := by decide +kernel
theorem dX4_judge_235 : decode cX4_judge 235 = .ok (.goto 5, 3) := by decide +kernel
theorem dX4_judge_238 : decode cX4_judge 238 = .ok (.bipush 126, 2) := by decide +kernel
theorem dX4_judge_240 : decode cX4_judge 240 = .ok (.iload_n 1, 1) := by decide +kernel
theorem dX4_judge_241 : decode cX4_judge 241 = .ok (.invokestatic 63, 3) := by decide +kernel
theorem dX4_judge_244 : decode cX4_judge 244 = .ok (.ifCond .ne 12, 3) := by decide +kernel
theorem dX4_judge_247 : decode cX4_judge 247 = .ok (.aload_n 0, 1) := by decide +kernel
theorem dX4_judge_248 : decode cX4_judge 248 = .ok (.bipush 8, 2) := by decide +kernel
theorem dX4_judge_250 : decode cX4_judge 250 = .ok (.bipush 10, 2) := by decide +kernel
theorem dX4_judge_252 : decode cX4_judge 252 = .ok (.invokevirtual 57, 3) := by decide +kernel
theorem dX4_judge_255 : decode cX4_judge 255 = .ok (.ireturn, 1) := by decide +kernel
theorem dX4_judge_256 : decode cX4_judge 256 = .ok (.aload_n 0, 1) := by decide +kernel
theorem dX4_judge_257 : decode cX4_judge 257 = .ok (.aload_n 0, 1) := by decide +kernel
theorem dX4_judge_258 : decode cX4_judge 258 = .ok (.bipush 8, 2) := by decide +kernel
theorem dX4_judge_260 : decode cX4_judge 260 = .ok (.invokevirtual 47, 3) := by decide +kernel
theorem dX4_judge_263 : decode cX4_judge 263 = .ok (.invokevirtual 66, 3) := by decide +kernel
theorem dX4_judge_266 : decode cX4_judge 266 = .ok (.ifCond .ne 12, 3) := by decide +kernel
theorem dX4_judge_269 : decode cX4_judge 269 = .ok (.aload_n 0, 1) := by decide +kernel
theorem dX4_judge_270 : decode cX4_judge 270 = .ok (.bipush 9, 2) := by decide +kernel
theorem dX4_judge_272 : decode cX4_judge 272 = .ok (.bipush 8, 2) := by decide +kernel
theorem dX4_judge_274 : decode cX4_judge 274 = .ok (.invokevirtual 57, 3) := by decide +kernel
theorem dX4_judge_277 : decode cX4_judge 277 = .ok (.ireturn, 1) := by decide +kernel
theorem dX4_judge_278 : decode cX4_judge 278 = .ok (.aload_n 0, 1) := by decide +kernel
theorem dX4_judge_279 : decode cX4_judge 279 = .ok (.getfield 51, 3) := by decide +kernel
theorem dX4_judge_282 : decode cX4_judge 282 = .ok (.iconst 1, 1) := by decide +kernel
theorem dX4_judge_283 : decode cX4_judge 283 = .ok (.if_icmp .le 53, 3) := by decide +kernel
theorem dX4_judge_286 : decode cX4_judge 286 = .ok (.aload_n 0, 1) := by decide +kernel
theorem dX4_judge_287 : decode cX4_judge 287 = .ok (.bipush 24, 2) := by decide +kernel
theorem dX4_judge_289 : decode cX4_judge 289 = .ok (.invokevirtual 47, 3) := by decide +kernel
theorem dX4_judge_292 : decode cX4_judge 292 = .ok (.ifCond .eq 44, 3) := by decide +kernel
theorem dX4_judge_295 : decode cX4_judge 295 = .ok (.aload_n 0, 1) := by decide +kernel
theorem dX4_judge_296 : decode cX4_judge 296 = .ok (.bipush 24, 2) := by decide +kernel
theorem dX4_judge_298 : decode cX4_judge 298 = .ok (.invokevirtual 47, 3) := by decide +kernel
theorem dX4_judge_301 : decode cX4_judge 301 = .ok (.aload_n 0, 1) := by decide +kernel
theorem dX4_judge_302 : decode cX4_judge 302 = .ok (.getfield 51, 3) := by decide +kernel
theorem dX4_judge_305 : decode cX4_judge 305 = .ok (.iconst 2, 1) := by decide +kernel
theorem dX4_judge_306 : decode cX4_judge 306 = .ok (.if_icmp .ne 8, 3) := by decide +kernel
theorem dX4_judge_309 : decode cX4_judge 309 = .ok (.bipush 64, 2) := by decide +kernel
theorem dX4_judge_311 : decode cX4_judge 311 = .ok (.goto 6, 3) := by decide +kernel
theorem dX4_judge_314 : decode cX4_judge 314 = .ok (.sipush 192, 3) := by decide +kernel
theorem dX4_judge_317 : decode cX4_judge 317 = .ok (.aload_n 0, 1) := by decide +kernel
theorem dX4_judge_318 : decode cX4_judge 318 = .ok (.getfield 54, 3) := by decide +kernel
theorem dX4_judge_321 : decode cX4_judge 321 = .ok (.invokestatic 63, 3) := by decide +kernel
theorem dX4_judge_324 : decode cX4_judge 324 = .ok (.ifCond .ne 12, 3) := by decide +kernel
theorem dX4_judge_327 : decode cX4_judge 327 = .ok (.aload_n 0, 1) := by decide +kernel
theorem dX4_judge_328 : decode cX4_judge 328 = .ok (.bipush 10, 2) := by decide +kernel
theorem dX4_judge_330 : decode cX4_judge 330 = .ok (.bipush 24, 2) := by decide +kernel
theorem dX4_judge_332 : decode cX4_judge 332 = .ok (.invokevirtual 57, 3) := by decide +kernel
theorem dX4_judge_335 : decode cX4_judge 335 = .ok (.ireturn, 1) := by decide +kernel
theorem dX4_judge_336 : decode cX4_judge 336 = .ok (.aload_n 0, 1) := by decide +kernel
theorem dX4_judge_337 : decode cX4_judge 337 = .ok (.invokevirtual 69, 3) := by decide +kernel
theorem dX4_judge_340 : decode cX4_judge 340 = .ok (.bipush 64, 2) := by decide +kernel
theorem dX4_judge_342 : decode cX4_judge 342 = .ok (.aload_n 0, 1) := by decide +kernel
theorem dX4_judge_343 : decode cX4_judge 343 = .ok (.getfield 54, 3) := by decide +kernel
theorem dX4_judge_346 : decode cX4_judge 346 = .ok (.iconst 1, 1) := by decide +kernel
theorem dX4_judge_347 : decode cX4_judge 347 = .ok (.isub, 1) := by decide +kernel
theorem dX4_judge_348 : decode cX4_judge 348 = .ok (.invokestatic 27, 3) := by decide +kernel
theorem dX4_judge_351 : decode cX4_judge 351 = .ok (.ifCond .ne 12, 3) := by decide +kernel
theorem dX4_judge_354 : decode cX4_judge 354 = .ok (.aload_n 0, 1) := by decide +kernel
theorem dX4_judge_355 : decode cX4_judge 355 = .ok (.bipush 11, 2) := by decide +kernel
theorem dX4_judge_357 : decode cX4_judge 357 = .ok (.bipush 6, 2) := by decide +kernel
theorem dX4_judge_359 : decode cX4_judge 359 = .ok (.invokevirtual 57, 3) := by decide +kernel
theorem dX4_judge_362 : decode cX4_judge 362 = .ok (.ireturn, 1) := by decide +kernel
theorem dX4_judge_363 : decode cX4_judge 363 = .ok (.aload_n 0, 1) := by decide +kernel
theorem dX4_judge_364 : decode cX4_judge 364 = .ok (.getfield 51, 3) := by decide +kernel
theorem dX4_judge_367 : decode cX4_judge 367 = .ok (.iconst 5, 1) := by decide +kernel
theorem dX4_judge_368 : decode cX4_judge 368 = .ok (.if_icmp .ge 10, 3) := by decide +kernel
theorem dX4_judge_371 : decode cX4_judge 371 = .ok (.aload_n 0, 1) := by decide +kernel
theorem dX4_judge_372 : decode cX4_judge 372 = .ok (.getfield 51, 3) := by decide +kernel
theorem dX4_judge_375 : decode cX4_judge 375 = .ok (.goto 7, 3) := by decide +kernel
theorem dX4_judge_378 : decode cX4_judge 378 = .ok (.aload_n 0, 1) := by decide +kernel
theorem dX4_judge_379 : decode cX4_judge 379 = .ok (.invokevirtual 73, 3) := by decide +kernel
theorem dX4_judge_382 : decode cX4_judge 382 = .ok (.ireturn, 1) := by decide +kernel
set_option maxRecDepth 20000 in
theorem ggX4_judgeMore_X4_two : GoodIn wsX4_judgeMore wsX4_two := goodIn_ca (goodIn_r _ [7, 8, 34, 35, 36, 37, 38, 39, 40, 41, 42] (by decide +kernel) (by decide +kernel)) (goodIn_sub (fun _ h => List.mem_cons_of_mem _ (List.mem_append_right _ h)) (by decide +kernel))
set_option maxRecDepth 20000 in
theorem gX4_judgeMore_X4_two : GoodIn wsX4_judgeMore (wsV RX4 47 RX4 yX4_two wsX4_two) := goodIn_app (goodIn_of _ (by decide +kernel)) ggX4_judgeMore_X4_two
set_option maxRecDepth 20000 in
theorem ggX4_judgeMore_X4_fits : GoodIn wsX4_judgeMore wsX4_fits := goodIn_r _ [11] (by decide +kernel) (by decide +kernel)
set_option maxRecDepth 20000 in
theorem gX4_judgeMore_X4_fits : GoodIn wsX4_judgeMore (va_wsS RX4 63 yX4_fits wsX4_fits) := goodIn_app (goodIn_of _ (by decide +kernel)) ggX4_judgeMore_X4_fits
set_option maxRecDepth 20000 in
theorem ggX4_judgeMore_X4_brokenAt : GoodIn wsX4_judgeMore wsX4_brokenAt := goodIn_r _ [15, 16, 34, 35, 36, 37, 38, 39, 40, 41, 42] (by decide +kernel) (by decide +kernel)
set_option maxRecDepth 20000 in
theorem gX4_judgeMore_X4_brokenAt : GoodIn wsX4_judgeMore (wsV RX4 57 RX4 yX4_brokenAt wsX4_brokenAt) := goodIn_app (goodIn_of _ (by decide +kernel)) ggX4_judgeMore_X4_brokenAt
set_option maxRecDepth 20000 in
theorem ggX4_judgeMore_X4_areEnds : GoodIn wsX4_judgeMore wsX4_areEnds := goodIn_ca (goodIn_r _ [20, 1, 8, 34, 35, 36, 37, 38, 39, 40, 41, 42] (by decide +kernel) (by decide +kernel)) (goodIn_sub (fun _ h => List.mem_cons_of_mem _ (List.mem_append_right _ h)) (by decide +kernel))
set_option maxRecDepth 20000 in
theorem gX4_judgeMore_X4_areEnds : GoodIn wsX4_judgeMore (wsV RX4 76 RX4 yX4_areEnds wsX4_areEnds) := goodIn_app (goodIn_of _ (by decide +kernel)) ggX4_judgeMore_X4_areEnds
set_option maxRecDepth 20000 in
theorem ggX4_judgeMore_X4_isMore : GoodIn wsX4_judgeMore wsX4_isMore := goodIn_ca (goodIn_r _ [24, 1, 25, 26, 27, 6, 28, 29, 3, 4, 5, 7, 8, 34, 35, 36, 37, 38, 39, 40, 41, 42] (by decide +kernel) (by decide +kernel)) (goodIn_sub (fun _ h => List.mem_cons_of_mem _ (List.mem_append_right _ h)) (by decide +kernel))
set_option maxRecDepth 20000 in
theorem gX4_judgeMore_X4_isMore : GoodIn wsX4_judgeMore (wsV RX4 79 RX4 yX4_isMore wsX4_isMore) := goodIn_app (goodIn_of _ (by decide +kernel)) ggX4_judgeMore_X4_isMore
set_option maxRecDepth 20000 in
theorem ggX4_judgeMore_X4_isThird : GoodIn wsX4_judgeMore wsX4_isThird := goodIn_ca (goodIn_r _ [33, 8, 1, 3, 4, 5, 6, 7, 25, 26, 27, 28, 29, 34, 35, 36, 37, 38, 39, 40, 41, 42] (by decide +kernel) (by decide +kernel)) (goodIn_sub (fun _ h => List.mem_cons_of_mem _ (List.mem_append_right _ h)) (by decide +kernel))
set_option maxRecDepth 20000 in
theorem gX4_judgeMore_X4_isThird : GoodIn wsX4_judgeMore (wsV RX4 82 RX4 yX4_isThird wsX4_isThird) := goodIn_app (goodIn_of _ (by decide +kernel)) ggX4_judgeMore_X4_isThird
theorem dX4_judgeMore_0 : decode cX4_judgeMore 0 = .ok (.aload_n 0, 1) := by decide +kernel
theorem dX4_judgeMore_1 : decode cX4_judgeMore 1 = .ok (.bipush 52, 2) := by decide +kernel
theorem dX4_judgeMore_3 : decode cX4_judgeMore 3 = .ok (.invokevirtual 47, 3) := by decide +kernel
theorem dX4_judgeMore_6 : decode cX4_judgeMore 6 = .ok (.ifCond .eq 30, 3) := by decide +kernel
theorem dX4_judgeMore_9 : decode cX4_judgeMore 9 = .ok (.aload_n 0, 1) := by decide +kernel
theorem dX4_judgeMore_10 : decode cX4_judgeMore 10 = .ok (.bipush 52, 2) := by decide +kernel
theorem dX4_judgeMore_12 : decode cX4_judgeMore 12 = .ok (.invokevirtual 47, 3) := by decide +kernel
theorem dX4_judgeMore_15 : decode cX4_judgeMore 15 = .ok (.bipush 78, 2) := by decide +kernel
theorem dX4_judgeMore_17 : decode cX4_judgeMore 17 = .ok (.aload_n 0, 1) := by decide +kernel
theorem dX4_judgeMore_18 : decode cX4_judgeMore 18 = .ok (.getfield 54, 3) := by decide +kernel
theorem dX4_judgeMore_21 : decode cX4_judgeMore 21 = .ok (.invokestatic 63, 3) := by decide +kernel
theorem dX4_judgeMore_24 : decode cX4_judgeMore 24 = .ok (.ifCond .ne 12, 3) := by decide +kernel
theorem dX4_judgeMore_27 : decode cX4_judgeMore 27 = .ok (.aload_n 0, 1) := by decide +kernel
theorem dX4_judgeMore_28 : decode cX4_judgeMore 28 = .ok (.bipush 12, 2) := by decide +kernel
theorem dX4_judgeMore_30 : decode cX4_judgeMore 30 = .ok (.bipush 52, 2) := by decide +kernel
theorem dX4_judgeMore_32 : decode cX4_judgeMore 32 = .ok (.invokevirtual 57, 3) := by decide +kernel
theorem dX4_judgeMore_35 : decode cX4_judgeMore 35 = .ok (.ireturn, 1) := by decide +kernel
theorem dX4_judgeMore_36 : decode cX4_judgeMore 36 = .ok (.aload_n 0, 1) := by decide +kernel
theorem dX4_judgeMore_37 : decode cX4_judgeMore 37 = .ok (.aload_n 0, 1) := by decide +kernel
theorem dX4_judgeMore_38 : decode cX4_judgeMore 38 = .ok (.bipush 46, 2) := by decide +kernel
theorem dX4_judgeMore_40 : decode cX4_judgeMore 40 = .ok (.invokevirtual 47, 3) := by decide +kernel
theorem dX4_judgeMore_43 : decode cX4_judgeMore 43 = .ok (.invokevirtual 76, 3) := by decide +kernel
theorem dX4_judgeMore_46 : decode cX4_judgeMore 46 = .ok (.ifCond .ne 12, 3) := by decide +kernel
theorem dX4_judgeMore_49 : decode cX4_judgeMore 49 = .ok (.aload_n 0, 1) := by decide +kernel
theorem dX4_judgeMore_50 : decode cX4_judgeMore 50 = .ok (.bipush 13, 2) := by decide +kernel
theorem dX4_judgeMore_52 : decode cX4_judgeMore 52 = .ok (.bipush 46, 2) := by decide +kernel
theorem dX4_judgeMore_54 : decode cX4_judgeMore 54 = .ok (.invokevirtual 57, 3) := by decide +kernel
theorem dX4_judgeMore_57 : decode cX4_judgeMore 57 = .ok (.ireturn, 1) := by decide +kernel
theorem dX4_judgeMore_58 : decode cX4_judgeMore 58 = .ok (.aload_n 0, 1) := by decide +kernel
theorem dX4_judgeMore_59 : decode cX4_judgeMore 59 = .ok (.bipush 54, 2) := by decide +kernel
theorem dX4_judgeMore_61 : decode cX4_judgeMore 61 = .ok (.invokevirtual 47, 3) := by decide +kernel
theorem dX4_judgeMore_64 : decode cX4_judgeMore 64 = .ok (.istore_n 1, 1) := by decide +kernel
theorem dX4_judgeMore_65 : decode cX4_judgeMore 65 = .ok (.aload_n 0, 1) := by decide +kernel
theorem dX4_judgeMore_66 : decode cX4_judgeMore 66 = .ok (.iload_n 1, 1) := by decide +kernel
theorem dX4_judgeMore_67 : decode cX4_judgeMore 67 = .ok (.invokevirtual 79, 3) := by decide +kernel
theorem dX4_judgeMore_70 : decode cX4_judgeMore 70 = .ok (.ifCond .ne 12, 3) := by decide +kernel
theorem dX4_judgeMore_73 : decode cX4_judgeMore 73 = .ok (.aload_n 0, 1) := by decide +kernel
theorem dX4_judgeMore_74 : decode cX4_judgeMore 74 = .ok (.bipush 14, 2) := by decide +kernel
theorem dX4_judgeMore_76 : decode cX4_judgeMore 76 = .ok (.bipush 54, 2) := by decide +kernel
theorem dX4_judgeMore_78 : decode cX4_judgeMore 78 = .ok (.invokevirtual 57, 3) := by decide +kernel
theorem dX4_judgeMore_81 : decode cX4_judgeMore 81 = .ok (.ireturn, 1) := by decide +kernel
theorem dX4_judgeMore_82 : decode cX4_judgeMore 82 = .ok (.iload_n 1, 1) := by decide +kernel
theorem dX4_judgeMore_83 : decode cX4_judgeMore 83 = .ok (.ifCond .eq 31, 3) := by decide +kernel
theorem dX4_judgeMore_86 : decode cX4_judgeMore 86 = .ok (.aload_n 0, 1) := by decide +kernel
theorem dX4_judgeMore_87 : decode cX4_judgeMore 87 = .ok (.iload_n 1, 1) := by decide +kernel
theorem dX4_judgeMore_88 : decode cX4_judgeMore 88 = .ok (.invokevirtual 47, 3) := by decide +kernel
theorem dX4_judgeMore_91 : decode cX4_judgeMore 91 = .ok (.iconst 2, 1) := by decide +kernel
theorem dX4_judgeMore_92 : decode cX4_judgeMore 92 = .ok (.if_icmp .le 22, 3) := by decide +kernel
theorem dX4_judgeMore_95 : decode cX4_judgeMore 95 = .ok (.aload_n 0, 1) := by decide +kernel
theorem dX4_judgeMore_96 : decode cX4_judgeMore 96 = .ok (.iload_n 1, 1) := by decide +kernel
theorem dX4_judgeMore_97 : decode cX4_judgeMore 97 = .ok (.invokevirtual 82, 3) := by decide +kernel
theorem dX4_judgeMore_100 : decode cX4_judgeMore 100 = .ok (.ifCond .ne 14, 3) := by decide +kernel
theorem dX4_judgeMore_103 : decode cX4_judgeMore 103 = .ok (.aload_n 0, 1) := by decide +kernel
theorem dX4_judgeMore_104 : decode cX4_judgeMore 104 = .ok (.bipush 15, 2) := by decide +kernel
theorem dX4_judgeMore_106 : decode cX4_judgeMore 106 = .ok (.iload_n 1, 1) := by decide +kernel
theorem dX4_judgeMore_107 : decode cX4_judgeMore 107 = .ok (.bipush 6, 2) := by decide +kernel
theorem dX4_judgeMore_109 : decode cX4_judgeMore 109 = .ok (.iadd, 1) := by decide +kernel
theorem dX4_judgeMore_110 : decode cX4_judgeMore 110 = .ok (.invokevirtual 57, 3) := by decide +kernel
theorem dX4_judgeMore_113 : decode cX4_judgeMore 113 = .ok (.ireturn, 1) := by decide +kernel
theorem dX4_judgeMore_114 : decode cX4_judgeMore 114 = .ok (.aload_n 0, 1) := by decide +kernel
theorem dX4_judgeMore_115 : decode cX4_judgeMore 115 = .ok (.getfield 51, 3) := by decide +kernel
theorem dX4_judgeMore_118 : decode cX4_judgeMore 118 = .ok (.ireturn, 1) := by decide +kernel
set_option maxRecDepth 20000 in
theorem ggX4_read_X4_judge : GoodIn wsX4_read wsX4_judge := goodIn_ca (goodIn_r _ [11, 12, 3, 5, 13, 14, 15, 16, 17, 10, 18, 19, 20, 21, 22, 23, 24, 25, 26, 27, 28, 29, 30, 31, 32, 33, 34, 35, 36, 37, 38, 39, 40, 41, 42, 43, 44, 45, 46, 47, 48, 49, 50, 51, 52, 53, 54, 55, 56, 57, 58, 59, 60, 61, 62, 63, 64, 65, 66, 67, 68] (by decide +kernel) (by decide +kernel)) (goodIn_sub (fun _ h => List.mem_cons_of_mem _ (List.mem_append_right _ h)) (by decide +kernel))
set_option maxRecDepth 20000 in
theorem gX4_read_X4_judge : GoodIn wsX4_read (wsV RX4 85 RX4 yX4_judge wsX4_judge) := goodIn_app (goodIn_of _ (by decide +kernel)) ggX4_read_X4_judge
theorem dX4_read_0 : decode cX4_read 0 = .ok (.aload_n 0, 1) := by decide +kernel
theorem dX4_read_1 : decode cX4_read 1 = .ok (.iconst 0, 1) := by decide +kernel
theorem dX4_read_2 : decode cX4_read 2 = .ok (.putfield 19, 3) := by decide +kernel
theorem dX4_read_5 : decode cX4_read 5 = .ok (.aload_n 0, 1) := by decide +kernel
theorem dX4_read_6 : decode cX4_read 6 = .ok (.invokevirtual 85, 3) := by decide +kernel
theorem dX4_read_9 : decode cX4_read 9 = .ok (.istore_n 1, 1) := by decide +kernel
theorem dX4_read_10 : decode cX4_read 10 = .ok (.aload_n 0, 1) := by decide +kernel
theorem dX4_read_11 : decode cX4_read 11 = .ok (.iload_n 1, 1) := by decide +kernel
theorem dX4_read_12 : decode cX4_read 12 = .ok (.ifCond .le 7, 3) := by decide +kernel
theorem dX4_read_15 : decode cX4_read 15 = .ok (.iconst 1, 1) := by decide +kernel
theorem dX4_read_16 : decode cX4_read 16 = .ok (.goto 4, 3) := by decide +kernel
theorem dX4_read_19 : decode cX4_read 19 = .ok (.iconst 0, 1) := by decide +kernel
theorem dX4_read_20 : decode cX4_read 20 = .ok (.putfield 36, 3) := by decide +kernel
theorem dX4_read_23 : decode cX4_read 23 = .ok (.iconst 0, 1) := by decide +kernel
theorem dX4_read_24 : decode cX4_read 24 = .ok (.istore_n 2, 1) := by decide +kernel
theorem dX4_read_25 : decode cX4_read 25 = .ok (.iload_n 2, 1) := by decide +kernel
theorem dX4_read_26 : decode cX4_read 26 = .ok (.aload_n 0, 1) := by decide +kernel
theorem dX4_read_27 : decode cX4_read 27 = .ok (.getfield 31, 3) := by decide +kernel
theorem dX4_read_30 : decode cX4_read 30 = .ok (.if_icmp .ge 40, 3) := by decide +kernel
theorem dX4_read_33 : decode cX4_read 33 = .ok (.aload_n 0, 1) := by decide +kernel
theorem dX4_read_34 : decode cX4_read 34 = .ok (.getfield 36, 3) := by decide +kernel
theorem dX4_read_37 : decode cX4_read 37 = .ok (.ifCond .eq 33, 3) := by decide +kernel
theorem dX4_read_40 : decode cX4_read 40 = .ok (.aload_n 0, 1) := by decide +kernel
theorem dX4_read_41 : decode cX4_read 41 = .ok (.getfield 13, 3) := by decide +kernel
theorem dX4_read_44 : decode cX4_read 44 = .ok (.iload_n 2, 1) := by decide +kernel
theorem dX4_read_45 : decode cX4_read 45 = .ok (.aload_n 0, 1) := by decide +kernel
theorem dX4_read_46 : decode cX4_read 46 = .ok (.getfield 7, 3) := by decide +kernel
theorem dX4_read_49 : decode cX4_read 49 = .ok (.iload_n 2, 1) := by decide +kernel
theorem dX4_read_50 : decode cX4_read 50 = .ok (.iaload, 1) := by decide +kernel
theorem dX4_read_51 : decode cX4_read 51 = .ok (.iastore, 1) := by decide +kernel
theorem dX4_read_52 : decode cX4_read 52 = .ok (.aload_n 0, 1) := by decide +kernel
theorem dX4_read_53 : decode cX4_read 53 = .ok (.getfield 16, 3) := by decide +kernel
theorem dX4_read_56 : decode cX4_read 56 = .ok (.iload_n 2, 1) := by decide +kernel
theorem dX4_read_57 : decode cX4_read 57 = .ok (.aload_n 0, 1) := by decide +kernel
theorem dX4_read_58 : decode cX4_read 58 = .ok (.getfield 7, 3) := by decide +kernel
theorem dX4_read_61 : decode cX4_read 61 = .ok (.iload_n 2, 1) := by decide +kernel
theorem dX4_read_62 : decode cX4_read 62 = .ok (.iaload, 1) := by decide +kernel
theorem dX4_read_63 : decode cX4_read 63 = .ok (.iastore, 1) := by decide +kernel
theorem dX4_read_64 : decode cX4_read 64 = .ok (.iinc 2 1, 3) := by decide +kernel
theorem dX4_read_67 : decode cX4_read 67 = .ok (.goto (-42), 3) := by decide +kernel
theorem dX4_read_70 : decode cX4_read 70 = .ok (.iload_n 1, 1) := by decide +kernel
theorem dX4_read_71 : decode cX4_read 71 = .ok (.ireturn, 1) := by decide +kernel
theorem dX4_rule_0 : decode cX4_rule 0 = .ok (.aload_n 0, 1) := by decide +kernel
theorem dX4_rule_1 : decode cX4_rule 1 = .ok (.iconst 0, 1) := by decide +kernel
theorem dX4_rule_2 : decode cX4_rule 2 = .ok (.putfield 19, 3) := by decide +kernel
theorem dX4_rule_5 : decode cX4_rule 5 = .ok (.aload_n 0, 1) := by decide +kernel
theorem dX4_rule_6 : decode cX4_rule 6 = .ok (.getfield 40, 3) := by decide +kernel
theorem dX4_rule_9 : decode cX4_rule 9 = .ok (.ireturn, 1) := by decide +kernel
set_option maxRecDepth 20000 in
theorem ggX4_ofMore_X4_two : GoodIn wsX4_ofMore wsX4_two := goodIn_ca (goodIn_r _ [6, 7, 8, 9, 10, 11, 12, 13, 14, 15, 16] (by decide +kernel) (by decide +kernel)) (goodIn_sub (fun _ h => List.mem_cons_of_mem _ (List.mem_append_right _ h)) (by decide +kernel))
set_option maxRecDepth 20000 in
theorem gX4_ofMore_X4_two : GoodIn wsX4_ofMore (wsV RX4 47 RX4 yX4_two wsX4_two) := goodIn_app (goodIn_of _ (by decide +kernel)) ggX4_ofMore_X4_two
theorem dX4_ofMore_0 : decode cX4_ofMore 0 = .ok (.aload_n 0, 1) := by decide +kernel
theorem dX4_ofMore_1 : decode cX4_ofMore 1 = .ok (.bipush 54, 2) := by decide +kernel
theorem dX4_ofMore_3 : decode cX4_ofMore 3 = .ok (.invokevirtual 47, 3) := by decide +kernel
theorem dX4_ofMore_6 : decode cX4_ofMore 6 = .ok (.istore_n 2, 1) := by decide +kernel
theorem dX4_ofMore_7 : decode cX4_ofMore 7 = .ok (.aload_n 0, 1) := by decide +kernel
theorem dX4_ofMore_8 : decode cX4_ofMore 8 = .ok (.getfield 51, 3) := by decide +kernel
theorem dX4_ofMore_11 : decode cX4_ofMore 11 = .ok (.iconst 5, 1) := by decide +kernel
theorem dX4_ofMore_12 : decode cX4_ofMore 12 = .ok (.if_icmp .lt 7, 3) := by decide +kernel
theorem dX4_ofMore_15 : decode cX4_ofMore 15 = .ok (.iload_n 2, 1) := by decide +kernel
theorem dX4_ofMore_16 : decode cX4_ofMore 16 = .ok (.ifCond .ne 5, 3) := by decide +kernel
theorem dX4_ofMore_19 : decode cX4_ofMore 19 = .ok (.iconst 0, 1) := by decide +kernel
theorem dX4_ofMore_20 : decode cX4_ofMore 20 = .ok (.ireturn, 1) := by decide +kernel
theorem dX4_ofMore_21 : decode cX4_ofMore 21 = .ok (.iload_n 1, 1) := by decide +kernel
theorem dX4_ofMore_22 : decode cX4_ofMore 22 = .ok (.bipush 11, 2) := by decide +kernel
theorem dX4_ofMore_24 : decode cX4_ofMore 24 = .ok (.if_icmp .ne 11, 3) := by decide +kernel
theorem dX4_ofMore_27 : decode cX4_ofMore 27 = .ok (.aload_n 0, 1) := by decide +kernel
theorem dX4_ofMore_28 : decode cX4_ofMore 28 = .ok (.iload_n 2, 1) := by decide +kernel
theorem dX4_ofMore_29 : decode cX4_ofMore 29 = .ok (.invokevirtual 47, 3) := by decide +kernel
theorem dX4_ofMore_32 : decode cX4_ofMore 32 = .ok (.goto 24, 3) := by decide +kernel
theorem dX4_ofMore_35 : decode cX4_ofMore 35 = .ok (.aload_n 0, 1) := by decide +kernel
theorem dX4_ofMore_36 : decode cX4_ofMore 36 = .ok (.iload_n 2, 1) := by decide +kernel
theorem dX4_ofMore_37 : decode cX4_ofMore 37 = .ok (.invokevirtual 47, 3) := by decide +kernel
theorem dX4_ofMore_40 : decode cX4_ofMore 40 = .ok (.iconst 2, 1) := by decide +kernel
theorem dX4_ofMore_41 : decode cX4_ofMore 41 = .ok (.if_icmp .le 14, 3) := by decide +kernel
theorem dX4_ofMore_44 : decode cX4_ofMore 44 = .ok (.aload_n 0, 1) := by decide +kernel
theorem dX4_ofMore_45 : decode cX4_ofMore 45 = .ok (.iload_n 2, 1) := by decide +kernel
theorem dX4_ofMore_46 : decode cX4_ofMore 46 = .ok (.bipush 6, 2) := by decide +kernel
theorem dX4_ofMore_48 : decode cX4_ofMore 48 = .ok (.iadd, 1) := by decide +kernel
theorem dX4_ofMore_49 : decode cX4_ofMore 49 = .ok (.invokevirtual 47, 3) := by decide +kernel
theorem dX4_ofMore_52 : decode cX4_ofMore 52 = .ok (.goto 4, 3) := by decide +kernel
theorem dX4_ofMore_55 : decode cX4_ofMore 55 = .ok (.iconst 0, 1) := by decide +kernel
theorem dX4_ofMore_56 : decode cX4_ofMore 56 = .ok (.ireturn, 1) := by decide +kernel
set_option maxRecDepth 20000 in
theorem ggX4_field_X4_two : GoodIn wsX4_field wsX4_two := goodIn_ca (goodIn_r _ [10, 5, 19, 20, 21, 22, 23, 24, 25, 26, 27] (by decide +kernel) (by decide +kernel)) (goodIn_sub (fun _ h => List.mem_cons_of_mem _ (List.mem_append_right _ h)) (by decide +kernel))
set_option maxRecDepth 20000 in
theorem gX4_field_X4_two : GoodIn wsX4_field (wsV RX4 47 RX4 yX4_two wsX4_two) := goodIn_app (goodIn_of _ (by decide +kernel)) ggX4_field_X4_two
set_option maxRecDepth 20000 in
theorem ggX4_field_X4_startOf : GoodIn wsX4_field wsX4_startOf := goodIn_ca (goodIn_r _ [14, 3, 6, 7, 8, 9, 10, 5, 19, 20, 21, 22, 23, 24, 25, 26, 27] (by decide +kernel) (by decide +kernel)) (goodIn_sub (fun _ h => List.mem_cons_of_mem _ (List.mem_append_right _ h)) (by decide +kernel))
set_option maxRecDepth 20000 in
theorem gX4_field_X4_startOf : GoodIn wsX4_field (wsV RX4 69 RX4 yX4_startOf wsX4_startOf) := goodIn_app (goodIn_of _ (by decide +kernel)) ggX4_field_X4_startOf
set_option maxRecDepth 20000 in
theorem ggX4_field_X4_ofMore : GoodIn wsX4_field wsX4_ofMore := goodIn_ca (goodIn_r _ [18, 3, 6, 7, 8, 9, 10, 5, 19, 20, 21, 22, 23, 24, 25, 26, 27] (by decide +kernel) (by decide +kernel)) (goodIn_sub (fun _ h => List.mem_cons_of_mem _ (List.mem_append_right _ h)) (by decide +kernel))
set_option maxRecDepth 20000 in
theorem gX4_field_X4_ofMore : GoodIn wsX4_field (wsV RX4 88 RX4 yX4_ofMore wsX4_ofMore) := goodIn_app (goodIn_of _ (by decide +kernel)) ggX4_field_X4_ofMore
theorem dX4_field_0 : decode cX4_field 0 = .ok (.aload_n 0, 1) := by decide +kernel
theorem dX4_field_1 : decode cX4_field 1 = .ok (.iconst 0, 1) := by decide +kernel
theorem dX4_field_2 : decode cX4_field 2 = .ok (.putfield 19, 3) := by decide +kernel
theorem dX4_field_5 : decode cX4_field 5 = .ok (.aload_n 0, 1) := by decide +kernel
theorem dX4_field_6 : decode cX4_field 6 = .ok (.getfield 36, 3) := by decide +kernel
theorem dX4_field_9 : decode cX4_field 9 = .ok (.ifCond .ne 6, 3) := by decide +kernel
theorem dX4_field_12 : decode cX4_field 12 = .ok (.bipush (-11), 2) := by decide +kernel
theorem dX4_field_14 : decode cX4_field 14 = .ok (.ireturn, 1) := by decide +kernel
theorem dX4_field_15 : decode cX4_field 15 = .ok (.aload_n 0, 1) := by decide +kernel
theorem dX4_field_16 : decode cX4_field 16 = .ok (.bipush 8, 2) := by decide +kernel
theorem dX4_field_18 : decode cX4_field 18 = .ok (.invokevirtual 47, 3) := by decide +kernel
theorem dX4_field_21 : decode cX4_field 21 = .ok (.istore_n 2, 1) := by decide +kernel
theorem dX4_field_22 : decode cX4_field 22 = .ok (.iload_n 1, 1) := by decide +kernel
theorem dX4_field_23 : decode cX4_field 23 = .ok (.tableswitch 244 0 17 #[85, 90, 95, 102, 108, 115, 122, 124, 143, 148, 167, 186, 186, 192, 198, 205, 221, 237], 85) := by decide +kernel
theorem dX4_field_108 : decode cX4_field 108 = .ok (.aload_n 0, 1) := by decide +kernel
theorem dX4_field_109 : decode cX4_field 109 = .ok (.getfield 51, 3) := by decide +kernel
theorem dX4_field_112 : decode cX4_field 112 = .ok (.ireturn, 1) := by decide +kernel
theorem dX4_field_113 : decode cX4_field 113 = .ok (.aload_n 0, 1) := by decide +kernel
theorem dX4_field_114 : decode cX4_field 114 = .ok (.getfield 54, 3) := by decide +kernel
theorem dX4_field_117 : decode cX4_field 117 = .ok (.ireturn, 1) := by decide +kernel
theorem dX4_field_118 : decode cX4_field 118 = .ok (.aload_n 0, 1) := by decide +kernel
theorem dX4_field_119 : decode cX4_field 119 = .ok (.bipush 14, 2) := by decide +kernel
theorem dX4_field_121 : decode cX4_field 121 = .ok (.invokevirtual 47, 3) := by decide +kernel
theorem dX4_field_124 : decode cX4_field 124 = .ok (.ireturn, 1) := by decide +kernel
theorem dX4_field_125 : decode cX4_field 125 = .ok (.aload_n 0, 1) := by decide +kernel
theorem dX4_field_126 : decode cX4_field 126 = .ok (.iconst 4, 1) := by decide +kernel
theorem dX4_field_127 : decode cX4_field 127 = .ok (.invokevirtual 47, 3) := by decide +kernel
theorem dX4_field_130 : decode cX4_field 130 = .ok (.ireturn, 1) := by decide +kernel
theorem dX4_field_131 : decode cX4_field 131 = .ok (.aload_n 0, 1) := by decide +kernel
theorem dX4_field_132 : decode cX4_field 132 = .ok (.bipush 12, 2) := by decide +kernel
theorem dX4_field_134 : decode cX4_field 134 = .ok (.invokevirtual 47, 3) := by decide +kernel
theorem dX4_field_137 : decode cX4_field 137 = .ok (.ireturn, 1) := by decide +kernel
theorem dX4_field_138 : decode cX4_field 138 = .ok (.aload_n 0, 1) := by decide +kernel
theorem dX4_field_139 : decode cX4_field 139 = .ok (.bipush 10, 2) := by decide +kernel
theorem dX4_field_141 : decode cX4_field 141 = .ok (.invokevirtual 47, 3) := by decide +kernel
theorem dX4_field_144 : decode cX4_field 144 = .ok (.ireturn, 1) := by decide +kernel
theorem dX4_field_145 : decode cX4_field 145 = .ok (.iload_n 2, 1) := by decide +kernel
theorem dX4_field_146 : decode cX4_field 146 = .ok (.ireturn, 1) := by decide +kernel
theorem dX4_field_147 : decode cX4_field 147 = .ok (.aload_n 0, 1) := by decide +kernel
theorem dX4_field_148 : decode cX4_field 148 = .ok (.getfield 51, 3) := by decide +kernel
theorem dX4_field_151 : decode cX4_field 151 = .ok (.iconst 1, 1) := by decide +kernel
theorem dX4_field_152 : decode cX4_field 152 = .ok (.if_icmp .ne 7, 3) := by decide +kernel
theorem dX4_field_155 : decode cX4_field 155 = .ok (.iconst 0, 1) := by decide +kernel
theorem dX4_field_156 : decode cX4_field 156 = .ok (.goto 9, 3) := by decide +kernel
theorem dX4_field_159 : decode cX4_field 159 = .ok (.aload_n 0, 1) := by decide +kernel
theorem dX4_field_160 : decode cX4_field 160 = .ok (.bipush 24, 2) := by decide +kernel
theorem dX4_field_162 : decode cX4_field 162 = .ok (.invokevirtual 47, 3) := by decide +kernel
theorem dX4_field_165 : decode cX4_field 165 = .ok (.ireturn, 1) := by decide +kernel
theorem dX4_field_166 : decode cX4_field 166 = .ok (.aload_n 0, 1) := by decide +kernel
theorem dX4_field_167 : decode cX4_field 167 = .ok (.invokevirtual 69, 3) := by decide +kernel
theorem dX4_field_170 : decode cX4_field 170 = .ok (.ireturn, 1) := by decide +kernel
theorem dX4_field_171 : decode cX4_field 171 = .ok (.aload_n 0, 1) := by decide +kernel
theorem dX4_field_172 : decode cX4_field 172 = .ok (.getfield 51, 3) := by decide +kernel
theorem dX4_field_175 : decode cX4_field 175 = .ok (.iconst 5, 1) := by decide +kernel
theorem dX4_field_176 : decode cX4_field 176 = .ok (.if_icmp .ge 7, 3) := by decide +kernel
theorem dX4_field_179 : decode cX4_field 179 = .ok (.iconst 0, 1) := by decide +kernel
theorem dX4_field_180 : decode cX4_field 180 = .ok (.goto 9, 3) := by decide +kernel
theorem dX4_field_183 : decode cX4_field 183 = .ok (.aload_n 0, 1) := by decide +kernel
theorem dX4_field_184 : decode cX4_field 184 = .ok (.bipush 52, 2) := by decide +kernel
theorem dX4_field_186 : decode cX4_field 186 = .ok (.invokevirtual 47, 3) := by decide +kernel
theorem dX4_field_189 : decode cX4_field 189 = .ok (.ireturn, 1) := by decide +kernel
theorem dX4_field_190 : decode cX4_field 190 = .ok (.aload_n 0, 1) := by decide +kernel
theorem dX4_field_191 : decode cX4_field 191 = .ok (.getfield 51, 3) := by decide +kernel
theorem dX4_field_194 : decode cX4_field 194 = .ok (.iconst 5, 1) := by decide +kernel
theorem dX4_field_195 : decode cX4_field 195 = .ok (.if_icmp .ge 7, 3) := by decide +kernel
theorem dX4_field_198 : decode cX4_field 198 = .ok (.iconst 0, 1) := by decide +kernel
theorem dX4_field_199 : decode cX4_field 199 = .ok (.goto 9, 3) := by decide +kernel
theorem dX4_field_202 : decode cX4_field 202 = .ok (.aload_n 0, 1) := by decide +kernel
theorem dX4_field_203 : decode cX4_field 203 = .ok (.bipush 46, 2) := by decide +kernel
theorem dX4_field_205 : decode cX4_field 205 = .ok (.invokevirtual 47, 3) := by decide +kernel
theorem dX4_field_208 : decode cX4_field 208 = .ok (.ireturn, 1) := by decide +kernel
theorem dX4_field_209 : decode cX4_field 209 = .ok (.aload_n 0, 1) := by decide +kernel
theorem dX4_field_210 : decode cX4_field 210 = .ok (.iload_n 1, 1) := by decide +kernel
theorem dX4_field_211 : decode cX4_field 211 = .ok (.invokevirtual 88, 3) := by decide +kernel
theorem dX4_field_214 : decode cX4_field 214 = .ok (.ireturn, 1) := by decide +kernel
theorem dX4_field_215 : decode cX4_field 215 = .ok (.aload_n 0, 1) := by decide +kernel
theorem dX4_field_216 : decode cX4_field 216 = .ok (.iconst 2, 1) := by decide +kernel
theorem dX4_field_217 : decode cX4_field 217 = .ok (.invokevirtual 47, 3) := by decide +kernel
theorem dX4_field_220 : decode cX4_field 220 = .ok (.ireturn, 1) := by decide +kernel
theorem dX4_field_221 : decode cX4_field 221 = .ok (.aload_n 0, 1) := by decide +kernel
theorem dX4_field_222 : decode cX4_field 222 = .ok (.bipush 28, 2) := by decide +kernel
theorem dX4_field_224 : decode cX4_field 224 = .ok (.invokevirtual 47, 3) := by decide +kernel
theorem dX4_field_227 : decode cX4_field 227 = .ok (.ireturn, 1) := by decide +kernel
theorem dX4_field_228 : decode cX4_field 228 = .ok (.aload_n 0, 1) := by decide +kernel
theorem dX4_field_229 : decode cX4_field 229 = .ok (.iload_n 2, 1) := by decide +kernel
theorem dX4_field_230 : decode cX4_field 230 = .ok (.iconst 2, 1) := by decide +kernel
theorem dX4_field_231 : decode cX4_field 231 = .ok (.iadd, 1) := by decide +kernel
theorem dX4_field_232 : decode cX4_field 232 = .ok (.aload_n 0, 1) := by decide +kernel
theorem dX4_field_233 : decode cX4_field 233 = .ok (.getfield 7, 3) := by decide +kernel
theorem dX4_field_236 : decode cX4_field 236 = .ok (.iload_n 2, 1) := by decide +kernel
theorem dX4_field_237 : decode cX4_field 237 = .ok (.iaload, 1) := by decide +kernel
theorem dX4_field_238 : decode cX4_field 238 = .ok (.iadd, 1) := by decide +kernel
theorem dX4_field_239 : decode cX4_field 239 = .ok (.invokevirtual 47, 3) := by decide +kernel
theorem dX4_field_242 : decode cX4_field 242 = .ok (.i2s, 1) := by decide +kernel
theorem dX4_field_243 : decode cX4_field 243 = .ok (.ireturn, 1) := by decide +kernel
theorem dX4_field_244 : decode cX4_field 244 = .ok (.aload_n 0, 1) := by decide +kernel
theorem dX4_field_245 : decode cX4_field 245 = .ok (.getfield 7, 3) := by decide +kernel
theorem dX4_field_248 : decode cX4_field 248 = .ok (.iload_n 2, 1) := by decide +kernel
theorem dX4_field_249 : decode cX4_field 249 = .ok (.iconst 1, 1) := by decide +kernel
theorem dX4_field_250 : decode cX4_field 250 = .ok (.iadd, 1) := by decide +kernel
theorem dX4_field_251 : decode cX4_field 251 = .ok (.aload_n 0, 1) := by decide +kernel
theorem dX4_field_252 : decode cX4_field 252 = .ok (.getfield 7, 3) := by decide +kernel
theorem dX4_field_255 : decode cX4_field 255 = .ok (.iload_n 2, 1) := by decide +kernel
theorem dX4_field_256 : decode cX4_field 256 = .ok (.iaload, 1) := by decide +kernel
theorem dX4_field_257 : decode cX4_field 257 = .ok (.iadd, 1) := by decide +kernel
theorem dX4_field_258 : decode cX4_field 258 = .ok (.iaload, 1) := by decide +kernel
theorem dX4_field_259 : decode cX4_field 259 = .ok (.ireturn, 1) := by decide +kernel
theorem dX4_field_260 : decode cX4_field 260 = .ok (.aload_n 0, 1) := by decide +kernel
theorem dX4_field_261 : decode cX4_field 261 = .ok (.getfield 7, 3) := by decide +kernel
theorem dX4_field_264 : decode cX4_field 264 = .ok (.iload_n 2, 1) := by decide +kernel
theorem dX4_field_265 : decode cX4_field 265 = .ok (.iaload, 1) := by decide +kernel
theorem dX4_field_266 : decode cX4_field 266 = .ok (.ireturn, 1) := by decide +kernel
theorem dX4_field_267 : decode cX4_field 267 = .ok (.bipush (-12), 2) := by decide +kernel
theorem dX4_field_269 : decode cX4_field 269 = .ok (.ireturn, 1) := by decide +kernel
theorem dX4_thrownAt_0 : decode cX4_thrownAt 0 = .ok (.aload_n 0, 1) := by decide +kernel
theorem dX4_thrownAt_1 : decode cX4_thrownAt 1 = .ok (.iconst 1, 1) := by decide +kernel
theorem dX4_thrownAt_2 : decode cX4_thrownAt 2 = .ok (.putfield 19, 3) := by decide +kernel
theorem dX4_thrownAt_5 : decode cX4_thrownAt 5 = .ok (.iconst 0, 1) := by decide +kernel
theorem dX4_thrownAt_6 : decode cX4_thrownAt 6 = .ok (.ireturn, 1) := by decide +kernel
set_option maxRecDepth 20000 in
theorem ggX4_serial_X4_in : GoodIn wsX4_serial wsX4_in := goodIn_r _ [7] (by decide +kernel) (by decide +kernel)
set_option maxRecDepth 20000 in
theorem gX4_serial_X4_in : GoodIn wsX4_serial (va_wsS RX4 27 yX4_in wsX4_in) := goodIn_app (goodIn_of _ (by decide +kernel)) ggX4_serial_X4_in
set_option maxRecDepth 20000 in
theorem ggX4_serial_X4_thrownAt : GoodIn wsX4_serial wsX4_thrownAt := goodIn_r _ [11, 1, 12, 13, 14, 15, 16, 17, 18, 19, 20] (by decide +kernel) (by decide +kernel)
set_option maxRecDepth 20000 in
theorem gX4_serial_X4_thrownAt : GoodIn wsX4_serial (wsV RX4 91 RX4 yX4_thrownAt wsX4_thrownAt) := goodIn_app (goodIn_of _ (by decide +kernel)) ggX4_serial_X4_thrownAt
theorem dX4_serial_0 : decode cX4_serial 0 = .ok (.aload_n 0, 1) := by decide +kernel
theorem dX4_serial_1 : decode cX4_serial 1 = .ok (.iconst 0, 1) := by decide +kernel
theorem dX4_serial_2 : decode cX4_serial 2 = .ok (.putfield 19, 3) := by decide +kernel
theorem dX4_serial_5 : decode cX4_serial 5 = .ok (.aload_n 0, 1) := by decide +kernel
theorem dX4_serial_6 : decode cX4_serial 6 = .ok (.getfield 36, 3) := by decide +kernel
theorem dX4_serial_9 : decode cX4_serial 9 = .ok (.ifCond .ne 6, 3) := by decide +kernel
theorem dX4_serial_12 : decode cX4_serial 12 = .ok (.bipush (-11), 2) := by decide +kernel
theorem dX4_serial_14 : decode cX4_serial 14 = .ok (.ireturn, 1) := by decide +kernel
theorem dX4_serial_15 : decode cX4_serial 15 = .ok (.iload_n 1, 1) := by decide +kernel
theorem dX4_serial_16 : decode cX4_serial 16 = .ok (.iconst 0, 1) := by decide +kernel
theorem dX4_serial_17 : decode cX4_serial 17 = .ok (.iconst 5, 1) := by decide +kernel
theorem dX4_serial_18 : decode cX4_serial 18 = .ok (.invokestatic 27, 3) := by decide +kernel
theorem dX4_serial_21 : decode cX4_serial 21 = .ok (.ifCond .eq 15, 3) := by decide +kernel
theorem dX4_serial_24 : decode cX4_serial 24 = .ok (.aload_n 0, 1) := by decide +kernel
theorem dX4_serial_25 : decode cX4_serial 25 = .ok (.getfield 13, 3) := by decide +kernel
theorem dX4_serial_28 : decode cX4_serial 28 = .ok (.bipush 18, 2) := by decide +kernel
theorem dX4_serial_30 : decode cX4_serial 30 = .ok (.iload_n 1, 1) := by decide +kernel
theorem dX4_serial_31 : decode cX4_serial 31 = .ok (.iadd, 1) := by decide +kernel
theorem dX4_serial_32 : decode cX4_serial 32 = .ok (.iaload, 1) := by decide +kernel
theorem dX4_serial_33 : decode cX4_serial 33 = .ok (.goto 7, 3) := by decide +kernel
theorem dX4_serial_36 : decode cX4_serial 36 = .ok (.aload_n 0, 1) := by decide +kernel
theorem dX4_serial_37 : decode cX4_serial 37 = .ok (.invokevirtual 91, 3) := by decide +kernel
theorem dX4_serial_40 : decode cX4_serial 40 = .ok (.ireturn, 1) := by decide +kernel
set_option maxRecDepth 20000 in
theorem ggX4_global_X4_in : GoodIn wsX4_global wsX4_in := goodIn_r _ [7] (by decide +kernel) (by decide +kernel)
set_option maxRecDepth 20000 in
theorem gX4_global_X4_in : GoodIn wsX4_global (va_wsS RX4 27 yX4_in wsX4_in) := goodIn_app (goodIn_of _ (by decide +kernel)) ggX4_global_X4_in
set_option maxRecDepth 20000 in
theorem ggX4_global_X4_thrownAt : GoodIn wsX4_global wsX4_thrownAt := goodIn_r _ [11, 1, 17, 18, 19, 20, 21, 22, 23, 24, 25] (by decide +kernel) (by decide +kernel)
set_option maxRecDepth 20000 in
theorem gX4_global_X4_thrownAt : GoodIn wsX4_global (wsV RX4 91 RX4 yX4_thrownAt wsX4_thrownAt) := goodIn_app (goodIn_of _ (by decide +kernel)) ggX4_global_X4_thrownAt
set_option maxRecDepth 20000 in
theorem ggX4_global_X4_two : GoodIn wsX4_global wsX4_two := goodIn_ca (goodIn_r _ [15, 16, 17, 18, 19, 20, 21, 22, 23, 24, 25] (by decide +kernel) (by decide +kernel)) (goodIn_sub (fun _ h => List.mem_cons_of_mem _ (List.mem_append_right _ h)) (by decide +kernel))
set_option maxRecDepth 20000 in
theorem gX4_global_X4_two : GoodIn wsX4_global (wsV RX4 47 RX4 yX4_two wsX4_two) := goodIn_app (goodIn_of _ (by decide +kernel)) ggX4_global_X4_two
theorem dX4_global_0 : decode cX4_global 0 = .ok (.aload_n 0, 1) := by decide +kernel
theorem dX4_global_1 : decode cX4_global 1 = .ok (.iconst 0, 1) := by decide +kernel
theorem dX4_global_2 : decode cX4_global 2 = .ok (.putfield 19, 3) := by decide +kernel
theorem dX4_global_5 : decode cX4_global 5 = .ok (.aload_n 0, 1) := by decide +kernel
theorem dX4_global_6 : decode cX4_global 6 = .ok (.getfield 36, 3) := by decide +kernel
theorem dX4_global_9 : decode cX4_global 9 = .ok (.ifCond .ne 6, 3) := by decide +kernel
theorem dX4_global_12 : decode cX4_global 12 = .ok (.bipush (-11), 2) := by decide +kernel
theorem dX4_global_14 : decode cX4_global 14 = .ok (.ireturn, 1) := by decide +kernel
theorem dX4_global_15 : decode cX4_global 15 = .ok (.iload_n 1, 1) := by decide +kernel
theorem dX4_global_16 : decode cX4_global 16 = .ok (.iconst 0, 1) := by decide +kernel
theorem dX4_global_17 : decode cX4_global 17 = .ok (.sipush 239, 3) := by decide +kernel
theorem dX4_global_20 : decode cX4_global 20 = .ok (.invokestatic 27, 3) := by decide +kernel
theorem dX4_global_23 : decode cX4_global 23 = .ok (.ifCond .ne 8, 3) := by decide +kernel
theorem dX4_global_26 : decode cX4_global 26 = .ok (.aload_n 0, 1) := by decide +kernel
theorem dX4_global_27 : decode cX4_global 27 = .ok (.invokevirtual 91, 3) := by decide +kernel
theorem dX4_global_30 : decode cX4_global 30 = .ok (.ireturn, 1) := by decide +kernel
theorem dX4_global_31 : decode cX4_global 31 = .ok (.aload_n 0, 1) := by decide +kernel
theorem dX4_global_32 : decode cX4_global 32 = .ok (.bipush 12, 2) := by decide +kernel
theorem dX4_global_34 : decode cX4_global 34 = .ok (.invokevirtual 47, 3) := by decide +kernel
theorem dX4_global_37 : decode cX4_global 37 = .ok (.iconst 2, 1) := by decide +kernel
theorem dX4_global_38 : decode cX4_global 38 = .ok (.iload_n 1, 1) := by decide +kernel
theorem dX4_global_39 : decode cX4_global 39 = .ok (.imul, 1) := by decide +kernel
theorem dX4_global_40 : decode cX4_global 40 = .ok (.iadd, 1) := by decide +kernel
theorem dX4_global_41 : decode cX4_global 41 = .ok (.istore_n 2, 1) := by decide +kernel
theorem dX4_global_42 : decode cX4_global 42 = .ok (.sipush 256, 3) := by decide +kernel
theorem dX4_global_45 : decode cX4_global 45 = .ok (.aload_n 0, 1) := by decide +kernel
theorem dX4_global_46 : decode cX4_global 46 = .ok (.getfield 16, 3) := by decide +kernel
