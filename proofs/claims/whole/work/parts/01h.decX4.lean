theorem dX4_global_49 : decode cX4_global 49 = .ok (.iload_n 2, 1) := by decide +kernel
theorem dX4_global_50 : decode cX4_global 50 = .ok (.iaload, 1) := by decide +kernel
theorem dX4_global_51 : decode cX4_global 51 = .ok (.imul, 1) := by decide +kernel
theorem dX4_global_52 : decode cX4_global 52 = .ok (.aload_n 0, 1) := by decide +kernel
theorem dX4_global_53 : decode cX4_global 53 = .ok (.getfield 16, 3) := by decide +kernel
theorem dX4_global_56 : decode cX4_global 56 = .ok (.iload_n 2, 1) := by decide +kernel
theorem dX4_global_57 : decode cX4_global 57 = .ok (.iconst 1, 1) := by decide +kernel
theorem dX4_global_58 : decode cX4_global 58 = .ok (.iadd, 1) := by decide +kernel
theorem dX4_global_59 : decode cX4_global 59 = .ok (.iaload, 1) := by decide +kernel
theorem dX4_global_60 : decode cX4_global 60 = .ok (.iadd, 1) := by decide +kernel
theorem dX4_global_61 : decode cX4_global 61 = .ok (.i2s, 1) := by decide +kernel
theorem dX4_global_62 : decode cX4_global 62 = .ok (.ireturn, 1) := by decide +kernel
set_option maxRecDepth 20000 in
theorem ggX4_load_X4_in : GoodIn wsX4_load wsX4_in := goodIn_r _ [8] (by decide +kernel) (by decide +kernel)
set_option maxRecDepth 20000 in
theorem gX4_load_X4_in : GoodIn wsX4_load (va_wsS RX4 27 yX4_in wsX4_in) := goodIn_app (goodIn_of _ (by decide +kernel)) ggX4_load_X4_in
set_option maxRecDepth 20000 in
theorem ggX4_load_X4_thrownAt : GoodIn wsX4_load wsX4_thrownAt := goodIn_r _ [12, 1, 13, 14, 15, 16, 17, 18, 19, 20, 21] (by decide +kernel) (by decide +kernel)
set_option maxRecDepth 20000 in
theorem gX4_load_X4_thrownAt : GoodIn wsX4_load (wsV RX4 91 RX4 yX4_thrownAt wsX4_thrownAt) := goodIn_app (goodIn_of _ (by decide +kernel)) ggX4_load_X4_thrownAt
theorem dX4_load_0 : decode cX4_load 0 = .ok (.aload_n 0, 1) := by decide +kernel
theorem dX4_load_1 : decode cX4_load 1 = .ok (.iconst 0, 1) := by decide +kernel
theorem dX4_load_2 : decode cX4_load 2 = .ok (.putfield 19, 3) := by decide +kernel
theorem dX4_load_5 : decode cX4_load 5 = .ok (.aload_n 0, 1) := by decide +kernel
theorem dX4_load_6 : decode cX4_load 6 = .ok (.getfield 36, 3) := by decide +kernel
theorem dX4_load_9 : decode cX4_load 9 = .ok (.ifCond .ne 6, 3) := by decide +kernel
theorem dX4_load_12 : decode cX4_load 12 = .ok (.bipush (-11), 2) := by decide +kernel
theorem dX4_load_14 : decode cX4_load 14 = .ok (.ireturn, 1) := by decide +kernel
theorem dX4_load_15 : decode cX4_load 15 = .ok (.iload_n 1, 1) := by decide +kernel
theorem dX4_load_16 : decode cX4_load 16 = .ok (.iconst 0, 1) := by decide +kernel
theorem dX4_load_17 : decode cX4_load 17 = .ok (.aload_n 0, 1) := by decide +kernel
theorem dX4_load_18 : decode cX4_load 18 = .ok (.getfield 31, 3) := by decide +kernel
theorem dX4_load_21 : decode cX4_load 21 = .ok (.iconst 1, 1) := by decide +kernel
theorem dX4_load_22 : decode cX4_load 22 = .ok (.isub, 1) := by decide +kernel
theorem dX4_load_23 : decode cX4_load 23 = .ok (.invokestatic 27, 3) := by decide +kernel
theorem dX4_load_26 : decode cX4_load 26 = .ok (.ifCond .eq 12, 3) := by decide +kernel
theorem dX4_load_29 : decode cX4_load 29 = .ok (.aload_n 0, 1) := by decide +kernel
theorem dX4_load_30 : decode cX4_load 30 = .ok (.getfield 16, 3) := by decide +kernel
theorem dX4_load_33 : decode cX4_load 33 = .ok (.iload_n 1, 1) := by decide +kernel
theorem dX4_load_34 : decode cX4_load 34 = .ok (.iaload, 1) := by decide +kernel
theorem dX4_load_35 : decode cX4_load 35 = .ok (.goto 7, 3) := by decide +kernel
theorem dX4_load_38 : decode cX4_load 38 = .ok (.aload_n 0, 1) := by decide +kernel
theorem dX4_load_39 : decode cX4_load 39 = .ok (.invokevirtual 91, 3) := by decide +kernel
theorem dX4_load_42 : decode cX4_load 42 = .ok (.ireturn, 1) := by decide +kernel
set_option maxRecDepth 20000 in
theorem ggX4_store_X4_two : GoodIn wsX4_store wsX4_two := goodIn_ca (goodIn_r _ [8, 9, 13, 14, 15, 16, 17, 18, 19, 20, 21] (by decide +kernel) (by decide +kernel)) (goodIn_sub (fun _ h => List.mem_cons_of_mem _ (List.mem_append_right _ h)) (by decide +kernel))
set_option maxRecDepth 20000 in
theorem gX4_store_X4_two : GoodIn wsX4_store (wsV RX4 47 RX4 yX4_two wsX4_two) := goodIn_app (goodIn_of _ (by decide +kernel)) ggX4_store_X4_two
set_option maxRecDepth 20000 in
theorem ggX4_store_X4_in : GoodIn wsX4_store wsX4_in := goodIn_r _ [12] (by decide +kernel) (by decide +kernel)
set_option maxRecDepth 20000 in
theorem gX4_store_X4_in : GoodIn wsX4_store (va_wsS RX4 27 yX4_in wsX4_in) := goodIn_app (goodIn_of _ (by decide +kernel)) ggX4_store_X4_in
theorem dX4_store_0 : decode cX4_store 0 = .ok (.aload_n 0, 1) := by decide +kernel
theorem dX4_store_1 : decode cX4_store 1 = .ok (.iconst 0, 1) := by decide +kernel
theorem dX4_store_2 : decode cX4_store 2 = .ok (.putfield 19, 3) := by decide +kernel
theorem dX4_store_5 : decode cX4_store 5 = .ok (.aload_n 0, 1) := by decide +kernel
theorem dX4_store_6 : decode cX4_store 6 = .ok (.getfield 36, 3) := by decide +kernel
theorem dX4_store_9 : decode cX4_store 9 = .ok (.ifCond .ne 6, 3) := by decide +kernel
theorem dX4_store_12 : decode cX4_store 12 = .ok (.bipush (-11), 2) := by decide +kernel
theorem dX4_store_14 : decode cX4_store 14 = .ok (.ireturn, 1) := by decide +kernel
theorem dX4_store_15 : decode cX4_store 15 = .ok (.iload_n 1, 1) := by decide +kernel
theorem dX4_store_16 : decode cX4_store 16 = .ok (.bipush 64, 2) := by decide +kernel
theorem dX4_store_18 : decode cX4_store 18 = .ok (.aload_n 0, 1) := by decide +kernel
theorem dX4_store_19 : decode cX4_store 19 = .ok (.bipush 14, 2) := by decide +kernel
theorem dX4_store_21 : decode cX4_store 21 = .ok (.invokevirtual 47, 3) := by decide +kernel
theorem dX4_store_24 : decode cX4_store 24 = .ok (.iconst 1, 1) := by decide +kernel
theorem dX4_store_25 : decode cX4_store 25 = .ok (.isub, 1) := by decide +kernel
theorem dX4_store_26 : decode cX4_store 26 = .ok (.invokestatic 27, 3) := by decide +kernel
theorem dX4_store_29 : decode cX4_store 29 = .ok (.ifCond .ne 6, 3) := by decide +kernel
theorem dX4_store_32 : decode cX4_store 32 = .ok (.bipush (-13), 2) := by decide +kernel
theorem dX4_store_34 : decode cX4_store 34 = .ok (.ireturn, 1) := by decide +kernel
theorem dX4_store_35 : decode cX4_store 35 = .ok (.aload_n 0, 1) := by decide +kernel
theorem dX4_store_36 : decode cX4_store 36 = .ok (.getfield 16, 3) := by decide +kernel
theorem dX4_store_39 : decode cX4_store 39 = .ok (.iload_n 1, 1) := by decide +kernel
theorem dX4_store_40 : decode cX4_store 40 = .ok (.iaload, 1) := by decide +kernel
theorem dX4_store_41 : decode cX4_store 41 = .ok (.istore_n 3, 1) := by decide +kernel
theorem dX4_store_42 : decode cX4_store 42 = .ok (.aload_n 0, 1) := by decide +kernel
theorem dX4_store_43 : decode cX4_store 43 = .ok (.getfield 16, 3) := by decide +kernel
theorem dX4_store_46 : decode cX4_store 46 = .ok (.iload_n 1, 1) := by decide +kernel
theorem dX4_store_47 : decode cX4_store 47 = .ok (.iload_n 2, 1) := by decide +kernel
theorem dX4_store_48 : decode cX4_store 48 = .ok (.sipush 255, 3) := by decide +kernel
theorem dX4_store_51 : decode cX4_store 51 = .ok (.iand, 1) := by decide +kernel
theorem dX4_store_52 : decode cX4_store 52 = .ok (.iastore, 1) := by decide +kernel
theorem dX4_store_53 : decode cX4_store 53 = .ok (.iload_n 3, 1) := by decide +kernel
theorem dX4_store_54 : decode cX4_store 54 = .ok (.ireturn, 1) := by decide +kernel
set_option maxRecDepth 20000 in
theorem ggX4_packedAt_X4_two : GoodIn wsX4_packedAt wsX4_two := goodIn_ca (goodIn_r _ [6, 7, 8, 9, 10, 11, 12, 13, 14, 15, 16] (by decide +kernel) (by decide +kernel)) (goodIn_sub (fun _ h => List.mem_cons_of_mem _ (List.mem_append_right _ h)) (by decide +kernel))
set_option maxRecDepth 20000 in
theorem gX4_packedAt_X4_two : GoodIn wsX4_packedAt (wsV RX4 47 RX4 yX4_two wsX4_two) := goodIn_app (goodIn_of _ (by decide +kernel)) ggX4_packedAt_X4_two
theorem dX4_packedAt_0 : decode cX4_packedAt 0 = .ok (.aload_n 0, 1) := by decide +kernel
theorem dX4_packedAt_1 : decode cX4_packedAt 1 = .ok (.getfield 51, 3) := by decide +kernel
theorem dX4_packedAt_4 : decode cX4_packedAt 4 = .ok (.bipush 6, 2) := by decide +kernel
theorem dX4_packedAt_6 : decode cX4_packedAt 6 = .ok (.if_icmp .eq 12, 3) := by decide +kernel
theorem dX4_packedAt_9 : decode cX4_packedAt 9 = .ok (.aload_n 0, 1) := by decide +kernel
theorem dX4_packedAt_10 : decode cX4_packedAt 10 = .ok (.getfield 51, 3) := by decide +kernel
theorem dX4_packedAt_13 : decode cX4_packedAt 13 = .ok (.bipush 7, 2) := by decide +kernel
theorem dX4_packedAt_15 : decode cX4_packedAt 15 = .ok (.if_icmp .ne 24, 3) := by decide +kernel
theorem dX4_packedAt_18 : decode cX4_packedAt 18 = .ok (.bipush 8, 2) := by decide +kernel
theorem dX4_packedAt_20 : decode cX4_packedAt 20 = .ok (.aload_n 0, 1) := by decide +kernel
theorem dX4_packedAt_21 : decode cX4_packedAt 21 = .ok (.iload_n 2, 1) := by decide +kernel
theorem dX4_packedAt_22 : decode cX4_packedAt 22 = .ok (.ifCond .eq 8, 3) := by decide +kernel
theorem dX4_packedAt_25 : decode cX4_packedAt 25 = .ok (.bipush 42, 2) := by decide +kernel
theorem dX4_packedAt_27 : decode cX4_packedAt 27 = .ok (.goto 5, 3) := by decide +kernel
theorem dX4_packedAt_30 : decode cX4_packedAt 30 = .ok (.bipush 40, 2) := by decide +kernel
theorem dX4_packedAt_32 : decode cX4_packedAt 32 = .ok (.invokevirtual 47, 3) := by decide +kernel
theorem dX4_packedAt_35 : decode cX4_packedAt 35 = .ok (.imul, 1) := by decide +kernel
theorem dX4_packedAt_36 : decode cX4_packedAt 36 = .ok (.goto 4, 3) := by decide +kernel
theorem dX4_packedAt_39 : decode cX4_packedAt 39 = .ok (.iconst 0, 1) := by decide +kernel
theorem dX4_packedAt_40 : decode cX4_packedAt 40 = .ok (.istore_n 3, 1) := by decide +kernel
theorem dX4_packedAt_41 : decode cX4_packedAt 41 = .ok (.iload_n 1, 1) := by decide +kernel
theorem dX4_packedAt_42 : decode cX4_packedAt 42 = .ok (.aload_n 0, 1) := by decide +kernel
theorem dX4_packedAt_43 : decode cX4_packedAt 43 = .ok (.getfield 51, 3) := by decide +kernel
theorem dX4_packedAt_46 : decode cX4_packedAt 46 = .ok (.iconst 4, 1) := by decide +kernel
theorem dX4_packedAt_47 : decode cX4_packedAt 47 = .ok (.if_icmp .ge 7, 3) := by decide +kernel
theorem dX4_packedAt_50 : decode cX4_packedAt 50 = .ok (.iconst 2, 1) := by decide +kernel
theorem dX4_packedAt_51 : decode cX4_packedAt 51 = .ok (.goto 18, 3) := by decide +kernel
theorem dX4_packedAt_54 : decode cX4_packedAt 54 = .ok (.aload_n 0, 1) := by decide +kernel
theorem dX4_packedAt_55 : decode cX4_packedAt 55 = .ok (.getfield 51, 3) := by decide +kernel
theorem dX4_packedAt_58 : decode cX4_packedAt 58 = .ok (.bipush 8, 2) := by decide +kernel
theorem dX4_packedAt_60 : decode cX4_packedAt 60 = .ok (.if_icmp .ge 7, 3) := by decide +kernel
theorem dX4_packedAt_63 : decode cX4_packedAt 63 = .ok (.iconst 4, 1) := by decide +kernel
theorem dX4_packedAt_64 : decode cX4_packedAt 64 = .ok (.goto 5, 3) := by decide +kernel
theorem dX4_packedAt_67 : decode cX4_packedAt 67 = .ok (.bipush 8, 2) := by decide +kernel
theorem dX4_packedAt_69 : decode cX4_packedAt 69 = .ok (.imul, 1) := by decide +kernel
theorem dX4_packedAt_70 : decode cX4_packedAt 70 = .ok (.iload_n 3, 1) := by decide +kernel
theorem dX4_packedAt_71 : decode cX4_packedAt 71 = .ok (.iadd, 1) := by decide +kernel
theorem dX4_packedAt_72 : decode cX4_packedAt 72 = .ok (.ireturn, 1) := by decide +kernel
set_option maxRecDepth 20000 in
theorem ggX4_packed_X4_in : GoodIn wsX4_packed wsX4_in := goodIn_r _ [7] (by decide +kernel) (by decide +kernel)
set_option maxRecDepth 20000 in
theorem gX4_packed_X4_in : GoodIn wsX4_packed (va_wsS RX4 27 yX4_in wsX4_in) := goodIn_app (goodIn_of _ (by decide +kernel)) ggX4_packed_X4_in
set_option maxRecDepth 20000 in
theorem ggX4_packed_X4_packedAt : GoodIn wsX4_packed wsX4_packedAt := goodIn_ca (goodIn_r _ [11, 12, 13, 14, 15, 6, 16, 17, 18, 19, 20, 21, 22, 23, 24, 25, 26] (by decide +kernel) (by decide +kernel)) (goodIn_sub (fun _ h => List.mem_cons_of_mem _ (List.mem_append_right _ h)) (by decide +kernel))
set_option maxRecDepth 20000 in
theorem gX4_packed_X4_packedAt : GoodIn wsX4_packed (wsV RX4 95 RX4 yX4_packedAt wsX4_packedAt) := goodIn_app (goodIn_of _ (by decide +kernel)) ggX4_packed_X4_packedAt
theorem dX4_packed_0 : decode cX4_packed 0 = .ok (.aload_n 0, 1) := by decide +kernel
theorem dX4_packed_1 : decode cX4_packed 1 = .ok (.iconst 0, 1) := by decide +kernel
theorem dX4_packed_2 : decode cX4_packed 2 = .ok (.putfield 19, 3) := by decide +kernel
theorem dX4_packed_5 : decode cX4_packed 5 = .ok (.aload_n 0, 1) := by decide +kernel
theorem dX4_packed_6 : decode cX4_packed 6 = .ok (.getfield 36, 3) := by decide +kernel
theorem dX4_packed_9 : decode cX4_packed 9 = .ok (.ifCond .ne 8, 3) := by decide +kernel
theorem dX4_packed_12 : decode cX4_packed 12 = .ok (.bipush (-11), 2) := by decide +kernel
theorem dX4_packed_14 : decode cX4_packed 14 = .ok (.goto 24, 3) := by decide +kernel
theorem dX4_packed_17 : decode cX4_packed 17 = .ok (.iload_n 1, 1) := by decide +kernel
theorem dX4_packed_18 : decode cX4_packed 18 = .ok (.iconst 0, 1) := by decide +kernel
theorem dX4_packed_19 : decode cX4_packed 19 = .ok (.ldc 94, 2) := by decide +kernel
theorem dX4_packed_21 : decode cX4_packed 21 = .ok (.invokestatic 27, 3) := by decide +kernel
theorem dX4_packed_24 : decode cX4_packed 24 = .ok (.ifCond .eq 12, 3) := by decide +kernel
theorem dX4_packed_27 : decode cX4_packed 27 = .ok (.aload_n 0, 1) := by decide +kernel
theorem dX4_packed_28 : decode cX4_packed 28 = .ok (.iload_n 1, 1) := by decide +kernel
theorem dX4_packed_29 : decode cX4_packed 29 = .ok (.iload_n 2, 1) := by decide +kernel
theorem dX4_packed_30 : decode cX4_packed 30 = .ok (.invokevirtual 95, 3) := by decide +kernel
theorem dX4_packed_33 : decode cX4_packed 33 = .ok (.goto 5, 3) := by decide +kernel
theorem dX4_packed_36 : decode cX4_packed 36 = .ok (.bipush (-12), 2) := by decide +kernel
theorem dX4_packed_38 : decode cX4_packed 38 = .ok (.ireturn, 1) := by decide +kernel
set_option maxRecDepth 20000 in
theorem ggX4_first_X4_in : GoodIn wsX4_first wsX4_in := goodIn_r _ [7] (by decide +kernel) (by decide +kernel)
set_option maxRecDepth 20000 in
theorem gX4_first_X4_in : GoodIn wsX4_first (va_wsS RX4 27 yX4_in wsX4_in) := goodIn_app (goodIn_of _ (by decide +kernel)) ggX4_first_X4_in
set_option maxRecDepth 20000 in
theorem ggX4_first_X4_packedAt : GoodIn wsX4_first wsX4_packedAt := goodIn_ca (goodIn_r _ [11, 12, 13, 14, 15, 6, 16, 17, 28, 29, 30, 31, 32, 33, 34, 35, 36] (by decide +kernel) (by decide +kernel)) (goodIn_sub (fun _ h => List.mem_cons_of_mem _ (List.mem_append_right _ h)) (by decide +kernel))
set_option maxRecDepth 20000 in
theorem gX4_first_X4_packedAt : GoodIn wsX4_first (wsV RX4 95 RX4 yX4_packedAt wsX4_packedAt) := goodIn_app (goodIn_of _ (by decide +kernel)) ggX4_first_X4_packedAt
set_option maxRecDepth 20000 in
theorem ggX4_first_X4_load : GoodIn wsX4_first wsX4_load := goodIn_ca (goodIn_r _ [21, 1, 2, 22, 23, 4, 5, 6, 7, 24, 25, 26, 27, 28, 29, 30, 31, 32, 33, 34, 35, 36] (by decide +kernel) (by decide +kernel)) (goodIn_sub (fun _ h => List.mem_cons_of_mem _ (List.mem_append_right _ h)) (by decide +kernel))
set_option maxRecDepth 20000 in
theorem gX4_first_X4_load : GoodIn wsX4_first (wsV RX4 99 RX4 yX4_load wsX4_load) := goodIn_app (goodIn_of _ (by decide +kernel)) ggX4_first_X4_load
theorem dX4_first_0 : decode cX4_first 0 = .ok (.aload_n 0, 1) := by decide +kernel
theorem dX4_first_1 : decode cX4_first 1 = .ok (.iconst 0, 1) := by decide +kernel
theorem dX4_first_2 : decode cX4_first 2 = .ok (.putfield 19, 3) := by decide +kernel
theorem dX4_first_5 : decode cX4_first 5 = .ok (.aload_n 0, 1) := by decide +kernel
theorem dX4_first_6 : decode cX4_first 6 = .ok (.getfield 36, 3) := by decide +kernel
theorem dX4_first_9 : decode cX4_first 9 = .ok (.ifCond .ne 6, 3) := by decide +kernel
theorem dX4_first_12 : decode cX4_first 12 = .ok (.bipush (-11), 2) := by decide +kernel
theorem dX4_first_14 : decode cX4_first 14 = .ok (.ireturn, 1) := by decide +kernel
theorem dX4_first_15 : decode cX4_first 15 = .ok (.iload_n 1, 1) := by decide +kernel
theorem dX4_first_16 : decode cX4_first 16 = .ok (.iconst 0, 1) := by decide +kernel
theorem dX4_first_17 : decode cX4_first 17 = .ok (.ldc 94, 2) := by decide +kernel
theorem dX4_first_19 : decode cX4_first 19 = .ok (.invokestatic 27, 3) := by decide +kernel
theorem dX4_first_22 : decode cX4_first 22 = .ok (.ifCond .eq 16, 3) := by decide +kernel
theorem dX4_first_25 : decode cX4_first 25 = .ok (.aload_n 0, 1) := by decide +kernel
theorem dX4_first_26 : decode cX4_first 26 = .ok (.aload_n 0, 1) := by decide +kernel
theorem dX4_first_27 : decode cX4_first 27 = .ok (.iload_n 1, 1) := by decide +kernel
theorem dX4_first_28 : decode cX4_first 28 = .ok (.iload_n 2, 1) := by decide +kernel
theorem dX4_first_29 : decode cX4_first 29 = .ok (.invokevirtual 95, 3) := by decide +kernel
theorem dX4_first_32 : decode cX4_first 32 = .ok (.invokevirtual 99, 3) := by decide +kernel
theorem dX4_first_35 : decode cX4_first 35 = .ok (.goto 5, 3) := by decide +kernel
theorem dX4_first_38 : decode cX4_first 38 = .ok (.bipush (-12), 2) := by decide +kernel
theorem dX4_first_40 : decode cX4_first 40 = .ok (.ireturn, 1) := by decide +kernel
theorem dX4_sum_0 : decode cX4_sum 0 = .ok (.aload_n 0, 1) := by decide +kernel
theorem dX4_sum_1 : decode cX4_sum 1 = .ok (.iconst 0, 1) := by decide +kernel
theorem dX4_sum_2 : decode cX4_sum 2 = .ok (.putfield 19, 3) := by decide +kernel
theorem dX4_sum_5 : decode cX4_sum 5 = .ok (.aload_n 0, 1) := by decide +kernel
theorem dX4_sum_6 : decode cX4_sum 6 = .ok (.getfield 36, 3) := by decide +kernel
theorem dX4_sum_9 : decode cX4_sum 9 = .ok (.ifCond .ne 6, 3) := by decide +kernel
theorem dX4_sum_12 : decode cX4_sum 12 = .ok (.bipush (-11), 2) := by decide +kernel
theorem dX4_sum_14 : decode cX4_sum 14 = .ok (.ireturn, 1) := by decide +kernel
theorem dX4_sum_15 : decode cX4_sum 15 = .ok (.iconst 0, 1) := by decide +kernel
theorem dX4_sum_16 : decode cX4_sum 16 = .ok (.istore_n 1, 1) := by decide +kernel
theorem dX4_sum_17 : decode cX4_sum 17 = .ok (.bipush 64, 2) := by decide +kernel
theorem dX4_sum_19 : decode cX4_sum 19 = .ok (.istore_n 2, 1) := by decide +kernel
theorem dX4_sum_20 : decode cX4_sum 20 = .ok (.iload_n 2, 1) := by decide +kernel
theorem dX4_sum_21 : decode cX4_sum 21 = .ok (.aload_n 0, 1) := by decide +kernel
theorem dX4_sum_22 : decode cX4_sum 22 = .ok (.getfield 54, 3) := by decide +kernel
theorem dX4_sum_25 : decode cX4_sum 25 = .ok (.if_icmp .ge 18, 3) := by decide +kernel
theorem dX4_sum_28 : decode cX4_sum 28 = .ok (.iload_n 1, 1) := by decide +kernel
theorem dX4_sum_29 : decode cX4_sum 29 = .ok (.aload_n 0, 1) := by decide +kernel
theorem dX4_sum_30 : decode cX4_sum 30 = .ok (.getfield 13, 3) := by decide +kernel
theorem dX4_sum_33 : decode cX4_sum 33 = .ok (.iload_n 2, 1) := by decide +kernel
theorem dX4_sum_34 : decode cX4_sum 34 = .ok (.iaload, 1) := by decide +kernel
theorem dX4_sum_35 : decode cX4_sum 35 = .ok (.iadd, 1) := by decide +kernel
theorem dX4_sum_36 : decode cX4_sum 36 = .ok (.istore_n 1, 1) := by decide +kernel
theorem dX4_sum_37 : decode cX4_sum 37 = .ok (.iinc 2 1, 3) := by decide +kernel
theorem dX4_sum_40 : decode cX4_sum 40 = .ok (.goto (-20), 3) := by decide +kernel
theorem dX4_sum_43 : decode cX4_sum 43 = .ok (.iload_n 1, 1) := by decide +kernel
theorem dX4_sum_44 : decode cX4_sum 44 = .ok (.ldc 102, 2) := by decide +kernel
theorem dX4_sum_46 : decode cX4_sum 46 = .ok (.irem, 1) := by decide +kernel
theorem dX4_sum_47 : decode cX4_sum 47 = .ok (.ireturn, 1) := by decide +kernel
set_option maxRecDepth 20000 in
theorem ggX4_agrees_X4_sum : GoodIn wsX4_agrees wsX4_sum := goodIn_ca (goodIn_r _ [5, 6, 7, 8, 9, 10, 16, 17, 18, 19, 20, 21, 22, 23, 24] (by decide +kernel) (by decide +kernel)) (goodIn_sub (fun _ h => List.mem_cons_of_mem _ (List.mem_append_right _ h)) (by decide +kernel))
set_option maxRecDepth 20000 in
theorem gX4_agrees_X4_sum : GoodIn wsX4_agrees (wsV RX4 103 RX4 yX4_sum wsX4_sum) := goodIn_app (goodIn_of _ (by decide +kernel)) ggX4_agrees_X4_sum
set_option maxRecDepth 20000 in
theorem ggX4_agrees_X4_two : GoodIn wsX4_agrees wsX4_two := goodIn_ca (goodIn_r _ [14, 15, 16, 17, 18, 19, 20, 21, 22, 23, 24] (by decide +kernel) (by decide +kernel)) (goodIn_sub (fun _ h => List.mem_cons_of_mem _ (List.mem_append_right _ h)) (by decide +kernel))
set_option maxRecDepth 20000 in
theorem gX4_agrees_X4_two : GoodIn wsX4_agrees (wsV RX4 47 RX4 yX4_two wsX4_two) := goodIn_app (goodIn_of _ (by decide +kernel)) ggX4_agrees_X4_two
theorem dX4_agrees_0 : decode cX4_agrees 0 = .ok (.aload_n 0, 1) := by decide +kernel
theorem dX4_agrees_1 : decode cX4_agrees 1 = .ok (.invokevirtual 103, 3) := by decide +kernel
theorem dX4_agrees_4 : decode cX4_agrees 4 = .ok (.istore_n 1, 1) := by decide +kernel
theorem dX4_agrees_5 : decode cX4_agrees 5 = .ok (.iload_n 1, 1) := by decide +kernel
theorem dX4_agrees_6 : decode cX4_agrees 6 = .ok (.ifCond .ge 7, 3) := by decide +kernel
theorem dX4_agrees_9 : decode cX4_agrees 9 = .ok (.iload_n 1, 1) := by decide +kernel
theorem dX4_agrees_10 : decode cX4_agrees 10 = .ok (.goto 18, 3) := by decide +kernel
theorem dX4_agrees_13 : decode cX4_agrees 13 = .ok (.iload_n 1, 1) := by decide +kernel
theorem dX4_agrees_14 : decode cX4_agrees 14 = .ok (.aload_n 0, 1) := by decide +kernel
theorem dX4_agrees_15 : decode cX4_agrees 15 = .ok (.bipush 28, 2) := by decide +kernel
theorem dX4_agrees_17 : decode cX4_agrees 17 = .ok (.invokevirtual 47, 3) := by decide +kernel
theorem dX4_agrees_20 : decode cX4_agrees 20 = .ok (.if_icmp .ne 7, 3) := by decide +kernel
theorem dX4_agrees_23 : decode cX4_agrees 23 = .ok (.iconst 1, 1) := by decide +kernel
theorem dX4_agrees_24 : decode cX4_agrees 24 = .ok (.goto 4, 3) := by decide +kernel
theorem dX4_agrees_27 : decode cX4_agrees 27 = .ok (.iconst 0, 1) := by decide +kernel
theorem dX4_agrees_28 : decode cX4_agrees 28 = .ok (.ireturn, 1) := by decide +kernel
set_option maxRecDepth 20000 in
theorem ggX4_mayFirst_X4_in : GoodIn wsX4_mayFirst wsX4_in := goodIn_r _ [5] (by decide +kernel) (by decide +kernel)
set_option maxRecDepth 20000 in
theorem gX4_mayFirst_X4_in : GoodIn wsX4_mayFirst (va_wsS RX4 27 yX4_in wsX4_in) := goodIn_app (goodIn_of _ (by decide +kernel)) ggX4_mayFirst_X4_in
theorem dX4_mayFirst_0 : decode cX4_mayFirst 0 = .ok (.aload_n 0, 1) := by decide +kernel
theorem dX4_mayFirst_1 : decode cX4_mayFirst 1 = .ok (.getfield 51, 3) := by decide +kernel
theorem dX4_mayFirst_4 : decode cX4_mayFirst 4 = .ok (.tableswitch 81 1 6 #[40, 40, 40, 48, 81, 69], 40) := by decide +kernel
theorem dX4_mayFirst_44 : decode cX4_mayFirst 44 = .ok (.iload_n 1, 1) := by decide +kernel
theorem dX4_mayFirst_45 : decode cX4_mayFirst 45 = .ok (.iconst 4, 1) := by decide +kernel
theorem dX4_mayFirst_46 : decode cX4_mayFirst 46 = .ok (.bipush 6, 2) := by decide +kernel
theorem dX4_mayFirst_48 : decode cX4_mayFirst 48 = .ok (.invokestatic 27, 3) := by decide +kernel
theorem dX4_mayFirst_51 : decode cX4_mayFirst 51 = .ok (.ireturn, 1) := by decide +kernel
theorem dX4_mayFirst_52 : decode cX4_mayFirst 52 = .ok (.iload_n 1, 1) := by decide +kernel
theorem dX4_mayFirst_53 : decode cX4_mayFirst 53 = .ok (.iconst 2, 1) := by decide +kernel
theorem dX4_mayFirst_54 : decode cX4_mayFirst 54 = .ok (.iconst 4, 1) := by decide +kernel
theorem dX4_mayFirst_55 : decode cX4_mayFirst 55 = .ok (.invokestatic 27, 3) := by decide +kernel
theorem dX4_mayFirst_58 : decode cX4_mayFirst 58 = .ok (.ifCond .ne 9, 3) := by decide +kernel
theorem dX4_mayFirst_61 : decode cX4_mayFirst 61 = .ok (.iload_n 1, 1) := by decide +kernel
theorem dX4_mayFirst_62 : decode cX4_mayFirst 62 = .ok (.bipush 7, 2) := by decide +kernel
theorem dX4_mayFirst_64 : decode cX4_mayFirst 64 = .ok (.if_icmp .ne 7, 3) := by decide +kernel
theorem dX4_mayFirst_67 : decode cX4_mayFirst 67 = .ok (.iconst 1, 1) := by decide +kernel
theorem dX4_mayFirst_68 : decode cX4_mayFirst 68 = .ok (.goto 4, 3) := by decide +kernel
theorem dX4_mayFirst_71 : decode cX4_mayFirst 71 = .ok (.iconst 0, 1) := by decide +kernel
theorem dX4_mayFirst_72 : decode cX4_mayFirst 72 = .ok (.ireturn, 1) := by decide +kernel
theorem dX4_mayFirst_73 : decode cX4_mayFirst 73 = .ok (.iload_n 1, 1) := by decide +kernel
theorem dX4_mayFirst_74 : decode cX4_mayFirst 74 = .ok (.bipush 6, 2) := by decide +kernel
theorem dX4_mayFirst_76 : decode cX4_mayFirst 76 = .ok (.if_icmp .eq 7, 3) := by decide +kernel
theorem dX4_mayFirst_79 : decode cX4_mayFirst 79 = .ok (.iconst 1, 1) := by decide +kernel
theorem dX4_mayFirst_80 : decode cX4_mayFirst 80 = .ok (.goto 4, 3) := by decide +kernel
theorem dX4_mayFirst_83 : decode cX4_mayFirst 83 = .ok (.iconst 0, 1) := by decide +kernel
theorem dX4_mayFirst_84 : decode cX4_mayFirst 84 = .ok (.ireturn, 1) := by decide +kernel
theorem dX4_mayFirst_85 : decode cX4_mayFirst 85 = .ok (.iload_n 1, 1) := by decide +kernel
theorem dX4_mayFirst_86 : decode cX4_mayFirst 86 = .ok (.ifCond .eq 18, 3) := by decide +kernel
theorem dX4_mayFirst_89 : decode cX4_mayFirst 89 = .ok (.iload_n 1, 1) := by decide +kernel
theorem dX4_mayFirst_90 : decode cX4_mayFirst 90 = .ok (.iconst 2, 1) := by decide +kernel
theorem dX4_mayFirst_91 : decode cX4_mayFirst 91 = .ok (.iconst 4, 1) := by decide +kernel
theorem dX4_mayFirst_92 : decode cX4_mayFirst 92 = .ok (.invokestatic 27, 3) := by decide +kernel
theorem dX4_mayFirst_95 : decode cX4_mayFirst 95 = .ok (.ifCond .ne 9, 3) := by decide +kernel
theorem dX4_mayFirst_98 : decode cX4_mayFirst 98 = .ok (.iload_n 1, 1) := by decide +kernel
theorem dX4_mayFirst_99 : decode cX4_mayFirst 99 = .ok (.bipush 7, 2) := by decide +kernel
theorem dX4_mayFirst_101 : decode cX4_mayFirst 101 = .ok (.if_icmp .ne 7, 3) := by decide +kernel
theorem dX4_mayFirst_104 : decode cX4_mayFirst 104 = .ok (.iconst 1, 1) := by decide +kernel
theorem dX4_mayFirst_105 : decode cX4_mayFirst 105 = .ok (.goto 4, 3) := by decide +kernel
theorem dX4_mayFirst_108 : decode cX4_mayFirst 108 = .ok (.iconst 0, 1) := by decide +kernel
theorem dX4_mayFirst_109 : decode cX4_mayFirst 109 = .ok (.ireturn, 1) := by decide +kernel
set_option maxRecDepth 20000 in
theorem ggX4_maySecond_X4_in : GoodIn wsX4_maySecond wsX4_in := goodIn_r _ [5] (by decide +kernel) (by decide +kernel)
set_option maxRecDepth 20000 in
theorem gX4_maySecond_X4_in : GoodIn wsX4_maySecond (va_wsS RX4 27 yX4_in wsX4_in) := goodIn_app (goodIn_of _ (by decide +kernel)) ggX4_maySecond_X4_in
theorem dX4_maySecond_0 : decode cX4_maySecond 0 = .ok (.iload_n 1, 1) := by decide +kernel
theorem dX4_maySecond_1 : decode cX4_maySecond 1 = .ok (.ifCond .ne 5, 3) := by decide +kernel
theorem dX4_maySecond_4 : decode cX4_maySecond 4 = .ok (.iconst 1, 1) := by decide +kernel
theorem dX4_maySecond_5 : decode cX4_maySecond 5 = .ok (.ireturn, 1) := by decide +kernel
theorem dX4_maySecond_6 : decode cX4_maySecond 6 = .ok (.iload_n 1, 1) := by decide +kernel
theorem dX4_maySecond_7 : decode cX4_maySecond 7 = .ok (.iconst 1, 1) := by decide +kernel
theorem dX4_maySecond_8 : decode cX4_maySecond 8 = .ok (.if_icmp .ne 21, 3) := by decide +kernel
theorem dX4_maySecond_11 : decode cX4_maySecond 11 = .ok (.iload_n 3, 1) := by decide +kernel
theorem dX4_maySecond_12 : decode cX4_maySecond 12 = .ok (.ifCond .eq 15, 3) := by decide +kernel
theorem dX4_maySecond_15 : decode cX4_maySecond 15 = .ok (.aload_n 0, 1) := by decide +kernel
theorem dX4_maySecond_16 : decode cX4_maySecond 16 = .ok (.getfield 51, 3) := by decide +kernel
theorem dX4_maySecond_19 : decode cX4_maySecond 19 = .ok (.iconst 2, 1) := by decide +kernel
theorem dX4_maySecond_20 : decode cX4_maySecond 20 = .ok (.if_icmp .le 7, 3) := by decide +kernel
theorem dX4_maySecond_23 : decode cX4_maySecond 23 = .ok (.iconst 1, 1) := by decide +kernel
theorem dX4_maySecond_24 : decode cX4_maySecond 24 = .ok (.goto 4, 3) := by decide +kernel
theorem dX4_maySecond_27 : decode cX4_maySecond 27 = .ok (.iconst 0, 1) := by decide +kernel
theorem dX4_maySecond_28 : decode cX4_maySecond 28 = .ok (.ireturn, 1) := by decide +kernel
theorem dX4_maySecond_29 : decode cX4_maySecond 29 = .ok (.iload_n 1, 1) := by decide +kernel
theorem dX4_maySecond_30 : decode cX4_maySecond 30 = .ok (.iconst 2, 1) := by decide +kernel
theorem dX4_maySecond_31 : decode cX4_maySecond 31 = .ok (.if_icmp .ne 26, 3) := by decide +kernel
theorem dX4_maySecond_34 : decode cX4_maySecond 34 = .ok (.aload_n 0, 1) := by decide +kernel
theorem dX4_maySecond_35 : decode cX4_maySecond 35 = .ok (.getfield 51, 3) := by decide +kernel
theorem dX4_maySecond_38 : decode cX4_maySecond 38 = .ok (.bipush 6, 2) := by decide +kernel
theorem dX4_maySecond_40 : decode cX4_maySecond 40 = .ok (.if_icmp .ne 15, 3) := by decide +kernel
theorem dX4_maySecond_43 : decode cX4_maySecond 43 = .ok (.iload_n 3, 1) := by decide +kernel
theorem dX4_maySecond_44 : decode cX4_maySecond 44 = .ok (.ifCond .eq 7, 3) := by decide +kernel
theorem dX4_maySecond_47 : decode cX4_maySecond 47 = .ok (.iload_n 2, 1) := by decide +kernel
theorem dX4_maySecond_48 : decode cX4_maySecond 48 = .ok (.ifCond .ne 7, 3) := by decide +kernel
theorem dX4_maySecond_51 : decode cX4_maySecond 51 = .ok (.iconst 1, 1) := by decide +kernel
theorem dX4_maySecond_52 : decode cX4_maySecond 52 = .ok (.goto 4, 3) := by decide +kernel
theorem dX4_maySecond_55 : decode cX4_maySecond 55 = .ok (.iconst 0, 1) := by decide +kernel
theorem dX4_maySecond_56 : decode cX4_maySecond 56 = .ok (.ireturn, 1) := by decide +kernel
theorem dX4_maySecond_57 : decode cX4_maySecond 57 = .ok (.iload_n 3, 1) := by decide +kernel
theorem dX4_maySecond_58 : decode cX4_maySecond 58 = .ok (.ifCond .ne 44, 3) := by decide +kernel
theorem dX4_maySecond_61 : decode cX4_maySecond 61 = .ok (.iload_n 2, 1) := by decide +kernel
theorem dX4_maySecond_62 : decode cX4_maySecond 62 = .ok (.ifCond .ne 40, 3) := by decide +kernel
theorem dX4_maySecond_65 : decode cX4_maySecond 65 = .ok (.iload_n 1, 1) := by decide +kernel
theorem dX4_maySecond_66 : decode cX4_maySecond 66 = .ok (.iconst 3, 1) := by decide +kernel
theorem dX4_maySecond_67 : decode cX4_maySecond 67 = .ok (.bipush 7, 2) := by decide +kernel
theorem dX4_maySecond_69 : decode cX4_maySecond 69 = .ok (.invokestatic 27, 3) := by decide +kernel
theorem dX4_maySecond_72 : decode cX4_maySecond 72 = .ok (.ifCond .eq 11, 3) := by decide +kernel
theorem dX4_maySecond_75 : decode cX4_maySecond 75 = .ok (.aload_n 0, 1) := by decide +kernel
theorem dX4_maySecond_76 : decode cX4_maySecond 76 = .ok (.getfield 51, 3) := by decide +kernel
theorem dX4_maySecond_79 : decode cX4_maySecond 79 = .ok (.iconst 4, 1) := by decide +kernel
theorem dX4_maySecond_80 : decode cX4_maySecond 80 = .ok (.if_icmp .gt 18, 3) := by decide +kernel
theorem dX4_maySecond_83 : decode cX4_maySecond 83 = .ok (.iload_n 1, 1) := by decide +kernel
theorem dX4_maySecond_84 : decode cX4_maySecond 84 = .ok (.bipush 8, 2) := by decide +kernel
theorem dX4_maySecond_86 : decode cX4_maySecond 86 = .ok (.if_icmp .ne 16, 3) := by decide +kernel
theorem dX4_maySecond_89 : decode cX4_maySecond 89 = .ok (.aload_n 0, 1) := by decide +kernel
theorem dX4_maySecond_90 : decode cX4_maySecond 90 = .ok (.getfield 51, 3) := by decide +kernel
theorem dX4_maySecond_93 : decode cX4_maySecond 93 = .ok (.bipush 6, 2) := by decide +kernel
theorem dX4_maySecond_95 : decode cX4_maySecond 95 = .ok (.if_icmp .ne 7, 3) := by decide +kernel
theorem dX4_maySecond_98 : decode cX4_maySecond 98 = .ok (.iconst 1, 1) := by decide +kernel
theorem dX4_maySecond_99 : decode cX4_maySecond 99 = .ok (.goto 4, 3) := by decide +kernel
theorem dX4_maySecond_102 : decode cX4_maySecond 102 = .ok (.iconst 0, 1) := by decide +kernel
theorem dX4_maySecond_103 : decode cX4_maySecond 103 = .ok (.ireturn, 1) := by decide +kernel
set_option maxRecDepth 20000 in
theorem ggX4_isFlag_X4_in : GoodIn wsX4_isFlag wsX4_in := goodIn_r _ [4] (by decide +kernel) (by decide +kernel)
set_option maxRecDepth 20000 in
theorem gX4_isFlag_X4_in : GoodIn wsX4_isFlag (va_wsS RX4 27 yX4_in wsX4_in) := goodIn_app (goodIn_of _ (by decide +kernel)) ggX4_isFlag_X4_in
theorem dX4_isFlag_0 : decode cX4_isFlag 0 = .ok (.iload_n 0, 1) := by decide +kernel
theorem dX4_isFlag_1 : decode cX4_isFlag 1 = .ok (.iconst 1, 1) := by decide +kernel
theorem dX4_isFlag_2 : decode cX4_isFlag 2 = .ok (.if_icmp .ne 13, 3) := by decide +kernel
theorem dX4_isFlag_5 : decode cX4_isFlag 5 = .ok (.iload_n 1, 1) := by decide +kernel
theorem dX4_isFlag_6 : decode cX4_isFlag 6 = .ok (.iconst 0, 1) := by decide +kernel
theorem dX4_isFlag_7 : decode cX4_isFlag 7 = .ok (.bipush 7, 2) := by decide +kernel
theorem dX4_isFlag_9 : decode cX4_isFlag 9 = .ok (.invokestatic 27, 3) := by decide +kernel
theorem dX4_isFlag_12 : decode cX4_isFlag 12 = .ok (.goto 23, 3) := by decide +kernel
theorem dX4_isFlag_15 : decode cX4_isFlag 15 = .ok (.iload_n 0, 1) := by decide +kernel
theorem dX4_isFlag_16 : decode cX4_isFlag 16 = .ok (.iconst 2, 1) := by decide +kernel
theorem dX4_isFlag_17 : decode cX4_isFlag 17 = .ok (.if_icmp .ne 17, 3) := by decide +kernel
theorem dX4_isFlag_20 : decode cX4_isFlag 20 = .ok (.iload_n 1, 1) := by decide +kernel
theorem dX4_isFlag_21 : decode cX4_isFlag 21 = .ok (.iconst 0, 1) := by decide +kernel
theorem dX4_isFlag_22 : decode cX4_isFlag 22 = .ok (.bipush 15, 2) := by decide +kernel
theorem dX4_isFlag_24 : decode cX4_isFlag 24 = .ok (.invokestatic 27, 3) := by decide +kernel
theorem dX4_isFlag_27 : decode cX4_isFlag 27 = .ok (.ifCond .eq 7, 3) := by decide +kernel
theorem dX4_isFlag_30 : decode cX4_isFlag 30 = .ok (.iconst 1, 1) := by decide +kernel
theorem dX4_isFlag_31 : decode cX4_isFlag 31 = .ok (.goto 4, 3) := by decide +kernel
theorem dX4_isFlag_34 : decode cX4_isFlag 34 = .ok (.iconst 0, 1) := by decide +kernel
theorem dX4_isFlag_35 : decode cX4_isFlag 35 = .ok (.ireturn, 1) := by decide +kernel
theorem dX4_placeOf_0 : decode cX4_placeOf 0 = .ok (.iload_n 0, 1) := by decide +kernel
theorem dX4_placeOf_1 : decode cX4_placeOf 1 = .ok (.iconst 1, 1) := by decide +kernel
theorem dX4_placeOf_2 : decode cX4_placeOf 2 = .ok (.if_icmp .ne 7, 3) := by decide +kernel
theorem dX4_placeOf_5 : decode cX4_placeOf 5 = .ok (.iconst 1, 1) := by decide +kernel
theorem dX4_placeOf_6 : decode cX4_placeOf 6 = .ok (.goto 16, 3) := by decide +kernel
theorem dX4_placeOf_9 : decode cX4_placeOf 9 = .ok (.iload_n 1, 1) := by decide +kernel
theorem dX4_placeOf_10 : decode cX4_placeOf 10 = .ok (.bipush 7, 2) := by decide +kernel
theorem dX4_placeOf_12 : decode cX4_placeOf 12 = .ok (.if_icmp .le 8, 3) := by decide +kernel
theorem dX4_placeOf_15 : decode cX4_placeOf 15 = .ok (.bipush 16, 2) := by decide +kernel
theorem dX4_placeOf_17 : decode cX4_placeOf 17 = .ok (.goto 5, 3) := by decide +kernel
theorem dX4_placeOf_20 : decode cX4_placeOf 20 = .ok (.bipush 17, 2) := by decide +kernel
theorem dX4_placeOf_22 : decode cX4_placeOf 22 = .ok (.ireturn, 1) := by decide +kernel
set_option maxRecDepth 20000 in
theorem ggX4_flag_X4_isFlag : GoodIn wsX4_flag wsX4_isFlag := goodIn_r _ [7, 8, 9, 6, 10] (by decide +kernel) (by decide +kernel)
set_option maxRecDepth 20000 in
theorem gX4_flag_X4_isFlag : GoodIn wsX4_flag (va_wsS RX4 106 yX4_isFlag wsX4_isFlag) := goodIn_app (goodIn_of _ (by decide +kernel)) ggX4_flag_X4_isFlag
set_option maxRecDepth 20000 in
theorem ggX4_flag_X4_mayFirst : GoodIn wsX4_flag wsX4_mayFirst := goodIn_r _ [14, 15, 8, 9, 6, 10, 27, 28, 29, 30, 31, 32, 33, 34, 35] (by decide +kernel) (by decide +kernel)
set_option maxRecDepth 20000 in
theorem gX4_flag_X4_mayFirst : GoodIn wsX4_flag (wsV RX4 110 RX4 yX4_mayFirst wsX4_mayFirst) := goodIn_app (goodIn_of _ (by decide +kernel)) ggX4_flag_X4_mayFirst
set_option maxRecDepth 20000 in
theorem ggX4_flag_X4_maySecond : GoodIn wsX4_flag wsX4_maySecond := goodIn_r _ [19, 15, 8, 9, 6, 10, 27, 28, 29, 30, 31, 32, 33, 34, 35] (by decide +kernel) (by decide +kernel)
set_option maxRecDepth 20000 in
theorem gX4_flag_X4_maySecond : GoodIn wsX4_flag (wsV RX4 113 RX4 yX4_maySecond wsX4_maySecond) := goodIn_app (goodIn_of _ (by decide +kernel)) ggX4_flag_X4_maySecond
set_option maxRecDepth 20000 in
theorem ggX4_flag_X4_isOn : GoodIn wsX4_flag wsX4_isOn := goodIn_ca (goodIn_r _ [23, 1, 2, 3, 4, 5, 6, 7, 8, 9, 10, 24, 25, 26, 27, 28, 29, 30, 31, 32, 33, 34, 35] (by decide +kernel) (by decide +kernel)) (goodIn_sub (fun _ h => List.mem_cons_of_mem _ (List.mem_append_right _ h)) (by decide +kernel))
set_option maxRecDepth 20000 in
theorem gX4_flag_X4_isOn : GoodIn wsX4_flag (wsV RX4 117 RX4 yX4_isOn wsX4_isOn) := goodIn_app (goodIn_of _ (by decide +kernel)) ggX4_flag_X4_isOn
set_option maxRecDepth 20000 in
theorem ggX4_flag_X4_placeOf : GoodIn wsX4_flag wsX4_placeOf := goodIn_r _ [26] (by decide +kernel) (by decide +kernel)
set_option maxRecDepth 20000 in
theorem gX4_flag_X4_placeOf : GoodIn wsX4_flag (va_wsS RX4 120 yX4_placeOf wsX4_placeOf) := goodIn_app (goodIn_of _ (by decide +kernel)) ggX4_flag_X4_placeOf
theorem dX4_flag_0 : decode cX4_flag 0 = .ok (.aload_n 0, 1) := by decide +kernel
theorem dX4_flag_1 : decode cX4_flag 1 = .ok (.iconst 0, 1) := by decide +kernel
theorem dX4_flag_2 : decode cX4_flag 2 = .ok (.putfield 19, 3) := by decide +kernel
theorem dX4_flag_5 : decode cX4_flag 5 = .ok (.aload_n 0, 1) := by decide +kernel
theorem dX4_flag_6 : decode cX4_flag 6 = .ok (.getfield 36, 3) := by decide +kernel
theorem dX4_flag_9 : decode cX4_flag 9 = .ok (.ifCond .ne 6, 3) := by decide +kernel
theorem dX4_flag_12 : decode cX4_flag 12 = .ok (.bipush (-11), 2) := by decide +kernel
theorem dX4_flag_14 : decode cX4_flag 14 = .ok (.ireturn, 1) := by decide +kernel
theorem dX4_flag_15 : decode cX4_flag 15 = .ok (.iload_n 1, 1) := by decide +kernel
theorem dX4_flag_16 : decode cX4_flag 16 = .ok (.iload_n 2, 1) := by decide +kernel
theorem dX4_flag_17 : decode cX4_flag 17 = .ok (.invokestatic 106, 3) := by decide +kernel
theorem dX4_flag_20 : decode cX4_flag 20 = .ok (.ifCond .ne 6, 3) := by decide +kernel
theorem dX4_flag_23 : decode cX4_flag 23 = .ok (.bipush (-12), 2) := by decide +kernel
theorem dX4_flag_25 : decode cX4_flag 25 = .ok (.ireturn, 1) := by decide +kernel
theorem dX4_flag_26 : decode cX4_flag 26 = .ok (.iload_n 1, 1) := by decide +kernel
theorem dX4_flag_27 : decode cX4_flag 27 = .ok (.iconst 1, 1) := by decide +kernel
theorem dX4_flag_28 : decode cX4_flag 28 = .ok (.if_icmp .ne 24, 3) := by decide +kernel
theorem dX4_flag_31 : decode cX4_flag 31 = .ok (.iload 4, 2) := by decide +kernel
theorem dX4_flag_33 : decode cX4_flag 33 = .ok (.ifCond .ne 15, 3) := by decide +kernel
theorem dX4_flag_36 : decode cX4_flag 36 = .ok (.aload_n 0, 1) := by decide +kernel
theorem dX4_flag_37 : decode cX4_flag 37 = .ok (.iload_n 2, 1) := by decide +kernel
theorem dX4_flag_38 : decode cX4_flag 38 = .ok (.invokevirtual 110, 3) := by decide +kernel
theorem dX4_flag_41 : decode cX4_flag 41 = .ok (.ifCond .eq 7, 3) := by decide +kernel
theorem dX4_flag_44 : decode cX4_flag 44 = .ok (.iconst 1, 1) := by decide +kernel
theorem dX4_flag_45 : decode cX4_flag 45 = .ok (.goto 15, 3) := by decide +kernel
theorem dX4_flag_48 : decode cX4_flag 48 = .ok (.iconst 0, 1) := by decide +kernel
theorem dX4_flag_49 : decode cX4_flag 49 = .ok (.goto 11, 3) := by decide +kernel
theorem dX4_flag_52 : decode cX4_flag 52 = .ok (.aload_n 0, 1) := by decide +kernel
theorem dX4_flag_53 : decode cX4_flag 53 = .ok (.iload_n 2, 1) := by decide +kernel
theorem dX4_flag_54 : decode cX4_flag 54 = .ok (.iload_n 3, 1) := by decide +kernel
theorem dX4_flag_55 : decode cX4_flag 55 = .ok (.iload 4, 2) := by decide +kernel
theorem dX4_flag_57 : decode cX4_flag 57 = .ok (.invokevirtual 113, 3) := by decide +kernel
theorem dX4_flag_60 : decode cX4_flag 60 = .ok (.istore 5, 2) := by decide +kernel
theorem dX4_flag_62 : decode cX4_flag 62 = .ok (.iload 5, 2) := by decide +kernel
theorem dX4_flag_64 : decode cX4_flag 64 = .ok (.ifCond .ne 6, 3) := by decide +kernel
theorem dX4_flag_67 : decode cX4_flag 67 = .ok (.bipush (-13), 2) := by decide +kernel
theorem dX4_flag_69 : decode cX4_flag 69 = .ok (.ireturn, 1) := by decide +kernel
theorem dX4_flag_70 : decode cX4_flag 70 = .ok (.aload_n 0, 1) := by decide +kernel
theorem dX4_flag_71 : decode cX4_flag 71 = .ok (.iload_n 1, 1) := by decide +kernel
theorem dX4_flag_72 : decode cX4_flag 72 = .ok (.iload_n 2, 1) := by decide +kernel
theorem dX4_flag_73 : decode cX4_flag 73 = .ok (.invokevirtual 117, 3) := by decide +kernel
theorem dX4_flag_76 : decode cX4_flag 76 = .ok (.istore 6, 2) := by decide +kernel
theorem dX4_flag_78 : decode cX4_flag 78 = .ok (.iconst 1, 1) := by decide +kernel
theorem dX4_flag_79 : decode cX4_flag 79 = .ok (.iload_n 2, 1) := by decide +kernel
theorem dX4_flag_80 : decode cX4_flag 80 = .ok (.bipush 8, 2) := by decide +kernel
theorem dX4_flag_82 : decode cX4_flag 82 = .ok (.irem, 1) := by decide +kernel
theorem dX4_flag_83 : decode cX4_flag 83 = .ok (.ishl, 1) := by decide +kernel
theorem dX4_flag_84 : decode cX4_flag 84 = .ok (.istore 7, 2) := by decide +kernel
theorem dX4_flag_86 : decode cX4_flag 86 = .ok (.aload_n 0, 1) := by decide +kernel
theorem dX4_flag_87 : decode cX4_flag 87 = .ok (.getfield 16, 3) := by decide +kernel
theorem dX4_flag_90 : decode cX4_flag 90 = .ok (.iload_n 1, 1) := by decide +kernel
theorem dX4_flag_91 : decode cX4_flag 91 = .ok (.iload_n 2, 1) := by decide +kernel
theorem dX4_flag_92 : decode cX4_flag 92 = .ok (.invokestatic 120, 3) := by decide +kernel
theorem dX4_flag_95 : decode cX4_flag 95 = .ok (.dup2, 1) := by decide +kernel
theorem dX4_flag_96 : decode cX4_flag 96 = .ok (.iaload, 1) := by decide +kernel
theorem dX4_flag_97 : decode cX4_flag 97 = .ok (.iload 6, 2) := by decide +kernel
theorem dX4_flag_99 : decode cX4_flag 99 = .ok (.ifCond .ne 12, 3) := by decide +kernel
theorem dX4_flag_102 : decode cX4_flag 102 = .ok (.iload_n 3, 1) := by decide +kernel
theorem dX4_flag_103 : decode cX4_flag 103 = .ok (.ifCond .eq 8, 3) := by decide +kernel
theorem dX4_flag_106 : decode cX4_flag 106 = .ok (.iload 7, 2) := by decide +kernel
theorem dX4_flag_108 : decode cX4_flag 108 = .ok (.goto 20, 3) := by decide +kernel
theorem dX4_flag_111 : decode cX4_flag 111 = .ok (.iload 6, 2) := by decide +kernel
theorem dX4_flag_113 : decode cX4_flag 113 = .ok (.iconst 1, 1) := by decide +kernel
theorem dX4_flag_114 : decode cX4_flag 114 = .ok (.if_icmp .ne 13, 3) := by decide +kernel
theorem dX4_flag_117 : decode cX4_flag 117 = .ok (.iload_n 3, 1) := by decide +kernel
theorem dX4_flag_118 : decode cX4_flag 118 = .ok (.ifCond .ne 9, 3) := by decide +kernel
theorem dX4_flag_121 : decode cX4_flag 121 = .ok (.iload 7, 2) := by decide +kernel
theorem dX4_flag_123 : decode cX4_flag 123 = .ok (.ineg, 1) := by decide +kernel
theorem dX4_flag_124 : decode cX4_flag 124 = .ok (.goto 4, 3) := by decide +kernel
theorem dX4_flag_127 : decode cX4_flag 127 = .ok (.iconst 0, 1) := by decide +kernel
theorem dX4_flag_128 : decode cX4_flag 128 = .ok (.iadd, 1) := by decide +kernel
theorem dX4_flag_129 : decode cX4_flag 129 = .ok (.iastore, 1) := by decide +kernel
theorem dX4_flag_130 : decode cX4_flag 130 = .ok (.iload 6, 2) := by decide +kernel
theorem dX4_flag_132 : decode cX4_flag 132 = .ok (.ireturn, 1) := by decide +kernel
set_option maxRecDepth 20000 in
theorem ggX4_isOn_X4_isFlag : GoodIn wsX4_isOn wsX4_isFlag := goodIn_r _ [7, 8, 9, 6, 10] (by decide +kernel) (by decide +kernel)
set_option maxRecDepth 20000 in
theorem gX4_isOn_X4_isFlag : GoodIn wsX4_isOn (va_wsS RX4 106 yX4_isFlag wsX4_isFlag) := goodIn_app (goodIn_of _ (by decide +kernel)) ggX4_isOn_X4_isFlag
set_option maxRecDepth 20000 in
theorem ggX4_isOn_X4_placeOf : GoodIn wsX4_isOn wsX4_placeOf := goodIn_r _ [13] (by decide +kernel) (by decide +kernel)
set_option maxRecDepth 20000 in
theorem gX4_isOn_X4_placeOf : GoodIn wsX4_isOn (va_wsS RX4 120 yX4_placeOf wsX4_placeOf) := goodIn_app (goodIn_of _ (by decide +kernel)) ggX4_isOn_X4_placeOf
theorem dX4_isOn_0 : decode cX4_isOn 0 = .ok (.aload_n 0, 1) := by decide +kernel
theorem dX4_isOn_1 : decode cX4_isOn 1 = .ok (.iconst 0, 1) := by decide +kernel
theorem dX4_isOn_2 : decode cX4_isOn 2 = .ok (.putfield 19, 3) := by decide +kernel
theorem dX4_isOn_5 : decode cX4_isOn 5 = .ok (.aload_n 0, 1) := by decide +kernel
theorem dX4_isOn_6 : decode cX4_isOn 6 = .ok (.getfield 36, 3) := by decide +kernel
theorem dX4_isOn_9 : decode cX4_isOn 9 = .ok (.ifCond .ne 6, 3) := by decide +kernel
theorem dX4_isOn_12 : decode cX4_isOn 12 = .ok (.bipush (-11), 2) := by decide +kernel
theorem dX4_isOn_14 : decode cX4_isOn 14 = .ok (.ireturn, 1) := by decide +kernel
theorem dX4_isOn_15 : decode cX4_isOn 15 = .ok (.iload_n 1, 1) := by decide +kernel
theorem dX4_isOn_16 : decode cX4_isOn 16 = .ok (.iload_n 2, 1) := by decide +kernel
theorem dX4_isOn_17 : decode cX4_isOn 17 = .ok (.invokestatic 106, 3) := by decide +kernel
theorem dX4_isOn_20 : decode cX4_isOn 20 = .ok (.ifCond .eq 23, 3) := by decide +kernel
theorem dX4_isOn_23 : decode cX4_isOn 23 = .ok (.aload_n 0, 1) := by decide +kernel
theorem dX4_isOn_24 : decode cX4_isOn 24 = .ok (.getfield 16, 3) := by decide +kernel
theorem dX4_isOn_27 : decode cX4_isOn 27 = .ok (.iload_n 1, 1) := by decide +kernel
theorem dX4_isOn_28 : decode cX4_isOn 28 = .ok (.iload_n 2, 1) := by decide +kernel
theorem dX4_isOn_29 : decode cX4_isOn 29 = .ok (.invokestatic 120, 3) := by decide +kernel
theorem dX4_isOn_32 : decode cX4_isOn 32 = .ok (.iaload, 1) := by decide +kernel
theorem dX4_isOn_33 : decode cX4_isOn 33 = .ok (.iload_n 2, 1) := by decide +kernel
theorem dX4_isOn_34 : decode cX4_isOn 34 = .ok (.bipush 8, 2) := by decide +kernel
theorem dX4_isOn_36 : decode cX4_isOn 36 = .ok (.irem, 1) := by decide +kernel
theorem dX4_isOn_37 : decode cX4_isOn 37 = .ok (.ishr, 1) := by decide +kernel
theorem dX4_isOn_38 : decode cX4_isOn 38 = .ok (.iconst 1, 1) := by decide +kernel
theorem dX4_isOn_39 : decode cX4_isOn 39 = .ok (.iand, 1) := by decide +kernel
theorem dX4_isOn_40 : decode cX4_isOn 40 = .ok (.goto 5, 3) := by decide +kernel
theorem dX4_isOn_43 : decode cX4_isOn 43 = .ok (.bipush (-12), 2) := by decide +kernel
theorem dX4_isOn_45 : decode cX4_isOn 45 = .ok (.ireturn, 1) := by decide +kernel
theorem dX4_isWide_0 : decode cX4_isWide 0 = .ok (.iload_n 0, 1) := by decide +kernel
theorem dX4_isWide_1 : decode cX4_isWide 1 = .ok (.iconst 4, 1) := by decide +kernel
theorem dX4_isWide_2 : decode cX4_isWide 2 = .ok (.if_icmp .eq 14, 3) := by decide +kernel
theorem dX4_isWide_5 : decode cX4_isWide 5 = .ok (.iload_n 0, 1) := by decide +kernel
theorem dX4_isWide_6 : decode cX4_isWide 6 = .ok (.iconst 5, 1) := by decide +kernel
theorem dX4_isWide_7 : decode cX4_isWide 7 = .ok (.if_icmp .eq 9, 3) := by decide +kernel
theorem dX4_isWide_10 : decode cX4_isWide 10 = .ok (.iload_n 0, 1) := by decide +kernel
theorem dX4_isWide_11 : decode cX4_isWide 11 = .ok (.bipush 10, 2) := by decide +kernel
theorem dX4_isWide_13 : decode cX4_isWide 13 = .ok (.if_icmp .ne 7, 3) := by decide +kernel
theorem dX4_isWide_16 : decode cX4_isWide 16 = .ok (.iconst 1, 1) := by decide +kernel
theorem dX4_isWide_17 : decode cX4_isWide 17 = .ok (.goto 4, 3) := by decide +kernel
theorem dX4_isWide_20 : decode cX4_isWide 20 = .ok (.iconst 0, 1) := by decide +kernel
theorem dX4_isWide_21 : decode cX4_isWide 21 = .ok (.ireturn, 1) := by decide +kernel
theorem dX4_placeSet_0 : decode cX4_placeSet 0 = .ok (.iload_n 1, 1) := by decide +kernel
theorem dX4_placeSet_1 : decode cX4_placeSet 1 = .ok (.tableswitch 90 4 10 #[43, 46, 49, 65, 81, 84, 87], 43) := by decide +kernel
theorem dX4_placeSet_44 : decode cX4_placeSet 44 = .ok (.bipush 34, 2) := by decide +kernel
theorem dX4_placeSet_46 : decode cX4_placeSet 46 = .ok (.ireturn, 1) := by decide +kernel
theorem dX4_placeSet_47 : decode cX4_placeSet 47 = .ok (.bipush 36, 2) := by decide +kernel
theorem dX4_placeSet_49 : decode cX4_placeSet 49 = .ok (.ireturn, 1) := by decide +kernel
theorem dX4_placeSet_50 : decode cX4_placeSet 50 = .ok (.aload_n 0, 1) := by decide +kernel
theorem dX4_placeSet_51 : decode cX4_placeSet 51 = .ok (.getfield 51, 3) := by decide +kernel
theorem dX4_placeSet_54 : decode cX4_placeSet 54 = .ok (.iconst 5, 1) := by decide +kernel
theorem dX4_placeSet_55 : decode cX4_placeSet 55 = .ok (.if_icmp .ne 8, 3) := by decide +kernel
theorem dX4_placeSet_58 : decode cX4_placeSet 58 = .ok (.bipush 38, 2) := by decide +kernel
theorem dX4_placeSet_60 : decode cX4_placeSet 60 = .ok (.goto 5, 3) := by decide +kernel
theorem dX4_placeSet_63 : decode cX4_placeSet 63 = .ok (.bipush 39, 2) := by decide +kernel
theorem dX4_placeSet_65 : decode cX4_placeSet 65 = .ok (.ireturn, 1) := by decide +kernel
theorem dX4_placeSet_66 : decode cX4_placeSet 66 = .ok (.aload_n 0, 1) := by decide +kernel
theorem dX4_placeSet_67 : decode cX4_placeSet 67 = .ok (.getfield 51, 3) := by decide +kernel
theorem dX4_placeSet_70 : decode cX4_placeSet 70 = .ok (.iconst 5, 1) := by decide +kernel
theorem dX4_placeSet_71 : decode cX4_placeSet 71 = .ok (.if_icmp .ne 8, 3) := by decide +kernel
theorem dX4_placeSet_74 : decode cX4_placeSet 74 = .ok (.bipush 39, 2) := by decide +kernel
theorem dX4_placeSet_76 : decode cX4_placeSet 76 = .ok (.goto 5, 3) := by decide +kernel
theorem dX4_placeSet_79 : decode cX4_placeSet 79 = .ok (.bipush 38, 2) := by decide +kernel
theorem dX4_placeSet_81 : decode cX4_placeSet 81 = .ok (.ireturn, 1) := by decide +kernel
theorem dX4_placeSet_82 : decode cX4_placeSet 82 = .ok (.bipush 44, 2) := by decide +kernel
theorem dX4_placeSet_84 : decode cX4_placeSet 84 = .ok (.ireturn, 1) := by decide +kernel
theorem dX4_placeSet_85 : decode cX4_placeSet 85 = .ok (.bipush 45, 2) := by decide +kernel
theorem dX4_placeSet_87 : decode cX4_placeSet 87 = .ok (.ireturn, 1) := by decide +kernel
theorem dX4_placeSet_88 : decode cX4_placeSet 88 = .ok (.bipush 50, 2) := by decide +kernel
theorem dX4_placeSet_90 : decode cX4_placeSet 90 = .ok (.ireturn, 1) := by decide +kernel
theorem dX4_placeSet_91 : decode cX4_placeSet 91 = .ok (.bipush 30, 2) := by decide +kernel
theorem dX4_placeSet_93 : decode cX4_placeSet 93 = .ok (.iload_n 1, 1) := by decide +kernel
theorem dX4_placeSet_94 : decode cX4_placeSet 94 = .ok (.iadd, 1) := by decide +kernel
theorem dX4_placeSet_95 : decode cX4_placeSet 95 = .ok (.ireturn, 1) := by decide +kernel
set_option maxRecDepth 20000 in
theorem ggX4_set_X4_in : GoodIn wsX4_set wsX4_in := goodIn_r _ [9] (by decide +kernel) (by decide +kernel)
set_option maxRecDepth 20000 in
theorem gX4_set_X4_in : GoodIn wsX4_set (va_wsS RX4 27 yX4_in wsX4_in) := goodIn_app (goodIn_of _ (by decide +kernel)) ggX4_set_X4_in
set_option maxRecDepth 20000 in
theorem ggX4_set_X4_isWide : GoodIn wsX4_set wsX4_isWide := goodIn_r _ [12] (by decide +kernel) (by decide +kernel)
set_option maxRecDepth 20000 in
theorem gX4_set_X4_isWide : GoodIn wsX4_set (va_wsS RX4 123 yX4_isWide wsX4_isWide) := goodIn_app (goodIn_of _ (by decide +kernel)) ggX4_set_X4_isWide
set_option maxRecDepth 20000 in
theorem ggX4_set_X4_placeSet : GoodIn wsX4_set wsX4_placeSet := goodIn_r _ [16, 4, 17, 18, 19, 20, 21, 22, 23, 24, 25] (by decide +kernel) (by decide +kernel)
set_option maxRecDepth 20000 in
theorem gX4_set_X4_placeSet : GoodIn wsX4_set (wsV RX4 126 RX4 yX4_placeSet wsX4_placeSet) := goodIn_app (goodIn_of _ (by decide +kernel)) ggX4_set_X4_placeSet
theorem dX4_set_0 : decode cX4_set 0 = .ok (.aload_n 0, 1) := by decide +kernel
theorem dX4_set_1 : decode cX4_set 1 = .ok (.iconst 0, 1) := by decide +kernel
theorem dX4_set_2 : decode cX4_set 2 = .ok (.putfield 19, 3) := by decide +kernel
theorem dX4_set_5 : decode cX4_set 5 = .ok (.aload_n 0, 1) := by decide +kernel
theorem dX4_set_6 : decode cX4_set 6 = .ok (.getfield 36, 3) := by decide +kernel
theorem dX4_set_9 : decode cX4_set 9 = .ok (.ifCond .ne 6, 3) := by decide +kernel
theorem dX4_set_12 : decode cX4_set 12 = .ok (.bipush (-11), 2) := by decide +kernel
theorem dX4_set_14 : decode cX4_set 14 = .ok (.ireturn, 1) := by decide +kernel
theorem dX4_set_15 : decode cX4_set 15 = .ok (.iload_n 1, 1) := by decide +kernel
theorem dX4_set_16 : decode cX4_set 16 = .ok (.iconst 0, 1) := by decide +kernel
theorem dX4_set_17 : decode cX4_set 17 = .ok (.bipush 10, 2) := by decide +kernel
theorem dX4_set_19 : decode cX4_set 19 = .ok (.invokestatic 27, 3) := by decide +kernel
theorem dX4_set_22 : decode cX4_set 22 = .ok (.ifCond .eq 26, 3) := by decide +kernel
theorem dX4_set_25 : decode cX4_set 25 = .ok (.iload_n 2, 1) := by decide +kernel
theorem dX4_set_26 : decode cX4_set 26 = .ok (.iconst 0, 1) := by decide +kernel
theorem dX4_set_27 : decode cX4_set 27 = .ok (.iload_n 1, 1) := by decide +kernel
theorem dX4_set_28 : decode cX4_set 28 = .ok (.invokestatic 123, 3) := by decide +kernel
theorem dX4_set_31 : decode cX4_set 31 = .ok (.ifCond .eq 8, 3) := by decide +kernel
theorem dX4_set_34 : decode cX4_set 34 = .ok (.ldc 94, 2) := by decide +kernel
theorem dX4_set_36 : decode cX4_set 36 = .ok (.goto 6, 3) := by decide +kernel
theorem dX4_set_39 : decode cX4_set 39 = .ok (.sipush 255, 3) := by decide +kernel
theorem dX4_set_42 : decode cX4_set 42 = .ok (.invokestatic 27, 3) := by decide +kernel
theorem dX4_set_45 : decode cX4_set 45 = .ok (.ifCond .ne 6, 3) := by decide +kernel
theorem dX4_set_48 : decode cX4_set 48 = .ok (.bipush (-12), 2) := by decide +kernel
theorem dX4_set_50 : decode cX4_set 50 = .ok (.ireturn, 1) := by decide +kernel
theorem dX4_set_51 : decode cX4_set 51 = .ok (.iload_n 1, 1) := by decide +kernel
theorem dX4_set_52 : decode cX4_set 52 = .ok (.iconst 4, 1) := by decide +kernel
theorem dX4_set_53 : decode cX4_set 53 = .ok (.if_icmp .ge 11, 3) := by decide +kernel
theorem dX4_set_56 : decode cX4_set 56 = .ok (.aload_n 0, 1) := by decide +kernel
theorem dX4_set_57 : decode cX4_set 57 = .ok (.getfield 51, 3) := by decide +kernel
theorem dX4_set_60 : decode cX4_set 60 = .ok (.iconst 4, 1) := by decide +kernel
theorem dX4_set_61 : decode cX4_set 61 = .ok (.if_icmp .lt 21, 3) := by decide +kernel
theorem dX4_set_64 : decode cX4_set 64 = .ok (.iload_n 1, 1) := by decide +kernel
theorem dX4_set_65 : decode cX4_set 65 = .ok (.iconst 4, 1) := by decide +kernel
theorem dX4_set_66 : decode cX4_set 66 = .ok (.bipush 9, 2) := by decide +kernel
theorem dX4_set_68 : decode cX4_set 68 = .ok (.invokestatic 27, 3) := by decide +kernel
theorem dX4_set_71 : decode cX4_set 71 = .ok (.ifCond .eq 14, 3) := by decide +kernel
theorem dX4_set_74 : decode cX4_set 74 = .ok (.aload_n 0, 1) := by decide +kernel
theorem dX4_set_75 : decode cX4_set 75 = .ok (.getfield 51, 3) := by decide +kernel
theorem dX4_set_78 : decode cX4_set 78 = .ok (.iconst 5, 1) := by decide +kernel
theorem dX4_set_79 : decode cX4_set 79 = .ok (.if_icmp .ge 6, 3) := by decide +kernel
theorem dX4_set_82 : decode cX4_set 82 = .ok (.bipush (-13), 2) := by decide +kernel
theorem dX4_set_84 : decode cX4_set 84 = .ok (.ireturn, 1) := by decide +kernel
theorem dX4_set_85 : decode cX4_set 85 = .ok (.aload_n 0, 1) := by decide +kernel
theorem dX4_set_86 : decode cX4_set 86 = .ok (.iload_n 1, 1) := by decide +kernel
theorem dX4_set_87 : decode cX4_set 87 = .ok (.invokevirtual 126, 3) := by decide +kernel
theorem dX4_set_90 : decode cX4_set 90 = .ok (.istore_n 3, 1) := by decide +kernel
theorem dX4_set_91 : decode cX4_set 91 = .ok (.aload_n 0, 1) := by decide +kernel
theorem dX4_set_92 : decode cX4_set 92 = .ok (.getfield 16, 3) := by decide +kernel
theorem dX4_set_95 : decode cX4_set 95 = .ok (.iload_n 3, 1) := by decide +kernel
theorem dX4_set_96 : decode cX4_set 96 = .ok (.iaload, 1) := by decide +kernel
theorem dX4_set_97 : decode cX4_set 97 = .ok (.istore 4, 2) := by decide +kernel
theorem dX4_set_99 : decode cX4_set 99 = .ok (.iload_n 1, 1) := by decide +kernel
theorem dX4_set_100 : decode cX4_set 100 = .ok (.invokestatic 123, 3) := by decide +kernel
theorem dX4_set_103 : decode cX4_set 103 = .ok (.ifCond .eq 47, 3) := by decide +kernel
theorem dX4_set_106 : decode cX4_set 106 = .ok (.sipush 256, 3) := by decide +kernel
theorem dX4_set_109 : decode cX4_set 109 = .ok (.iload 4, 2) := by decide +kernel
theorem dX4_set_111 : decode cX4_set 111 = .ok (.imul, 1) := by decide +kernel
theorem dX4_set_112 : decode cX4_set 112 = .ok (.aload_n 0, 1) := by decide +kernel
theorem dX4_set_113 : decode cX4_set 113 = .ok (.getfield 16, 3) := by decide +kernel
theorem dX4_set_116 : decode cX4_set 116 = .ok (.iload_n 3, 1) := by decide +kernel
theorem dX4_set_117 : decode cX4_set 117 = .ok (.iconst 1, 1) := by decide +kernel
theorem dX4_set_118 : decode cX4_set 118 = .ok (.iadd, 1) := by decide +kernel
theorem dX4_set_119 : decode cX4_set 119 = .ok (.iaload, 1) := by decide +kernel
theorem dX4_set_120 : decode cX4_set 120 = .ok (.iadd, 1) := by decide +kernel
theorem dX4_set_121 : decode cX4_set 121 = .ok (.istore 4, 2) := by decide +kernel
theorem dX4_set_123 : decode cX4_set 123 = .ok (.aload_n 0, 1) := by decide +kernel
theorem dX4_set_124 : decode cX4_set 124 = .ok (.getfield 16, 3) := by decide +kernel
theorem dX4_set_127 : decode cX4_set 127 = .ok (.iload_n 3, 1) := by decide +kernel
theorem dX4_set_128 : decode cX4_set 128 = .ok (.iload_n 2, 1) := by decide +kernel
theorem dX4_set_129 : decode cX4_set 129 = .ok (.sipush 256, 3) := by decide +kernel
theorem dX4_set_132 : decode cX4_set 132 = .ok (.idiv, 1) := by decide +kernel
theorem dX4_set_133 : decode cX4_set 133 = .ok (.iastore, 1) := by decide +kernel
theorem dX4_set_134 : decode cX4_set 134 = .ok (.aload_n 0, 1) := by decide +kernel
theorem dX4_set_135 : decode cX4_set 135 = .ok (.getfield 16, 3) := by decide +kernel
theorem dX4_set_138 : decode cX4_set 138 = .ok (.iload_n 3, 1) := by decide +kernel
theorem dX4_set_139 : decode cX4_set 139 = .ok (.iconst 1, 1) := by decide +kernel
theorem dX4_set_140 : decode cX4_set 140 = .ok (.iadd, 1) := by decide +kernel
theorem dX4_set_141 : decode cX4_set 141 = .ok (.iload_n 2, 1) := by decide +kernel
theorem dX4_set_142 : decode cX4_set 142 = .ok (.sipush 256, 3) := by decide +kernel
theorem dX4_set_145 : decode cX4_set 145 = .ok (.irem, 1) := by decide +kernel
theorem dX4_set_146 : decode cX4_set 146 = .ok (.iastore, 1) := by decide +kernel
theorem dX4_set_147 : decode cX4_set 147 = .ok (.goto 10, 3) := by decide +kernel
theorem dX4_set_150 : decode cX4_set 150 = .ok (.aload_n 0, 1) := by decide +kernel
theorem dX4_set_151 : decode cX4_set 151 = .ok (.getfield 16, 3) := by decide +kernel
theorem dX4_set_154 : decode cX4_set 154 = .ok (.iload_n 3, 1) := by decide +kernel
theorem dX4_set_155 : decode cX4_set 155 = .ok (.iload_n 2, 1) := by decide +kernel
theorem dX4_set_156 : decode cX4_set 156 = .ok (.iastore, 1) := by decide +kernel
theorem dX4_set_157 : decode cX4_set 157 = .ok (.iload 4, 2) := by decide +kernel
theorem dX4_set_159 : decode cX4_set 159 = .ok (.ireturn, 1) := by decide +kernel
set_option maxRecDepth 20000 in
theorem ggX4_restart_X4_two : GoodIn wsX4_restart wsX4_two := goodIn_ca (goodIn_r _ [9, 10, 11, 12, 13, 14, 15, 16, 17, 18, 19] (by decide +kernel) (by decide +kernel)) (goodIn_sub (fun _ h => List.mem_cons_of_mem _ (List.mem_append_right _ h)) (by decide +kernel))
set_option maxRecDepth 20000 in
theorem gX4_restart_X4_two : GoodIn wsX4_restart (wsV RX4 47 RX4 yX4_two wsX4_two) := goodIn_app (goodIn_of _ (by decide +kernel)) ggX4_restart_X4_two
theorem dX4_restart_0 : decode cX4_restart 0 = .ok (.aload_n 0, 1) := by decide +kernel
theorem dX4_restart_1 : decode cX4_restart 1 = .ok (.iconst 0, 1) := by decide +kernel
theorem dX4_restart_2 : decode cX4_restart 2 = .ok (.putfield 19, 3) := by decide +kernel
theorem dX4_restart_5 : decode cX4_restart 5 = .ok (.aload_n 0, 1) := by decide +kernel
theorem dX4_restart_6 : decode cX4_restart 6 = .ok (.getfield 36, 3) := by decide +kernel
theorem dX4_restart_9 : decode cX4_restart 9 = .ok (.ifCond .ne 6, 3) := by decide +kernel
theorem dX4_restart_12 : decode cX4_restart 12 = .ok (.bipush (-11), 2) := by decide +kernel
theorem dX4_restart_14 : decode cX4_restart 14 = .ok (.ireturn, 1) := by decide +kernel
theorem dX4_restart_15 : decode cX4_restart 15 = .ok (.iconst 0, 1) := by decide +kernel
theorem dX4_restart_16 : decode cX4_restart 16 = .ok (.istore_n 1, 1) := by decide +kernel
theorem dX4_restart_17 : decode cX4_restart 17 = .ok (.bipush 64, 2) := by decide +kernel
theorem dX4_restart_19 : decode cX4_restart 19 = .ok (.istore_n 2, 1) := by decide +kernel
theorem dX4_restart_20 : decode cX4_restart 20 = .ok (.iload_n 2, 1) := by decide +kernel
theorem dX4_restart_21 : decode cX4_restart 21 = .ok (.aload_n 0, 1) := by decide +kernel
theorem dX4_restart_22 : decode cX4_restart 22 = .ok (.bipush 14, 2) := by decide +kernel
theorem dX4_restart_24 : decode cX4_restart 24 = .ok (.invokevirtual 47, 3) := by decide +kernel
theorem dX4_restart_27 : decode cX4_restart 27 = .ok (.if_icmp .ge 44, 3) := by decide +kernel
theorem dX4_restart_30 : decode cX4_restart 30 = .ok (.iload_n 1, 1) := by decide +kernel
theorem dX4_restart_31 : decode cX4_restart 31 = .ok (.aload_n 0, 1) := by decide +kernel
theorem dX4_restart_32 : decode cX4_restart 32 = .ok (.getfield 16, 3) := by decide +kernel
theorem dX4_restart_35 : decode cX4_restart 35 = .ok (.iload_n 2, 1) := by decide +kernel
theorem dX4_restart_36 : decode cX4_restart 36 = .ok (.iaload, 1) := by decide +kernel
theorem dX4_restart_37 : decode cX4_restart 37 = .ok (.aload_n 0, 1) := by decide +kernel
theorem dX4_restart_38 : decode cX4_restart 38 = .ok (.getfield 13, 3) := by decide +kernel
theorem dX4_restart_41 : decode cX4_restart 41 = .ok (.iload_n 2, 1) := by decide +kernel
theorem dX4_restart_42 : decode cX4_restart 42 = .ok (.iaload, 1) := by decide +kernel
theorem dX4_restart_43 : decode cX4_restart 43 = .ok (.if_icmp .eq 7, 3) := by decide +kernel
theorem dX4_restart_46 : decode cX4_restart 46 = .ok (.iconst 1, 1) := by decide +kernel
theorem dX4_restart_47 : decode cX4_restart 47 = .ok (.goto 4, 3) := by decide +kernel
theorem dX4_restart_50 : decode cX4_restart 50 = .ok (.iconst 0, 1) := by decide +kernel
theorem dX4_restart_51 : decode cX4_restart 51 = .ok (.iadd, 1) := by decide +kernel
theorem dX4_restart_52 : decode cX4_restart 52 = .ok (.istore_n 1, 1) := by decide +kernel
theorem dX4_restart_53 : decode cX4_restart 53 = .ok (.aload_n 0, 1) := by decide +kernel
theorem dX4_restart_54 : decode cX4_restart 54 = .ok (.getfield 16, 3) := by decide +kernel
theorem dX4_restart_57 : decode cX4_restart 57 = .ok (.iload_n 2, 1) := by decide +kernel
theorem dX4_restart_58 : decode cX4_restart 58 = .ok (.aload_n 0, 1) := by decide +kernel
theorem dX4_restart_59 : decode cX4_restart 59 = .ok (.getfield 13, 3) := by decide +kernel
theorem dX4_restart_62 : decode cX4_restart 62 = .ok (.iload_n 2, 1) := by decide +kernel
theorem dX4_restart_63 : decode cX4_restart 63 = .ok (.iaload, 1) := by decide +kernel
theorem dX4_restart_64 : decode cX4_restart 64 = .ok (.iastore, 1) := by decide +kernel
theorem dX4_restart_65 : decode cX4_restart 65 = .ok (.iinc 2 1, 3) := by decide +kernel
theorem dX4_restart_68 : decode cX4_restart 68 = .ok (.goto (-48), 3) := by decide +kernel
theorem dX4_restart_71 : decode cX4_restart 71 = .ok (.iload_n 1, 1) := by decide +kernel
theorem dX4_restart_72 : decode cX4_restart 72 = .ok (.ireturn, 1) := by decide +kernel
set_option maxRecDepth 20000 in
theorem ggX4_sign_X4_two : GoodIn wsX4_sign wsX4_two := goodIn_ca (goodIn_r _ [9, 3, 17, 18, 19, 20, 21, 22, 23, 24, 25] (by decide +kernel) (by decide +kernel)) (goodIn_sub (fun _ h => List.mem_cons_of_mem _ (List.mem_append_right _ h)) (by decide +kernel))
set_option maxRecDepth 20000 in
theorem gX4_sign_X4_two : GoodIn wsX4_sign (wsV RX4 47 RX4 yX4_two wsX4_two) := goodIn_app (goodIn_of _ (by decide +kernel)) ggX4_sign_X4_two
set_option maxRecDepth 20000 in
theorem ggX4_sign_X4_in : GoodIn wsX4_sign wsX4_in := goodIn_r _ [12] (by decide +kernel) (by decide +kernel)
set_option maxRecDepth 20000 in
theorem gX4_sign_X4_in : GoodIn wsX4_sign (va_wsS RX4 27 yX4_in wsX4_in) := goodIn_app (goodIn_of _ (by decide +kernel)) ggX4_sign_X4_in
set_option maxRecDepth 20000 in
theorem ggX4_sign_X4_thrownAt : GoodIn wsX4_sign wsX4_thrownAt := goodIn_r _ [16, 1, 17, 18, 19, 20, 21, 22, 23, 24, 25] (by decide +kernel) (by decide +kernel)
set_option maxRecDepth 20000 in
theorem gX4_sign_X4_thrownAt : GoodIn wsX4_sign (wsV RX4 91 RX4 yX4_thrownAt wsX4_thrownAt) := goodIn_app (goodIn_of _ (by decide +kernel)) ggX4_sign_X4_thrownAt
theorem dX4_sign_0 : decode cX4_sign 0 = .ok (.aload_n 0, 1) := by decide +kernel
theorem dX4_sign_1 : decode cX4_sign 1 = .ok (.iconst 0, 1) := by decide +kernel
theorem dX4_sign_2 : decode cX4_sign 2 = .ok (.putfield 19, 3) := by decide +kernel
theorem dX4_sign_5 : decode cX4_sign 5 = .ok (.aload_n 0, 1) := by decide +kernel
theorem dX4_sign_6 : decode cX4_sign 6 = .ok (.getfield 36, 3) := by decide +kernel
theorem dX4_sign_9 : decode cX4_sign 9 = .ok (.ifCond .ne 6, 3) := by decide +kernel
theorem dX4_sign_12 : decode cX4_sign 12 = .ok (.bipush (-11), 2) := by decide +kernel
theorem dX4_sign_14 : decode cX4_sign 14 = .ok (.ireturn, 1) := by decide +kernel
theorem dX4_sign_15 : decode cX4_sign 15 = .ok (.aload_n 0, 1) := by decide +kernel
theorem dX4_sign_16 : decode cX4_sign 16 = .ok (.bipush 8, 2) := by decide +kernel
theorem dX4_sign_18 : decode cX4_sign 18 = .ok (.invokevirtual 47, 3) := by decide +kernel
theorem dX4_sign_21 : decode cX4_sign 21 = .ok (.istore_n 2, 1) := by decide +kernel
theorem dX4_sign_22 : decode cX4_sign 22 = .ok (.iload_n 1, 1) := by decide +kernel
theorem dX4_sign_23 : decode cX4_sign 23 = .ok (.iconst 0, 1) := by decide +kernel
theorem dX4_sign_24 : decode cX4_sign 24 = .ok (.aload_n 0, 1) := by decide +kernel
theorem dX4_sign_25 : decode cX4_sign 25 = .ok (.getfield 7, 3) := by decide +kernel
theorem dX4_sign_28 : decode cX4_sign 28 = .ok (.iload_n 2, 1) := by decide +kernel
theorem dX4_sign_29 : decode cX4_sign 29 = .ok (.iaload, 1) := by decide +kernel
theorem dX4_sign_30 : decode cX4_sign 30 = .ok (.iconst 1, 1) := by decide +kernel
theorem dX4_sign_31 : decode cX4_sign 31 = .ok (.isub, 1) := by decide +kernel
theorem dX4_sign_32 : decode cX4_sign 32 = .ok (.invokestatic 27, 3) := by decide +kernel
theorem dX4_sign_35 : decode cX4_sign 35 = .ok (.ifCond .eq 16, 3) := by decide +kernel
theorem dX4_sign_38 : decode cX4_sign 38 = .ok (.aload_n 0, 1) := by decide +kernel
theorem dX4_sign_39 : decode cX4_sign 39 = .ok (.getfield 13, 3) := by decide +kernel
theorem dX4_sign_42 : decode cX4_sign 42 = .ok (.iload_n 2, 1) := by decide +kernel
theorem dX4_sign_43 : decode cX4_sign 43 = .ok (.iconst 1, 1) := by decide +kernel
theorem dX4_sign_44 : decode cX4_sign 44 = .ok (.iadd, 1) := by decide +kernel
theorem dX4_sign_45 : decode cX4_sign 45 = .ok (.iload_n 1, 1) := by decide +kernel
theorem dX4_sign_46 : decode cX4_sign 46 = .ok (.iadd, 1) := by decide +kernel
theorem dX4_sign_47 : decode cX4_sign 47 = .ok (.iaload, 1) := by decide +kernel
theorem dX4_sign_48 : decode cX4_sign 48 = .ok (.goto 7, 3) := by decide +kernel
theorem dX4_sign_51 : decode cX4_sign 51 = .ok (.aload_n 0, 1) := by decide +kernel
theorem dX4_sign_52 : decode cX4_sign 52 = .ok (.invokevirtual 91, 3) := by decide +kernel
theorem dX4_sign_55 : decode cX4_sign 55 = .ok (.ireturn, 1) := by decide +kernel
set_option maxRecDepth 20000 in
theorem ggX4_ratio_X4_field : GoodIn wsX4_ratio wsX4_field := goodIn_ca (goodIn_r _ [8, 1, 2, 9, 3, 10, 11, 12, 13, 7, 14, 15, 16, 17, 18, 19, 20, 21, 22, 27, 28, 29, 30, 31, 32, 33, 34, 35] (by decide +kernel) (by decide +kernel)) (goodIn_sub (fun _ h => List.mem_cons_of_mem _ (List.mem_append_right _ h)) (by decide +kernel))
set_option maxRecDepth 20000 in
theorem gX4_ratio_X4_field : GoodIn wsX4_ratio (wsV RX4 129 RX4 yX4_field wsX4_field) := goodIn_app (goodIn_of _ (by decide +kernel)) ggX4_ratio_X4_field
set_option maxRecDepth 20000 in
theorem ggX4_ratio_X4_thrownAt : GoodIn wsX4_ratio wsX4_thrownAt := goodIn_r _ [26, 1, 27, 28, 29, 30, 31, 32, 33, 34, 35] (by decide +kernel) (by decide +kernel)
set_option maxRecDepth 20000 in
theorem gX4_ratio_X4_thrownAt : GoodIn wsX4_ratio (wsV RX4 91 RX4 yX4_thrownAt wsX4_thrownAt) := goodIn_app (goodIn_of _ (by decide +kernel)) ggX4_ratio_X4_thrownAt
theorem dX4_ratio_0 : decode cX4_ratio 0 = .ok (.aload_n 0, 1) := by decide +kernel
theorem dX4_ratio_1 : decode cX4_ratio 1 = .ok (.iconst 0, 1) := by decide +kernel
theorem dX4_ratio_2 : decode cX4_ratio 2 = .ok (.putfield 19, 3) := by decide +kernel
theorem dX4_ratio_5 : decode cX4_ratio 5 = .ok (.aload_n 0, 1) := by decide +kernel
theorem dX4_ratio_6 : decode cX4_ratio 6 = .ok (.getfield 36, 3) := by decide +kernel
theorem dX4_ratio_9 : decode cX4_ratio 9 = .ok (.ifCond .ne 6, 3) := by decide +kernel
theorem dX4_ratio_12 : decode cX4_ratio 12 = .ok (.bipush (-11), 2) := by decide +kernel
theorem dX4_ratio_14 : decode cX4_ratio 14 = .ok (.ireturn, 1) := by decide +kernel
theorem dX4_ratio_15 : decode cX4_ratio 15 = .ok (.aload_n 0, 1) := by decide +kernel
theorem dX4_ratio_16 : decode cX4_ratio 16 = .ok (.iload_n 1, 1) := by decide +kernel
theorem dX4_ratio_17 : decode cX4_ratio 17 = .ok (.ifCond .eq 8, 3) := by decide +kernel
theorem dX4_ratio_20 : decode cX4_ratio 20 = .ok (.bipush 15, 2) := by decide +kernel
theorem dX4_ratio_22 : decode cX4_ratio 22 = .ok (.goto 5, 3) := by decide +kernel
theorem dX4_ratio_25 : decode cX4_ratio 25 = .ok (.bipush 16, 2) := by decide +kernel
theorem dX4_ratio_27 : decode cX4_ratio 27 = .ok (.invokevirtual 129, 3) := by decide +kernel
theorem dX4_ratio_30 : decode cX4_ratio 30 = .ok (.istore_n 2, 1) := by decide +kernel
theorem dX4_ratio_31 : decode cX4_ratio 31 = .ok (.iload_n 2, 1) := by decide +kernel
theorem dX4_ratio_32 : decode cX4_ratio 32 = .ok (.ifCond .ne 10, 3) := by decide +kernel
theorem dX4_ratio_35 : decode cX4_ratio 35 = .ok (.aload_n 0, 1) := by decide +kernel
theorem dX4_ratio_36 : decode cX4_ratio 36 = .ok (.invokevirtual 91, 3) := by decide +kernel
theorem dX4_ratio_39 : decode cX4_ratio 39 = .ok (.goto 9, 3) := by decide +kernel
theorem dX4_ratio_42 : decode cX4_ratio 42 = .ok (.aload_n 0, 1) := by decide +kernel
theorem dX4_ratio_43 : decode cX4_ratio 43 = .ok (.getfield 54, 3) := by decide +kernel
theorem dX4_ratio_46 : decode cX4_ratio 46 = .ok (.iload_n 2, 1) := by decide +kernel
theorem dX4_ratio_47 : decode cX4_ratio 47 = .ok (.idiv, 1) := by decide +kernel
theorem dX4_ratio_48 : decode cX4_ratio 48 = .ok (.ireturn, 1) := by decide +kernel
