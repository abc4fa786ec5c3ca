theorem dX0_init_0 : decode cX0_init 0 = .ok (.aload_n 0, 1) := by decide +kernel
theorem dX0_init_1 : decode cX0_init 1 = .ok (.invokespecial 3, 3) := by decide +kernel
theorem dX0_init_4 : decode cX0_init 4 = .ok (.aload_n 0, 1) := by decide +kernel
theorem dX0_init_5 : decode cX0_init 5 = .ok (.iconst 0, 1) := by decide +kernel
theorem dX0_init_6 : decode cX0_init 6 = .ok (.putfield 9, 3) := by decide +kernel
theorem dX0_init_9 : decode cX0_init 9 = .ok (.aload_n 0, 1) := by decide +kernel
theorem dX0_init_10 : decode cX0_init 10 = .ok (.iconst 0, 1) := by decide +kernel
theorem dX0_init_11 : decode cX0_init 11 = .ok (.putfield 15, 3) := by decide +kernel
theorem dX0_init_14 : decode cX0_init 14 = .ok (.aload_n 0, 1) := by decide +kernel
theorem dX0_init_15 : decode cX0_init 15 = .ok (.iconst 0, 1) := by decide +kernel
theorem dX0_init_16 : decode cX0_init 16 = .ok (.putfield 18, 3) := by decide +kernel
theorem dX0_init_19 : decode cX0_init 19 = .ok (.aload_n 0, 1) := by decide +kernel
theorem dX0_init_20 : decode cX0_init 20 = .ok (.iconst 0, 1) := by decide +kernel
theorem dX0_init_21 : decode cX0_init 21 = .ok (.putfield 21, 3) := by decide +kernel
theorem dX0_init_24 : decode cX0_init 24 = .ok (.aload_n 0, 1) := by decide +kernel
theorem dX0_init_25 : decode cX0_init 25 = .ok (.iconst 0, 1) := by decide +kernel
theorem dX0_init_26 : decode cX0_init 26 = .ok (.putfield 24, 3) := by decide +kernel
theorem dX0_init_29 : decode cX0_init 29 = .ok (.aload_n 0, 1) := by decide +kernel
theorem dX0_init_30 : decode cX0_init 30 = .ok (.bipush 108, 2) := by decide +kernel
theorem dX0_init_32 : decode cX0_init 32 = .ok (.putfield 27, 3) := by decide +kernel
theorem dX0_init_35 : decode cX0_init 35 = .ok (.aload_n 0, 1) := by decide +kernel
theorem dX0_init_36 : decode cX0_init 36 = .ok (.iconst 0, 1) := by decide +kernel
theorem dX0_init_37 : decode cX0_init 37 = .ok (.putfield 31, 3) := by decide +kernel
theorem dX0_init_40 : decode cX0_init 40 = .ok (.aload_n 0, 1) := by decide +kernel
theorem dX0_init_41 : decode cX0_init 41 = .ok (.bipush (-2), 2) := by decide +kernel
theorem dX0_init_43 : decode cX0_init 43 = .ok (.putfield 35, 3) := by decide +kernel
theorem dX0_init_46 : decode cX0_init 46 = .ok (.aload_n 0, 1) := by decide +kernel
theorem dX0_init_47 : decode cX0_init 47 = .ok (.iconst (-1), 1) := by decide +kernel
theorem dX0_init_48 : decode cX0_init 48 = .ok (.putfield 38, 3) := by decide +kernel
theorem dX0_init_51 : decode cX0_init 51 = .ok (.return_, 1) := by decide +kernel
theorem dX0_follow_0 : decode cX0_follow 0 = .ok (.aload_n 0, 1) := by decide +kernel
theorem dX0_follow_1 : decode cX0_follow 1 = .ok (.iconst 0, 1) := by decide +kernel
theorem dX0_follow_2 : decode cX0_follow 2 = .ok (.putfield 15, 3) := by decide +kernel
theorem dX0_follow_5 : decode cX0_follow 5 = .ok (.aload_n 0, 1) := by decide +kernel
theorem dX0_follow_6 : decode cX0_follow 6 = .ok (.iconst 0, 1) := by decide +kernel
theorem dX0_follow_7 : decode cX0_follow 7 = .ok (.putfield 18, 3) := by decide +kernel
theorem dX0_follow_10 : decode cX0_follow 10 = .ok (.aload_n 0, 1) := by decide +kernel
theorem dX0_follow_11 : decode cX0_follow 11 = .ok (.getfield 9, 3) := by decide +kernel
theorem dX0_follow_14 : decode cX0_follow 14 = .ok (.iload_n 1, 1) := by decide +kernel
theorem dX0_follow_15 : decode cX0_follow 15 = .ok (.if_icmp .ne 4, 3) := by decide +kernel
theorem dX0_follow_18 : decode cX0_follow 18 = .ok (.return_, 1) := by decide +kernel
theorem dX0_follow_19 : decode cX0_follow 19 = .ok (.aload_n 0, 1) := by decide +kernel
theorem dX0_follow_20 : decode cX0_follow 20 = .ok (.iconst (-1), 1) := by decide +kernel
theorem dX0_follow_21 : decode cX0_follow 21 = .ok (.putfield 35, 3) := by decide +kernel
theorem dX0_follow_24 : decode cX0_follow 24 = .ok (.iload_n 2, 1) := by decide +kernel
theorem dX0_follow_25 : decode cX0_follow 25 = .ok (.ifCond .ne 9, 3) := by decide +kernel
theorem dX0_follow_28 : decode cX0_follow 28 = .ok (.aload_n 0, 1) := by decide +kernel
theorem dX0_follow_29 : decode cX0_follow 29 = .ok (.iload_n 1, 1) := by decide +kernel
theorem dX0_follow_30 : decode cX0_follow 30 = .ok (.putfield 9, 3) := by decide +kernel
theorem dX0_follow_33 : decode cX0_follow 33 = .ok (.return_, 1) := by decide +kernel
theorem dX0_follow_34 : decode cX0_follow 34 = .ok (.aload_n 0, 1) := by decide +kernel
theorem dX0_follow_35 : decode cX0_follow 35 = .ok (.iload_n 2, 1) := by decide +kernel
theorem dX0_follow_36 : decode cX0_follow 36 = .ok (.putfield 15, 3) := by decide +kernel
theorem dX0_follow_39 : decode cX0_follow 39 = .ok (.aload_n 0, 1) := by decide +kernel
theorem dX0_follow_40 : decode cX0_follow 40 = .ok (.aload_n 0, 1) := by decide +kernel
theorem dX0_follow_41 : decode cX0_follow 41 = .ok (.getfield 9, 3) := by decide +kernel
theorem dX0_follow_44 : decode cX0_follow 44 = .ok (.putfield 21, 3) := by decide +kernel
theorem dX0_follow_47 : decode cX0_follow 47 = .ok (.aload_n 0, 1) := by decide +kernel
theorem dX0_follow_48 : decode cX0_follow 48 = .ok (.iload_n 1, 1) := by decide +kernel
theorem dX0_follow_49 : decode cX0_follow 49 = .ok (.putfield 24, 3) := by decide +kernel
theorem dX0_follow_52 : decode cX0_follow 52 = .ok (.aload_n 0, 1) := by decide +kernel
theorem dX0_follow_53 : decode cX0_follow 53 = .ok (.iload_n 3, 1) := by decide +kernel
theorem dX0_follow_54 : decode cX0_follow 54 = .ok (.putfield 27, 3) := by decide +kernel
theorem dX0_follow_57 : decode cX0_follow 57 = .ok (.return_, 1) := by decide +kernel
theorem dX0_fadeTicksLeft_0 : decode cX0_fadeTicksLeft 0 = .ok (.aload_n 0, 1) := by decide +kernel
theorem dX0_fadeTicksLeft_1 : decode cX0_fadeTicksLeft 1 = .ok (.getfield 15, 3) := by decide +kernel
theorem dX0_fadeTicksLeft_4 : decode cX0_fadeTicksLeft 4 = .ok (.aload_n 0, 1) := by decide +kernel
theorem dX0_fadeTicksLeft_5 : decode cX0_fadeTicksLeft 5 = .ok (.getfield 18, 3) := by decide +kernel
theorem dX0_fadeTicksLeft_8 : decode cX0_fadeTicksLeft 8 = .ok (.isub, 1) := by decide +kernel
theorem dX0_fadeTicksLeft_9 : decode cX0_fadeTicksLeft 9 = .ok (.ireturn, 1) := by decide +kernel
set_option maxRecDepth 20000 in
theorem ggX0_fadeOneTick_X0_fadedPart : GoodIn wsX0_fadeOneTick wsX0_fadedPart := goodIn_ca (goodIn_r _ [10, 11, 12, 13, 14, 15, 16, 17, 18, 19, 20] (by decide +kernel) (by decide +kernel)) (goodIn_sub (fun _ h => List.mem_cons_of_mem _ (List.mem_append_right _ h)) (by decide +kernel))
set_option maxRecDepth 20000 in
theorem gX0_fadeOneTick_X0_fadedPart : GoodIn wsX0_fadeOneTick (wsV RX0 41 RX0 yX0_fadedPart wsX0_fadedPart) := goodIn_app (goodIn_of _ (by decide +kernel)) ggX0_fadeOneTick_X0_fadedPart
theorem dX0_fadeOneTick_0 : decode cX0_fadeOneTick 0 = .ok (.aload_n 0, 1) := by decide +kernel
theorem dX0_fadeOneTick_1 : decode cX0_fadeOneTick 1 = .ok (.getfield 18, 3) := by decide +kernel
theorem dX0_fadeOneTick_4 : decode cX0_fadeOneTick 4 = .ok (.aload_n 0, 1) := by decide +kernel
theorem dX0_fadeOneTick_5 : decode cX0_fadeOneTick 5 = .ok (.getfield 15, 3) := by decide +kernel
theorem dX0_fadeOneTick_8 : decode cX0_fadeOneTick 8 = .ok (.if_icmp .lt 4, 3) := by decide +kernel
theorem dX0_fadeOneTick_11 : decode cX0_fadeOneTick 11 = .ok (.return_, 1) := by decide +kernel
theorem dX0_fadeOneTick_12 : decode cX0_fadeOneTick 12 = .ok (.aload_n 0, 1) := by decide +kernel
theorem dX0_fadeOneTick_13 : decode cX0_fadeOneTick 13 = .ok (.dup, 1) := by decide +kernel
theorem dX0_fadeOneTick_14 : decode cX0_fadeOneTick 14 = .ok (.getfield 18, 3) := by decide +kernel
theorem dX0_fadeOneTick_17 : decode cX0_fadeOneTick 17 = .ok (.iconst 1, 1) := by decide +kernel
theorem dX0_fadeOneTick_18 : decode cX0_fadeOneTick 18 = .ok (.iadd, 1) := by decide +kernel
theorem dX0_fadeOneTick_19 : decode cX0_fadeOneTick 19 = .ok (.putfield 18, 3) := by decide +kernel
theorem dX0_fadeOneTick_22 : decode cX0_fadeOneTick 22 = .ok (.aload_n 0, 1) := by decide +kernel
theorem dX0_fadeOneTick_23 : decode cX0_fadeOneTick 23 = .ok (.getfield 18, 3) := by decide +kernel
theorem dX0_fadeOneTick_26 : decode cX0_fadeOneTick 26 = .ok (.aload_n 0, 1) := by decide +kernel
theorem dX0_fadeOneTick_27 : decode cX0_fadeOneTick 27 = .ok (.getfield 15, 3) := by decide +kernel
theorem dX0_fadeOneTick_30 : decode cX0_fadeOneTick 30 = .ok (.if_icmp .ge 36, 3) := by decide +kernel
theorem dX0_fadeOneTick_33 : decode cX0_fadeOneTick 33 = .ok (.aload_n 0, 1) := by decide +kernel
theorem dX0_fadeOneTick_34 : decode cX0_fadeOneTick 34 = .ok (.aload_n 0, 1) := by decide +kernel
theorem dX0_fadeOneTick_35 : decode cX0_fadeOneTick 35 = .ok (.getfield 21, 3) := by decide +kernel
theorem dX0_fadeOneTick_38 : decode cX0_fadeOneTick 38 = .ok (.aload_n 0, 1) := by decide +kernel
theorem dX0_fadeOneTick_39 : decode cX0_fadeOneTick 39 = .ok (.aload_n 0, 1) := by decide +kernel
theorem dX0_fadeOneTick_40 : decode cX0_fadeOneTick 40 = .ok (.getfield 24, 3) := by decide +kernel
theorem dX0_fadeOneTick_43 : decode cX0_fadeOneTick 43 = .ok (.aload_n 0, 1) := by decide +kernel
theorem dX0_fadeOneTick_44 : decode cX0_fadeOneTick 44 = .ok (.getfield 21, 3) := by decide +kernel
theorem dX0_fadeOneTick_47 : decode cX0_fadeOneTick 47 = .ok (.isub, 1) := by decide +kernel
theorem dX0_fadeOneTick_48 : decode cX0_fadeOneTick 48 = .ok (.aload_n 0, 1) := by decide +kernel
theorem dX0_fadeOneTick_49 : decode cX0_fadeOneTick 49 = .ok (.getfield 18, 3) := by decide +kernel
theorem dX0_fadeOneTick_52 : decode cX0_fadeOneTick 52 = .ok (.aload_n 0, 1) := by decide +kernel
theorem dX0_fadeOneTick_53 : decode cX0_fadeOneTick 53 = .ok (.getfield 15, 3) := by decide +kernel
theorem dX0_fadeOneTick_56 : decode cX0_fadeOneTick 56 = .ok (.invokevirtual 41, 3) := by decide +kernel
theorem dX0_fadeOneTick_59 : decode cX0_fadeOneTick 59 = .ok (.iadd, 1) := by decide +kernel
theorem dX0_fadeOneTick_60 : decode cX0_fadeOneTick 60 = .ok (.putfield 9, 3) := by decide +kernel
theorem dX0_fadeOneTick_63 : decode cX0_fadeOneTick 63 = .ok (.goto 11, 3) := by decide +kernel
theorem dX0_fadeOneTick_66 : decode cX0_fadeOneTick 66 = .ok (.aload_n 0, 1) := by decide +kernel
theorem dX0_fadeOneTick_67 : decode cX0_fadeOneTick 67 = .ok (.aload_n 0, 1) := by decide +kernel
theorem dX0_fadeOneTick_68 : decode cX0_fadeOneTick 68 = .ok (.getfield 24, 3) := by decide +kernel
theorem dX0_fadeOneTick_71 : decode cX0_fadeOneTick 71 = .ok (.putfield 9, 3) := by decide +kernel
theorem dX0_fadeOneTick_74 : decode cX0_fadeOneTick 74 = .ok (.return_, 1) := by decide +kernel
theorem dX0_fadedPart_0 : decode cX0_fadedPart 0 = .ok (.aload_n 0, 1) := by decide +kernel
theorem dX0_fadedPart_1 : decode cX0_fadedPart 1 = .ok (.getfield 27, 3) := by decide +kernel
theorem dX0_fadedPart_4 : decode cX0_fadedPart 4 = .ok (.lookupswitch 62 #[(113, 28), (115, 38)], 28) := by decide +kernel
theorem dX0_fadedPart_32 : decode cX0_fadedPart 32 = .ok (.iload_n 1, 1) := by decide +kernel
theorem dX0_fadedPart_33 : decode cX0_fadedPart 33 = .ok (.iload_n 2, 1) := by decide +kernel
theorem dX0_fadedPart_34 : decode cX0_fadedPart 34 = .ok (.iload_n 2, 1) := by decide +kernel
theorem dX0_fadedPart_35 : decode cX0_fadedPart 35 = .ok (.imul, 1) := by decide +kernel
theorem dX0_fadedPart_36 : decode cX0_fadedPart 36 = .ok (.imul, 1) := by decide +kernel
theorem dX0_fadedPart_37 : decode cX0_fadedPart 37 = .ok (.iload_n 3, 1) := by decide +kernel
theorem dX0_fadedPart_38 : decode cX0_fadedPart 38 = .ok (.iload_n 3, 1) := by decide +kernel
theorem dX0_fadedPart_39 : decode cX0_fadedPart 39 = .ok (.imul, 1) := by decide +kernel
theorem dX0_fadedPart_40 : decode cX0_fadedPart 40 = .ok (.idiv, 1) := by decide +kernel
theorem dX0_fadedPart_41 : decode cX0_fadedPart 41 = .ok (.ireturn, 1) := by decide +kernel
theorem dX0_fadedPart_42 : decode cX0_fadedPart 42 = .ok (.iload_n 1, 1) := by decide +kernel
theorem dX0_fadedPart_43 : decode cX0_fadedPart 43 = .ok (.iconst 3, 1) := by decide +kernel
theorem dX0_fadedPart_44 : decode cX0_fadedPart 44 = .ok (.iload_n 2, 1) := by decide +kernel
theorem dX0_fadedPart_45 : decode cX0_fadedPart 45 = .ok (.imul, 1) := by decide +kernel
theorem dX0_fadedPart_46 : decode cX0_fadedPart 46 = .ok (.iload_n 2, 1) := by decide +kernel
theorem dX0_fadedPart_47 : decode cX0_fadedPart 47 = .ok (.imul, 1) := by decide +kernel
theorem dX0_fadedPart_48 : decode cX0_fadedPart 48 = .ok (.iload_n 3, 1) := by decide +kernel
theorem dX0_fadedPart_49 : decode cX0_fadedPart 49 = .ok (.imul, 1) := by decide +kernel
theorem dX0_fadedPart_50 : decode cX0_fadedPart 50 = .ok (.iconst 2, 1) := by decide +kernel
theorem dX0_fadedPart_51 : decode cX0_fadedPart 51 = .ok (.iload_n 2, 1) := by decide +kernel
theorem dX0_fadedPart_52 : decode cX0_fadedPart 52 = .ok (.imul, 1) := by decide +kernel
theorem dX0_fadedPart_53 : decode cX0_fadedPart 53 = .ok (.iload_n 2, 1) := by decide +kernel
theorem dX0_fadedPart_54 : decode cX0_fadedPart 54 = .ok (.imul, 1) := by decide +kernel
theorem dX0_fadedPart_55 : decode cX0_fadedPart 55 = .ok (.iload_n 2, 1) := by decide +kernel
theorem dX0_fadedPart_56 : decode cX0_fadedPart 56 = .ok (.imul, 1) := by decide +kernel
theorem dX0_fadedPart_57 : decode cX0_fadedPart 57 = .ok (.isub, 1) := by decide +kernel
theorem dX0_fadedPart_58 : decode cX0_fadedPart 58 = .ok (.imul, 1) := by decide +kernel
theorem dX0_fadedPart_59 : decode cX0_fadedPart 59 = .ok (.iload_n 3, 1) := by decide +kernel
theorem dX0_fadedPart_60 : decode cX0_fadedPart 60 = .ok (.iload_n 3, 1) := by decide +kernel
theorem dX0_fadedPart_61 : decode cX0_fadedPart 61 = .ok (.imul, 1) := by decide +kernel
theorem dX0_fadedPart_62 : decode cX0_fadedPart 62 = .ok (.iload_n 3, 1) := by decide +kernel
theorem dX0_fadedPart_63 : decode cX0_fadedPart 63 = .ok (.imul, 1) := by decide +kernel
theorem dX0_fadedPart_64 : decode cX0_fadedPart 64 = .ok (.idiv, 1) := by decide +kernel
theorem dX0_fadedPart_65 : decode cX0_fadedPart 65 = .ok (.ireturn, 1) := by decide +kernel
theorem dX0_fadedPart_66 : decode cX0_fadedPart 66 = .ok (.iload_n 1, 1) := by decide +kernel
theorem dX0_fadedPart_67 : decode cX0_fadedPart 67 = .ok (.iload_n 2, 1) := by decide +kernel
theorem dX0_fadedPart_68 : decode cX0_fadedPart 68 = .ok (.imul, 1) := by decide +kernel
theorem dX0_fadedPart_69 : decode cX0_fadedPart 69 = .ok (.iload_n 3, 1) := by decide +kernel
theorem dX0_fadedPart_70 : decode cX0_fadedPart 70 = .ok (.idiv, 1) := by decide +kernel
theorem dX0_fadedPart_71 : decode cX0_fadedPart 71 = .ok (.ireturn, 1) := by decide +kernel
theorem dX1_init_0 : decode cX1_init 0 = .ok (.aload_n 0, 1) := by decide +kernel
theorem dX1_init_1 : decode cX1_init 1 = .ok (.invokespecial 3, 3) := by decide +kernel
theorem dX1_init_4 : decode cX1_init 4 = .ok (.aload_n 0, 1) := by decide +kernel
theorem dX1_init_5 : decode cX1_init 5 = .ok (.iconst 0, 1) := by decide +kernel
theorem dX1_init_6 : decode cX1_init 6 = .ok (.putfield 9, 3) := by decide +kernel
theorem dX1_init_9 : decode cX1_init 9 = .ok (.aload_n 0, 1) := by decide +kernel
theorem dX1_init_10 : decode cX1_init 10 = .ok (.bipush 12, 2) := by decide +kernel
theorem dX1_init_12 : decode cX1_init 12 = .ok (.newarray .int, 2) := by decide +kernel
theorem dX1_init_14 : decode cX1_init 14 = .ok (.putfield 15, 3) := by decide +kernel
theorem dX1_init_17 : decode cX1_init 17 = .ok (.aload_n 0, 1) := by decide +kernel
theorem dX1_init_18 : decode cX1_init 18 = .ok (.iload_n 1, 1) := by decide +kernel
theorem dX1_init_19 : decode cX1_init 19 = .ok (.putfield 19, 3) := by decide +kernel
theorem dX1_init_22 : decode cX1_init 22 = .ok (.aload_n 0, 1) := by decide +kernel
theorem dX1_init_23 : decode cX1_init 23 = .ok (.iload_n 2, 1) := by decide +kernel
theorem dX1_init_24 : decode cX1_init 24 = .ok (.putfield 23, 3) := by decide +kernel
theorem dX1_init_27 : decode cX1_init 27 = .ok (.aload_n 0, 1) := by decide +kernel
theorem dX1_init_28 : decode cX1_init 28 = .ok (.iload_n 3, 1) := by decide +kernel
theorem dX1_init_29 : decode cX1_init 29 = .ok (.putfield 26, 3) := by decide +kernel
theorem dX1_init_32 : decode cX1_init 32 = .ok (.iconst 0, 1) := by decide +kernel
theorem dX1_init_33 : decode cX1_init 33 = .ok (.istore 4, 2) := by decide +kernel
theorem dX1_init_35 : decode cX1_init 35 = .ok (.iload 4, 2) := by decide +kernel
theorem dX1_init_37 : decode cX1_init 37 = .ok (.bipush 12, 2) := by decide +kernel
theorem dX1_init_39 : decode cX1_init 39 = .ok (.if_icmp .ge 17, 3) := by decide +kernel
theorem dX1_init_42 : decode cX1_init 42 = .ok (.aload_n 0, 1) := by decide +kernel
theorem dX1_init_43 : decode cX1_init 43 = .ok (.getfield 15, 3) := by decide +kernel
theorem dX1_init_46 : decode cX1_init 46 = .ok (.iload 4, 2) := by decide +kernel
theorem dX1_init_48 : decode cX1_init 48 = .ok (.iconst (-1), 1) := by decide +kernel
theorem dX1_init_49 : decode cX1_init 49 = .ok (.iastore, 1) := by decide +kernel
theorem dX1_init_50 : decode cX1_init 50 = .ok (.iinc 4 1, 3) := by decide +kernel
theorem dX1_init_53 : decode cX1_init 53 = .ok (.goto (-18), 3) := by decide +kernel
theorem dX1_init_56 : decode cX1_init 56 = .ok (.return_, 1) := by decide +kernel
theorem dX2_init_0 : decode cX2_init 0 = .ok (.aload_n 0, 1) := by decide +kernel
theorem dX2_init_1 : decode cX2_init 1 = .ok (.invokespecial 3, 3) := by decide +kernel
theorem dX2_init_4 : decode cX2_init 4 = .ok (.aload_n 0, 1) := by decide +kernel
theorem dX2_init_5 : decode cX2_init 5 = .ok (.iconst 0, 1) := by decide +kernel
theorem dX2_init_6 : decode cX2_init 6 = .ok (.putfield 9, 3) := by decide +kernel
theorem dX2_init_9 : decode cX2_init 9 = .ok (.aload_n 0, 1) := by decide +kernel
theorem dX2_init_10 : decode cX2_init 10 = .ok (.iconst 0, 1) := by decide +kernel
theorem dX2_init_11 : decode cX2_init 11 = .ok (.putfield 15, 3) := by decide +kernel
theorem dX2_init_14 : decode cX2_init 14 = .ok (.aload_n 0, 1) := by decide +kernel
theorem dX2_init_15 : decode cX2_init 15 = .ok (.aload_n 1, 1) := by decide +kernel
theorem dX2_init_16 : decode cX2_init 16 = .ok (.putfield 19, 3) := by decide +kernel
theorem dX2_init_19 : decode cX2_init 19 = .ok (.aload_n 0, 1) := by decide +kernel
theorem dX2_init_20 : decode cX2_init 20 = .ok (.iload_n 2, 1) := by decide +kernel
theorem dX2_init_21 : decode cX2_init 21 = .ok (.putfield 23, 3) := by decide +kernel
theorem dX2_init_24 : decode cX2_init 24 = .ok (.aload_n 0, 1) := by decide +kernel
theorem dX2_init_25 : decode cX2_init 25 = .ok (.iload_n 3, 1) := by decide +kernel
theorem dX2_init_26 : decode cX2_init 26 = .ok (.putfield 27, 3) := by decide +kernel
theorem dX2_init_29 : decode cX2_init 29 = .ok (.aload_n 0, 1) := by decide +kernel
theorem dX2_init_30 : decode cX2_init 30 = .ok (.iload 4, 2) := by decide +kernel
theorem dX2_init_32 : decode cX2_init 32 = .ok (.putfield 30, 3) := by decide +kernel
theorem dX2_init_35 : decode cX2_init 35 = .ok (.aload_n 0, 1) := by decide +kernel
theorem dX2_init_36 : decode cX2_init 36 = .ok (.iload 5, 2) := by decide +kernel
theorem dX2_init_38 : decode cX2_init 38 = .ok (.putfield 33, 3) := by decide +kernel
theorem dX2_init_41 : decode cX2_init 41 = .ok (.return_, 1) := by decide +kernel
theorem dX2_valueAt_0 : decode cX2_valueAt 0 = .ok (.iload_n 1, 1) := by decide +kernel
theorem dX2_valueAt_1 : decode cX2_valueAt 1 = .ok (.aload_n 0, 1) := by decide +kernel
theorem dX2_valueAt_2 : decode cX2_valueAt 2 = .ok (.getfield 33, 3) := by decide +kernel
theorem dX2_valueAt_5 : decode cX2_valueAt 5 = .ok (.iload_n 2, 1) := by decide +kernel
theorem dX2_valueAt_6 : decode cX2_valueAt 6 = .ok (.imul, 1) := by decide +kernel
theorem dX2_valueAt_7 : decode cX2_valueAt 7 = .ok (.iadd, 1) := by decide +kernel
theorem dX2_valueAt_8 : decode cX2_valueAt 8 = .ok (.aload_n 0, 1) := by decide +kernel
theorem dX2_valueAt_9 : decode cX2_valueAt 9 = .ok (.getfield 27, 3) := by decide +kernel
theorem dX2_valueAt_12 : decode cX2_valueAt 12 = .ok (.irem, 1) := by decide +kernel
theorem dX2_valueAt_13 : decode cX2_valueAt 13 = .ok (.istore_n 3, 1) := by decide +kernel
theorem dX2_valueAt_14 : decode cX2_valueAt 14 = .ok (.aload_n 0, 1) := by decide +kernel
theorem dX2_valueAt_15 : decode cX2_valueAt 15 = .ok (.getfield 27, 3) := by decide +kernel
theorem dX2_valueAt_18 : decode cX2_valueAt 18 = .ok (.iconst 2, 1) := by decide +kernel
theorem dX2_valueAt_19 : decode cX2_valueAt 19 = .ok (.idiv, 1) := by decide +kernel
theorem dX2_valueAt_20 : decode cX2_valueAt 20 = .ok (.istore 4, 2) := by decide +kernel
theorem dX2_valueAt_22 : decode cX2_valueAt 22 = .ok (.aload_n 0, 1) := by decide +kernel
theorem dX2_valueAt_23 : decode cX2_valueAt 23 = .ok (.getfield 23, 3) := by decide +kernel
theorem dX2_valueAt_26 : decode cX2_valueAt 26 = .ok (.lookupswitch 53 #[(113, 38), (119, 26)], 26) := by decide +kernel
theorem dX2_valueAt_52 : decode cX2_valueAt 52 = .ok (.aload_n 0, 1) := by decide +kernel
theorem dX2_valueAt_53 : decode cX2_valueAt 53 = .ok (.getfield 30, 3) := by decide +kernel
theorem dX2_valueAt_56 : decode cX2_valueAt 56 = .ok (.iload_n 3, 1) := by decide +kernel
theorem dX2_valueAt_57 : decode cX2_valueAt 57 = .ok (.imul, 1) := by decide +kernel
theorem dX2_valueAt_58 : decode cX2_valueAt 58 = .ok (.aload_n 0, 1) := by decide +kernel
theorem dX2_valueAt_59 : decode cX2_valueAt 59 = .ok (.getfield 27, 3) := by decide +kernel
theorem dX2_valueAt_62 : decode cX2_valueAt 62 = .ok (.idiv, 1) := by decide +kernel
theorem dX2_valueAt_63 : decode cX2_valueAt 63 = .ok (.ireturn, 1) := by decide +kernel
theorem dX2_valueAt_64 : decode cX2_valueAt 64 = .ok (.iload_n 3, 1) := by decide +kernel
theorem dX2_valueAt_65 : decode cX2_valueAt 65 = .ok (.iload 4, 2) := by decide +kernel
theorem dX2_valueAt_67 : decode cX2_valueAt 67 = .ok (.if_icmp .ge 10, 3) := by decide +kernel
theorem dX2_valueAt_70 : decode cX2_valueAt 70 = .ok (.aload_n 0, 1) := by decide +kernel
theorem dX2_valueAt_71 : decode cX2_valueAt 71 = .ok (.getfield 30, 3) := by decide +kernel
theorem dX2_valueAt_74 : decode cX2_valueAt 74 = .ok (.goto 4, 3) := by decide +kernel
theorem dX2_valueAt_77 : decode cX2_valueAt 77 = .ok (.iconst 0, 1) := by decide +kernel
theorem dX2_valueAt_78 : decode cX2_valueAt 78 = .ok (.ireturn, 1) := by decide +kernel
theorem dX2_valueAt_79 : decode cX2_valueAt 79 = .ok (.iload_n 3, 1) := by decide +kernel
theorem dX2_valueAt_80 : decode cX2_valueAt 80 = .ok (.iload 4, 2) := by decide +kernel
theorem dX2_valueAt_82 : decode cX2_valueAt 82 = .ok (.if_icmp .gt 15, 3) := by decide +kernel
theorem dX2_valueAt_85 : decode cX2_valueAt 85 = .ok (.aload_n 0, 1) := by decide +kernel
theorem dX2_valueAt_86 : decode cX2_valueAt 86 = .ok (.getfield 30, 3) := by decide +kernel
theorem dX2_valueAt_89 : decode cX2_valueAt 89 = .ok (.iload_n 3, 1) := by decide +kernel
theorem dX2_valueAt_90 : decode cX2_valueAt 90 = .ok (.imul, 1) := by decide +kernel
theorem dX2_valueAt_91 : decode cX2_valueAt 91 = .ok (.iload 4, 2) := by decide +kernel
theorem dX2_valueAt_93 : decode cX2_valueAt 93 = .ok (.idiv, 1) := by decide +kernel
theorem dX2_valueAt_94 : decode cX2_valueAt 94 = .ok (.goto 22, 3) := by decide +kernel
theorem dX2_valueAt_97 : decode cX2_valueAt 97 = .ok (.aload_n 0, 1) := by decide +kernel
theorem dX2_valueAt_98 : decode cX2_valueAt 98 = .ok (.getfield 30, 3) := by decide +kernel
theorem dX2_valueAt_101 : decode cX2_valueAt 101 = .ok (.aload_n 0, 1) := by decide +kernel
theorem dX2_valueAt_102 : decode cX2_valueAt 102 = .ok (.getfield 27, 3) := by decide +kernel
theorem dX2_valueAt_105 : decode cX2_valueAt 105 = .ok (.iload_n 3, 1) := by decide +kernel
theorem dX2_valueAt_106 : decode cX2_valueAt 106 = .ok (.isub, 1) := by decide +kernel
theorem dX2_valueAt_107 : decode cX2_valueAt 107 = .ok (.imul, 1) := by decide +kernel
theorem dX2_valueAt_108 : decode cX2_valueAt 108 = .ok (.aload_n 0, 1) := by decide +kernel
theorem dX2_valueAt_109 : decode cX2_valueAt 109 = .ok (.getfield 27, 3) := by decide +kernel
theorem dX2_valueAt_112 : decode cX2_valueAt 112 = .ok (.iload 4, 2) := by decide +kernel
theorem dX2_valueAt_114 : decode cX2_valueAt 114 = .ok (.isub, 1) := by decide +kernel
theorem dX2_valueAt_115 : decode cX2_valueAt 115 = .ok (.idiv, 1) := by decide +kernel
theorem dX2_valueAt_116 : decode cX2_valueAt 116 = .ok (.ireturn, 1) := by decide +kernel
theorem dX3_init_0 : decode cX3_init 0 = .ok (.aload_n 0, 1) := by decide +kernel
theorem dX3_init_1 : decode cX3_init 1 = .ok (.invokespecial 3, 3) := by decide +kernel
theorem dX3_init_4 : decode cX3_init 4 = .ok (.aload_n 0, 1) := by decide +kernel
theorem dX3_init_5 : decode cX3_init 5 = .ok (.bipush 12, 2) := by decide +kernel
theorem dX3_init_7 : decode cX3_init 7 = .ok (.newarray .boolean, 2) := by decide +kernel
theorem dX3_init_9 : decode cX3_init 9 = .ok (.putfield 9, 3) := by decide +kernel
theorem dX3_init_12 : decode cX3_init 12 = .ok (.aload_n 0, 1) := by decide +kernel
theorem dX3_init_13 : decode cX3_init 13 = .ok (.iconst 0, 1) := by decide +kernel
theorem dX3_init_14 : decode cX3_init 14 = .ok (.putfield 15, 3) := by decide +kernel
theorem dX3_init_17 : decode cX3_init 17 = .ok (.return_, 1) := by decide +kernel
theorem dX3_membersBelow_0 : decode cX3_membersBelow 0 = .ok (.iconst 0, 1) := by decide +kernel
theorem dX3_membersBelow_1 : decode cX3_membersBelow 1 = .ok (.istore_n 2, 1) := by decide +kernel
theorem dX3_membersBelow_2 : decode cX3_membersBelow 2 = .ok (.iconst 0, 1) := by decide +kernel
theorem dX3_membersBelow_3 : decode cX3_membersBelow 3 = .ok (.istore_n 3, 1) := by decide +kernel
theorem dX3_membersBelow_4 : decode cX3_membersBelow 4 = .ok (.iload_n 3, 1) := by decide +kernel
theorem dX3_membersBelow_5 : decode cX3_membersBelow 5 = .ok (.iload_n 1, 1) := by decide +kernel
theorem dX3_membersBelow_6 : decode cX3_membersBelow 6 = .ok (.if_icmp .ge 21, 3) := by decide +kernel
theorem dX3_membersBelow_9 : decode cX3_membersBelow 9 = .ok (.aload_n 0, 1) := by decide +kernel
theorem dX3_membersBelow_10 : decode cX3_membersBelow 10 = .ok (.getfield 9, 3) := by decide +kernel
theorem dX3_membersBelow_13 : decode cX3_membersBelow 13 = .ok (.iload_n 3, 1) := by decide +kernel
theorem dX3_membersBelow_14 : decode cX3_membersBelow 14 = .ok (.baload, 1) := by decide +kernel
theorem dX3_membersBelow_15 : decode cX3_membersBelow 15 = .ok (.ifCond .eq 6, 3) := by decide +kernel
theorem dX3_membersBelow_18 : decode cX3_membersBelow 18 = .ok (.iinc 2 1, 3) := by decide +kernel
theorem dX3_membersBelow_21 : decode cX3_membersBelow 21 = .ok (.iinc 3 1, 3) := by decide +kernel
theorem dX3_membersBelow_24 : decode cX3_membersBelow 24 = .ok (.goto (-20), 3) := by decide +kernel
theorem dX3_membersBelow_27 : decode cX3_membersBelow 27 = .ok (.iload_n 2, 1) := by decide +kernel
theorem dX3_membersBelow_28 : decode cX3_membersBelow 28 = .ok (.ireturn, 1) := by decide +kernel
theorem dX4_init_0 : decode cX4_init 0 = .ok (.aload_n 0, 1) := by decide +kernel
theorem dX4_init_1 : decode cX4_init 1 = .ok (.invokespecial 1, 3) := by decide +kernel
theorem dX4_init_4 : decode cX4_init 4 = .ok (.aload_n 0, 1) := by decide +kernel
theorem dX4_init_5 : decode cX4_init 5 = .ok (.iload_n 1, 1) := by decide +kernel
theorem dX4_init_6 : decode cX4_init 6 = .ok (.putfield 7, 3) := by decide +kernel
theorem dX4_init_9 : decode cX4_init 9 = .ok (.aload_n 0, 1) := by decide +kernel
theorem dX4_init_10 : decode cX4_init 10 = .ok (.iload_n 2, 1) := by decide +kernel
theorem dX4_init_11 : decode cX4_init 11 = .ok (.putfield 13, 3) := by decide +kernel
theorem dX4_init_14 : decode cX4_init 14 = .ok (.aload_n 0, 1) := by decide +kernel
theorem dX4_init_15 : decode cX4_init 15 = .ok (.iload_n 3, 1) := by decide +kernel
theorem dX4_init_16 : decode cX4_init 16 = .ok (.putfield 17, 3) := by decide +kernel
theorem dX4_init_19 : decode cX4_init 19 = .ok (.return_, 1) := by decide +kernel
set_option maxRecDepth 20000 in
theorem ggX5_init_Jx4a65c_init_da8c8 : GoodIn wsX5_init wsJx4a65c_init_da8c8 := goodIn_r _ [24, 25, 26, 27, 28, 29, 30, 31, 32, 33, 34, 35, 36, 2, 3, 49, 50, 51] (by decide +kernel) (by decide +kernel)
set_option maxRecDepth 20000 in
theorem gX5_init_Jx4a65c_init_da8c8 : GoodIn wsX5_init (wsJx4a65c_init_da8c8) := ggX5_init_Jx4a65c_init_da8c8
set_option maxRecDepth 20000 in
theorem ggX5_init_X0_init : GoodIn wsX5_init wsX0_init := goodIn_r _ [38, 39, 2, 3, 40, 41, 42, 43, 44, 45, 46, 47, 48, 63, 64, 65, 66, 67, 68, 69, 70, 71] (by decide +kernel) (by decide +kernel)
set_option maxRecDepth 20000 in
theorem gX5_init_X0_init_n53 : GoodIn wsX5_init (wsX0_init) := ggX5_init_X0_init
theorem dX5_init_0 : decode cX5_init 0 = .ok (.aload_n 0, 1) := by decide +kernel
theorem dX5_init_1 : decode cX5_init 1 = .ok (.invokespecial 1, 3) := by decide +kernel
theorem dX5_init_4 : decode cX5_init 4 = .ok (.aload_n 0, 1) := by decide +kernel
theorem dX5_init_5 : decode cX5_init 5 = .ok (.new 7, 3) := by decide +kernel
theorem dX5_init_8 : decode cX5_init 8 = .ok (.dup, 1) := by decide +kernel
theorem dX5_init_9 : decode cX5_init 9 = .ok (.invokespecial 9, 3) := by decide +kernel
theorem dX5_init_12 : decode cX5_init 12 = .ok (.putfield 10, 3) := by decide +kernel
theorem dX5_init_15 : decode cX5_init 15 = .ok (.aload_n 0, 1) := by decide +kernel
theorem dX5_init_16 : decode cX5_init 16 = .ok (.iconst 0, 1) := by decide +kernel
theorem dX5_init_17 : decode cX5_init 17 = .ok (.putfield 16, 3) := by decide +kernel
theorem dX5_init_20 : decode cX5_init 20 = .ok (.aload_n 0, 1) := by decide +kernel
theorem dX5_init_21 : decode cX5_init 21 = .ok (.iconst 0, 1) := by decide +kernel
theorem dX5_init_22 : decode cX5_init 22 = .ok (.putfield 20, 3) := by decide +kernel
theorem dX5_init_25 : decode cX5_init 25 = .ok (.aload_n 0, 1) := by decide +kernel
theorem dX5_init_26 : decode cX5_init 26 = .ok (.bipush 12, 2) := by decide +kernel
theorem dX5_init_28 : decode cX5_init 28 = .ok (.anewarray 23, 3) := by decide +kernel
theorem dX5_init_31 : decode cX5_init 31 = .ok (.putfield 25, 3) := by decide +kernel
theorem dX5_init_34 : decode cX5_init 34 = .ok (.aload_n 0, 1) := by decide +kernel
theorem dX5_init_35 : decode cX5_init 35 = .ok (.new 7, 3) := by decide +kernel
theorem dX5_init_38 : decode cX5_init 38 = .ok (.dup, 1) := by decide +kernel
theorem dX5_init_39 : decode cX5_init 39 = .ok (.invokespecial 9, 3) := by decide +kernel
theorem dX5_init_42 : decode cX5_init 42 = .ok (.putfield 29, 3) := by decide +kernel
theorem dX5_init_45 : decode cX5_init 45 = .ok (.aload_n 0, 1) := by decide +kernel
theorem dX5_init_46 : decode cX5_init 46 = .ok (.new 7, 3) := by decide +kernel
theorem dX5_init_49 : decode cX5_init 49 = .ok (.dup, 1) := by decide +kernel
theorem dX5_init_50 : decode cX5_init 50 = .ok (.invokespecial 9, 3) := by decide +kernel
theorem dX5_init_53 : decode cX5_init 53 = .ok (.putfield 32, 3) := by decide +kernel
theorem dX5_init_56 : decode cX5_init 56 = .ok (.aload_n 0, 1) := by decide +kernel
theorem dX5_init_57 : decode cX5_init 57 = .ok (.sipush 255, 3) := by decide +kernel
theorem dX5_init_60 : decode cX5_init 60 = .ok (.putfield 35, 3) := by decide +kernel
theorem dX5_init_63 : decode cX5_init 63 = .ok (.aload_n 0, 1) := by decide +kernel
theorem dX5_init_64 : decode cX5_init 64 = .ok (.bipush 12, 2) := by decide +kernel
theorem dX5_init_66 : decode cX5_init 66 = .ok (.newarray .int, 2) := by decide +kernel
theorem dX5_init_68 : decode cX5_init 68 = .ok (.putfield 38, 3) := by decide +kernel
theorem dX5_init_71 : decode cX5_init 71 = .ok (.aload_n 0, 1) := by decide +kernel
theorem dX5_init_72 : decode cX5_init 72 = .ok (.lconst 0, 1) := by decide +kernel
theorem dX5_init_73 : decode cX5_init 73 = .ok (.putfield 42, 3) := by decide +kernel
theorem dX5_init_76 : decode cX5_init 76 = .ok (.aload_n 0, 1) := by decide +kernel
theorem dX5_init_77 : decode cX5_init 77 = .ok (.new 7, 3) := by decide +kernel
theorem dX5_init_80 : decode cX5_init 80 = .ok (.dup, 1) := by decide +kernel
theorem dX5_init_81 : decode cX5_init 81 = .ok (.invokespecial 9, 3) := by decide +kernel
theorem dX5_init_84 : decode cX5_init 84 = .ok (.putfield 46, 3) := by decide +kernel
theorem dX5_init_87 : decode cX5_init 87 = .ok (.aload_n 0, 1) := by decide +kernel
theorem dX5_init_88 : decode cX5_init 88 = .ok (.bipush 32, 2) := by decide +kernel
theorem dX5_init_90 : decode cX5_init 90 = .ok (.putfield 49, 3) := by decide +kernel
theorem dX5_init_93 : decode cX5_init 93 = .ok (.iconst 0, 1) := by decide +kernel
theorem dX5_init_94 : decode cX5_init 94 = .ok (.istore_n 1, 1) := by decide +kernel
theorem dX5_init_95 : decode cX5_init 95 = .ok (.iload_n 1, 1) := by decide +kernel
theorem dX5_init_96 : decode cX5_init 96 = .ok (.bipush 12, 2) := by decide +kernel
theorem dX5_init_98 : decode cX5_init 98 = .ok (.if_icmp .ge 22, 3) := by decide +kernel
theorem dX5_init_101 : decode cX5_init 101 = .ok (.aload_n 0, 1) := by decide +kernel
theorem dX5_init_102 : decode cX5_init 102 = .ok (.getfield 25, 3) := by decide +kernel
theorem dX5_init_105 : decode cX5_init 105 = .ok (.iload_n 1, 1) := by decide +kernel
theorem dX5_init_106 : decode cX5_init 106 = .ok (.new 23, 3) := by decide +kernel
theorem dX5_init_109 : decode cX5_init 109 = .ok (.dup, 1) := by decide +kernel
theorem dX5_init_110 : decode cX5_init 110 = .ok (.invokespecial 53, 3) := by decide +kernel
theorem dX5_init_113 : decode cX5_init 113 = .ok (.aastore, 1) := by decide +kernel
theorem dX5_init_114 : decode cX5_init 114 = .ok (.iinc 1 1, 3) := by decide +kernel
theorem dX5_init_117 : decode cX5_init 117 = .ok (.goto (-22), 3) := by decide +kernel
theorem dX5_init_120 : decode cX5_init 120 = .ok (.return_, 1) := by decide +kernel
set_option maxRecDepth 20000 in
theorem ggX5_addCue_X5_isWithin : GoodIn wsX5_addCue wsX5_isWithin := goodIn_r _ [14] (by decide +kernel) (by decide +kernel)
set_option maxRecDepth 20000 in
theorem gX5_addCue_X5_isWithin : GoodIn wsX5_addCue (va_wsS RX5 54 yX5_isWithin wsX5_isWithin) := goodIn_app (goodIn_of _ (by decide +kernel)) ggX5_addCue_X5_isWithin
set_option maxRecDepth 20000 in
theorem ggX5_addCue_X5_isCurve : GoodIn wsX5_addCue wsX5_isCurve := goodIn_r _ [17] (by decide +kernel) (by decide +kernel)
set_option maxRecDepth 20000 in
theorem gX5_addCue_X5_isCurve : GoodIn wsX5_addCue (va_wsS RX5 58 yX5_isCurve wsX5_isCurve) := goodIn_app (goodIn_of _ (by decide +kernel)) ggX5_addCue_X5_isCurve
set_option maxRecDepth 20000 in
theorem ggX5_addCue_X5_hasCue : GoodIn wsX5_addCue wsX5_hasCue := goodIn_r _ [21, 7, 22, 23, 24, 25, 26, 13, 27, 28, 29, 30, 31, 32, 33, 34, 35, 36, 37, 38, 39, 40, 41, 42, 43, 44, 45, 46, 47, 48, 49, 50, 117, 118, 119, 120, 121, 122, 123, 124, 125, 126, 127, 128, 129, 130, 131, 132, 133, 134, 135] (by decide +kernel) (by decide +kernel)
set_option maxRecDepth 20000 in
theorem gX5_addCue_X5_hasCue : GoodIn wsX5_addCue (wsV RX5 69 RX5 yX5_hasCue wsX5_hasCue) := goodIn_app (goodIn_of _ (by decide +kernel)) ggX5_addCue_X5_hasCue
set_option maxRecDepth 20000 in
theorem ggX5_addCue_Jx4a65c_size_8abf5 : GoodIn wsX5_addCue wsJx4a65c_size_8abf5 := goodIn_r _ [32, 33, 133, 134, 135] (by decide +kernel) (by decide +kernel)
set_option maxRecDepth 20000 in
theorem gX5_addCue_Jx4a65c_size_8abf5 : GoodIn wsX5_addCue (wsV RX5 78 RJx4a65c yJx4a65c_size_8abf5 wsJx4a65c_size_8abf5) := goodIn_app (goodIn_of _ (by decide +kernel)) ggX5_addCue_Jx4a65c_size_8abf5
set_option maxRecDepth 20000 in
theorem ggX5_addCue_X5_placeOf : GoodIn wsX5_addCue wsX5_placeOf := goodIn_r _ [27, 7, 22, 23, 28, 29, 30, 31, 32, 33, 34, 35, 36, 37, 38, 39, 40, 41, 42, 43, 44, 45, 46, 47, 48, 49, 50, 117, 118, 119, 120, 121, 122, 123, 124, 125, 126, 127, 128, 129, 130, 131, 132, 133, 134, 135] (by decide +kernel) (by decide +kernel)
set_option maxRecDepth 20000 in
theorem gX5_addCue_X5_placeOf : GoodIn wsX5_addCue (wsV RX5 87 RX5 yX5_placeOf wsX5_placeOf) := goodIn_app (goodIn_of _ (by decide +kernel)) ggX5_addCue_X5_placeOf
set_option maxRecDepth 20000 in
theorem ggX5_addCue_X1_init : GoodIn wsX5_addCue wsX1_init := goodIn_ca (goodIn_r _ [53, 54, 55, 56, 57, 58, 59, 60, 61, 62, 128, 129, 130, 131, 132] (by decide +kernel) (by decide +kernel)) (goodIn_sub (fun _ h => List.mem_cons_of_mem _ (List.mem_append_right _ h)) (by decide +kernel))
set_option maxRecDepth 20000 in
theorem gX5_addCue_X1_init : GoodIn wsX5_addCue (wsX1_init) := ggX5_addCue_X1_init
set_option maxRecDepth 20000 in
theorem ggX5_addCue_Jx4a65c_add_7a177 : GoodIn wsX5_addCue wsJx4a65c_add_7a177 := goodIn_r _ [66, 67, 68, 33, 50, 69, 70, 71, 72, 73, 74, 75, 31, 76, 77, 78, 79, 80, 81, 82, 83, 84, 85, 86, 87, 88, 89, 90, 91, 92, 93, 94, 95, 96, 97, 98, 99, 100, 101, 102, 103, 104, 105, 106, 107, 108, 109, 110, 111, 112, 113, 114, 115, 116, 133, 134, 135] (by decide +kernel) (by decide +kernel)
set_option maxRecDepth 20000 in
theorem gX5_addCue_Jx4a65c_add_7a177 : GoodIn wsX5_addCue (wsV RX5 96 RJx4a65c yJx4a65c_add_7a177 wsJx4a65c_add_7a177) := goodIn_app (goodIn_of _ (by decide +kernel)) ggX5_addCue_Jx4a65c_add_7a177
theorem dX5_addCue_0 : decode cX5_addCue 0 = .ok (.iload_n 1, 1) := by decide +kernel
theorem dX5_addCue_1 : decode cX5_addCue 1 = .ok (.iconst 1, 1) := by decide +kernel
theorem dX5_addCue_2 : decode cX5_addCue 2 = .ok (.bipush 99, 2) := by decide +kernel
theorem dX5_addCue_4 : decode cX5_addCue 4 = .ok (.invokestatic 54, 3) := by decide +kernel
theorem dX5_addCue_7 : decode cX5_addCue 7 = .ok (.ifCond .eq 20, 3) := by decide +kernel
theorem dX5_addCue_10 : decode cX5_addCue 10 = .ok (.iload_n 2, 1) := by decide +kernel
theorem dX5_addCue_11 : decode cX5_addCue 11 = .ok (.iconst 0, 1) := by decide +kernel
theorem dX5_addCue_12 : decode cX5_addCue 12 = .ok (.bipush 40, 2) := by decide +kernel
theorem dX5_addCue_14 : decode cX5_addCue 14 = .ok (.invokestatic 54, 3) := by decide +kernel
theorem dX5_addCue_17 : decode cX5_addCue 17 = .ok (.ifCond .eq 10, 3) := by decide +kernel
theorem dX5_addCue_20 : decode cX5_addCue 20 = .ok (.iload_n 3, 1) := by decide +kernel
theorem dX5_addCue_21 : decode cX5_addCue 21 = .ok (.invokestatic 58, 3) := by decide +kernel
theorem dX5_addCue_24 : decode cX5_addCue 24 = .ok (.ifCond .ne 13, 3) := by decide +kernel
theorem dX5_addCue_27 : decode cX5_addCue 27 = .ok (.new 62, 3) := by decide +kernel
theorem dX5_addCue_30 : decode cX5_addCue 30 = .ok (.dup, 1) := by decide +kernel
theorem dX5_addCue_31 : decode cX5_addCue 31 = .ok (.ldc 64, 2) := by decide +kernel
theorem dX5_addCue_33 : decode cX5_addCue 33 = .ok (.invokespecial 66, 3) := by decide +kernel
theorem dX5_addCue_36 : decode cX5_addCue 36 = .ok (.athrow, 1) := by decide +kernel
theorem dX5_addCue_37 : decode cX5_addCue 37 = .ok (.aload_n 0, 1) := by decide +kernel
theorem dX5_addCue_38 : decode cX5_addCue 38 = .ok (.iload_n 1, 1) := by decide +kernel
theorem dX5_addCue_39 : decode cX5_addCue 39 = .ok (.invokevirtual 69, 3) := by decide +kernel
theorem dX5_addCue_42 : decode cX5_addCue 42 = .ok (.ifCond .eq 13, 3) := by decide +kernel
theorem dX5_addCue_45 : decode cX5_addCue 45 = .ok (.new 73, 3) := by decide +kernel
theorem dX5_addCue_48 : decode cX5_addCue 48 = .ok (.dup, 1) := by decide +kernel
theorem dX5_addCue_49 : decode cX5_addCue 49 = .ok (.ldc 75, 2) := by decide +kernel
theorem dX5_addCue_51 : decode cX5_addCue 51 = .ok (.invokespecial 77, 3) := by decide +kernel
theorem dX5_addCue_54 : decode cX5_addCue 54 = .ok (.athrow, 1) := by decide +kernel
theorem dX5_addCue_55 : decode cX5_addCue 55 = .ok (.aload_n 0, 1) := by decide +kernel
theorem dX5_addCue_56 : decode cX5_addCue 56 = .ok (.getfield 10, 3) := by decide +kernel
theorem dX5_addCue_59 : decode cX5_addCue 59 = .ok (.invokevirtual 78, 3) := by decide +kernel
theorem dX5_addCue_62 : decode cX5_addCue 62 = .ok (.bipush 16, 2) := by decide +kernel
theorem dX5_addCue_64 : decode cX5_addCue 64 = .ok (.if_icmp .lt 13, 3) := by decide +kernel
theorem dX5_addCue_67 : decode cX5_addCue 67 = .ok (.new 82, 3) := by decide +kernel
theorem dX5_addCue_70 : decode cX5_addCue 70 = .ok (.dup, 1) := by decide +kernel
theorem dX5_addCue_71 : decode cX5_addCue 71 = .ok (.ldc 84, 2) := by decide +kernel
theorem dX5_addCue_73 : decode cX5_addCue 73 = .ok (.invokespecial 86, 3) := by decide +kernel
theorem dX5_addCue_76 : decode cX5_addCue 76 = .ok (.athrow, 1) := by decide +kernel
theorem dX5_addCue_77 : decode cX5_addCue 77 = .ok (.aload_n 0, 1) := by decide +kernel
theorem dX5_addCue_78 : decode cX5_addCue 78 = .ok (.getfield 10, 3) := by decide +kernel
theorem dX5_addCue_81 : decode cX5_addCue 81 = .ok (.aload_n 0, 1) := by decide +kernel
theorem dX5_addCue_82 : decode cX5_addCue 82 = .ok (.iload_n 1, 1) := by decide +kernel
theorem dX5_addCue_83 : decode cX5_addCue 83 = .ok (.invokevirtual 87, 3) := by decide +kernel
theorem dX5_addCue_86 : decode cX5_addCue 86 = .ok (.new 91, 3) := by decide +kernel
theorem dX5_addCue_89 : decode cX5_addCue 89 = .ok (.dup, 1) := by decide +kernel
theorem dX5_addCue_90 : decode cX5_addCue 90 = .ok (.iload_n 1, 1) := by decide +kernel
theorem dX5_addCue_91 : decode cX5_addCue 91 = .ok (.iload_n 2, 1) := by decide +kernel
theorem dX5_addCue_92 : decode cX5_addCue 92 = .ok (.iload_n 3, 1) := by decide +kernel
theorem dX5_addCue_93 : decode cX5_addCue 93 = .ok (.invokespecial 93, 3) := by decide +kernel
theorem dX5_addCue_96 : decode cX5_addCue 96 = .ok (.invokevirtual 96, 3) := by decide +kernel
theorem dX5_addCue_99 : decode cX5_addCue 99 = .ok (.aload_n 0, 1) := by decide +kernel
theorem dX5_addCue_100 : decode cX5_addCue 100 = .ok (.getfield 10, 3) := by decide +kernel
theorem dX5_addCue_103 : decode cX5_addCue 103 = .ok (.invokevirtual 78, 3) := by decide +kernel
theorem dX5_addCue_106 : decode cX5_addCue 106 = .ok (.ireturn, 1) := by decide +kernel
set_option maxRecDepth 20000 in
theorem ggX5_removeCue_X5_requireCue : GoodIn wsX5_removeCue wsX5_requireCue := goodIn_ca (goodIn_r _ [6, 7, 8, 9, 10, 11, 5, 12, 1, 13, 14, 15, 16, 17, 18, 19, 20, 21, 22, 23, 24, 25, 26, 27, 28, 29, 30, 31, 32, 33, 34, 35, 36, 37, 38, 39, 40, 41, 56, 57, 58, 59, 60, 61, 62, 63, 64, 65, 66, 67, 68, 69, 70, 71, 72, 73, 74] (by decide +kernel) (by decide +kernel)) (goodIn_sub (fun _ h => List.mem_cons_of_mem _ (List.mem_append_right _ h)) (by decide +kernel))
set_option maxRecDepth 20000 in
theorem gX5_removeCue_X5_requireCue : GoodIn wsX5_removeCue (wsV RX5 100 RX5 yX5_requireCue wsX5_requireCue) := goodIn_app (goodIn_of _ (by decide +kernel)) ggX5_removeCue_X5_requireCue
set_option maxRecDepth 20000 in
theorem ggX5_removeCue_Jx4a65c_remove_915e3 : GoodIn wsX5_removeCue wsJx4a65c_remove_915e3 := goodIn_r _ [45, 24, 41, 29, 30, 31, 32, 33, 34, 35, 36, 46, 47, 48, 22, 49, 50, 51, 52, 53, 54, 55, 72, 73, 74] (by decide +kernel) (by decide +kernel)
set_option maxRecDepth 20000 in
theorem gX5_removeCue_Jx4a65c_remove_915e3 : GoodIn wsX5_removeCue (wsV RX5 103 RJx4a65c yJx4a65c_remove_915e3 wsJx4a65c_remove_915e3) := goodIn_app (goodIn_of _ (by decide +kernel)) ggX5_removeCue_Jx4a65c_remove_915e3
set_option maxRecDepth 20000 in
theorem ggX5_removeCue_Jx4a65c_size_8abf5 : GoodIn wsX5_removeCue wsJx4a65c_size_8abf5 := goodIn_r _ [23, 24, 72, 73, 74] (by decide +kernel) (by decide +kernel)
set_option maxRecDepth 20000 in
theorem gX5_removeCue_Jx4a65c_size_8abf5 : GoodIn wsX5_removeCue (wsV RX5 78 RJx4a65c yJx4a65c_size_8abf5 wsJx4a65c_size_8abf5) := goodIn_app (goodIn_of _ (by decide +kernel)) ggX5_removeCue_Jx4a65c_size_8abf5
theorem dX5_removeCue_0 : decode cX5_removeCue 0 = .ok (.aload_n 0, 1) := by decide +kernel
theorem dX5_removeCue_1 : decode cX5_removeCue 1 = .ok (.getfield 10, 3) := by decide +kernel
theorem dX5_removeCue_4 : decode cX5_removeCue 4 = .ok (.aload_n 0, 1) := by decide +kernel
theorem dX5_removeCue_5 : decode cX5_removeCue 5 = .ok (.iload_n 1, 1) := by decide +kernel
theorem dX5_removeCue_6 : decode cX5_removeCue 6 = .ok (.invokevirtual 100, 3) := by decide +kernel
theorem dX5_removeCue_9 : decode cX5_removeCue 9 = .ok (.invokevirtual 103, 3) := by decide +kernel
theorem dX5_removeCue_12 : decode cX5_removeCue 12 = .ok (.pop, 1) := by decide +kernel
theorem dX5_removeCue_13 : decode cX5_removeCue 13 = .ok (.aload_n 0, 1) := by decide +kernel
theorem dX5_removeCue_14 : decode cX5_removeCue 14 = .ok (.getfield 10, 3) := by decide +kernel
theorem dX5_removeCue_17 : decode cX5_removeCue 17 = .ok (.invokevirtual 78, 3) := by decide +kernel
theorem dX5_removeCue_20 : decode cX5_removeCue 20 = .ok (.ireturn, 1) := by decide +kernel
set_option maxRecDepth 20000 in
theorem ggX5_setChange_X5_requireCue : GoodIn wsX5_setChange wsX5_requireCue := goodIn_ca (goodIn_r _ [8, 9, 10, 11, 12, 13, 7, 14, 1, 2, 15, 16, 17, 18, 19, 20, 21, 22, 23, 24, 25, 26, 27, 28, 29, 30, 31, 32, 33, 34, 35, 36, 37, 38, 39, 40, 41, 42, 62, 63, 64, 65, 66, 67, 68, 69, 70, 71, 72, 73, 74, 75, 76, 77, 78, 79, 80] (by decide +kernel) (by decide +kernel)) (goodIn_sub (fun _ h => List.mem_cons_of_mem _ (List.mem_append_left _ (List.mem_append_left _ (List.mem_append_right _ h)))) (by decide +kernel))
set_option maxRecDepth 20000 in
theorem gX5_setChange_X5_requireCue : GoodIn wsX5_setChange (wsV RX5 100 RX5 yX5_requireCue wsX5_requireCue) := goodIn_app (goodIn_of _ (by decide +kernel)) ggX5_setChange_X5_requireCue
set_option maxRecDepth 20000 in
theorem ggX5_setChange_X5_requireChannel : GoodIn wsX5_setChange wsX5_requireChannel := goodIn_ca (goodIn_r _ [45, 46, 47, 48, 49, 7, 50, 51, 52, 53] (by decide +kernel) (by decide +kernel)) (goodIn_sub (fun _ h => List.mem_cons_of_mem _ (List.mem_append_left _ (List.mem_append_right _ h))) (by decide +kernel))
set_option maxRecDepth 20000 in
theorem gX5_setChange_X5_requireChannel : GoodIn wsX5_setChange (va_wsS RX5 107 yX5_requireChannel wsX5_requireChannel) := goodIn_app (goodIn_of _ (by decide +kernel)) ggX5_setChange_X5_requireChannel
set_option maxRecDepth 20000 in
theorem ggX5_setChange_X5_requireLevel : GoodIn wsX5_setChange wsX5_requireLevel := goodIn_ca (goodIn_r _ [56, 57, 58, 59, 60, 7, 61, 51, 52, 53] (by decide +kernel) (by decide +kernel)) (goodIn_sub (fun _ h => List.mem_cons_of_mem _ (List.mem_append_right _ h)) (by decide +kernel))
set_option maxRecDepth 20000 in
theorem gX5_setChange_X5_requireLevel : GoodIn wsX5_setChange (va_wsS RX5 111 yX5_requireLevel wsX5_requireLevel) := goodIn_app (goodIn_of _ (by decide +kernel)) ggX5_setChange_X5_requireLevel
set_option maxRecDepth 20000 in
theorem ggX5_setChange_Jx4a65c_get_915e3 : GoodIn wsX5_setChange wsJx4a65c_get_915e3 := goodIn_r _ [29, 25, 30, 31, 32, 33, 34, 35, 36, 37, 38, 39, 40, 23, 41, 42, 78, 79, 80] (by decide +kernel) (by decide +kernel)
set_option maxRecDepth 20000 in
theorem gX5_setChange_Jx4a65c_get_915e3 : GoodIn wsX5_setChange (wsV RX5 114 RJx4a65c yJx4a65c_get_915e3 wsJx4a65c_get_915e3) := goodIn_app (goodIn_of _ (by decide +kernel)) ggX5_setChange_Jx4a65c_get_915e3
theorem dX5_setChange_0 : decode cX5_setChange 0 = .ok (.aload_n 0, 1) := by decide +kernel
theorem dX5_setChange_1 : decode cX5_setChange 1 = .ok (.iload_n 1, 1) := by decide +kernel
theorem dX5_setChange_2 : decode cX5_setChange 2 = .ok (.invokevirtual 100, 3) := by decide +kernel
theorem dX5_setChange_5 : decode cX5_setChange 5 = .ok (.istore 4, 2) := by decide +kernel
theorem dX5_setChange_7 : decode cX5_setChange 7 = .ok (.iload_n 2, 1) := by decide +kernel
theorem dX5_setChange_8 : decode cX5_setChange 8 = .ok (.invokestatic 107, 3) := by decide +kernel
theorem dX5_setChange_11 : decode cX5_setChange 11 = .ok (.iload_n 3, 1) := by decide +kernel
theorem dX5_setChange_12 : decode cX5_setChange 12 = .ok (.invokestatic 111, 3) := by decide +kernel
theorem dX5_setChange_15 : decode cX5_setChange 15 = .ok (.aload_n 0, 1) := by decide +kernel
theorem dX5_setChange_16 : decode cX5_setChange 16 = .ok (.getfield 10, 3) := by decide +kernel
theorem dX5_setChange_19 : decode cX5_setChange 19 = .ok (.iload 4, 2) := by decide +kernel
theorem dX5_setChange_21 : decode cX5_setChange 21 = .ok (.invokevirtual 114, 3) := by decide +kernel
theorem dX5_setChange_24 : decode cX5_setChange 24 = .ok (.checkcast 91, 3) := by decide +kernel
theorem dX5_setChange_27 : decode cX5_setChange 27 = .ok (.getfield 117, 3) := by decide +kernel
theorem dX5_setChange_30 : decode cX5_setChange 30 = .ok (.astore 5, 2) := by decide +kernel
theorem dX5_setChange_32 : decode cX5_setChange 32 = .ok (.aload 5, 2) := by decide +kernel
theorem dX5_setChange_34 : decode cX5_setChange 34 = .ok (.iload_n 2, 1) := by decide +kernel
theorem dX5_setChange_35 : decode cX5_setChange 35 = .ok (.iaload, 1) := by decide +kernel
theorem dX5_setChange_36 : decode cX5_setChange 36 = .ok (.istore 6, 2) := by decide +kernel
theorem dX5_setChange_38 : decode cX5_setChange 38 = .ok (.aload 5, 2) := by decide +kernel
theorem dX5_setChange_40 : decode cX5_setChange 40 = .ok (.iload_n 2, 1) := by decide +kernel
theorem dX5_setChange_41 : decode cX5_setChange 41 = .ok (.iload_n 3, 1) := by decide +kernel
theorem dX5_setChange_42 : decode cX5_setChange 42 = .ok (.iastore, 1) := by decide +kernel
theorem dX5_setChange_43 : decode cX5_setChange 43 = .ok (.iload 6, 2) := by decide +kernel
theorem dX5_setChange_45 : decode cX5_setChange 45 = .ok (.ireturn, 1) := by decide +kernel
set_option maxRecDepth 20000 in
theorem ggX5_removeChange_X5_requireCue : GoodIn wsX5_removeChange wsX5_requireCue := goodIn_ca (goodIn_r _ [10, 1, 2, 11, 12, 13, 9, 14, 3, 4, 15, 16, 17, 18, 19, 20, 21, 22, 23, 24, 25, 26, 27, 28, 29, 30, 31, 32, 33, 34, 35, 36, 37, 38, 39, 40, 41, 42, 54, 55, 56, 57, 58, 59, 60, 61, 62, 63, 64, 65, 66, 67, 68, 69, 70, 71, 72] (by decide +kernel) (by decide +kernel)) (goodIn_sub (fun _ h => List.mem_cons_of_mem _ (List.mem_append_left _ (List.mem_append_right _ h))) (by decide +kernel))
set_option maxRecDepth 20000 in
theorem gX5_removeChange_X5_requireCue : GoodIn wsX5_removeChange (wsV RX5 100 RX5 yX5_requireCue wsX5_requireCue) := goodIn_app (goodIn_of _ (by decide +kernel)) ggX5_removeChange_X5_requireCue
set_option maxRecDepth 20000 in
theorem ggX5_removeChange_X5_requireChannel : GoodIn wsX5_removeChange wsX5_requireChannel := goodIn_ca (goodIn_r _ [45, 46, 47, 48, 49, 9, 50, 51, 52, 53] (by decide +kernel) (by decide +kernel)) (goodIn_sub (fun _ h => List.mem_cons_of_mem _ (List.mem_append_right _ h)) (by decide +kernel))
set_option maxRecDepth 20000 in
theorem gX5_removeChange_X5_requireChannel : GoodIn wsX5_removeChange (va_wsS RX5 107 yX5_requireChannel wsX5_requireChannel) := goodIn_app (goodIn_of _ (by decide +kernel)) ggX5_removeChange_X5_requireChannel
set_option maxRecDepth 20000 in
theorem ggX5_removeChange_Jx4a65c_get_915e3 : GoodIn wsX5_removeChange wsJx4a65c_get_915e3 := goodIn_r _ [29, 25, 30, 31, 32, 33, 34, 35, 36, 37, 38, 39, 40, 23, 41, 42, 70, 71, 72] (by decide +kernel) (by decide +kernel)
set_option maxRecDepth 20000 in
theorem gX5_removeChange_Jx4a65c_get_915e3 : GoodIn wsX5_removeChange (wsV RX5 114 RJx4a65c yJx4a65c_get_915e3 wsJx4a65c_get_915e3) := goodIn_app (goodIn_of _ (by decide +kernel)) ggX5_removeChange_Jx4a65c_get_915e3
theorem dX5_removeChange_0 : decode cX5_removeChange 0 = .ok (.aload_n 0, 1) := by decide +kernel
theorem dX5_removeChange_1 : decode cX5_removeChange 1 = .ok (.iload_n 1, 1) := by decide +kernel
theorem dX5_removeChange_2 : decode cX5_removeChange 2 = .ok (.invokevirtual 100, 3) := by decide +kernel
theorem dX5_removeChange_5 : decode cX5_removeChange 5 = .ok (.istore_n 3, 1) := by decide +kernel
theorem dX5_removeChange_6 : decode cX5_removeChange 6 = .ok (.iload_n 2, 1) := by decide +kernel
theorem dX5_removeChange_7 : decode cX5_removeChange 7 = .ok (.invokestatic 107, 3) := by decide +kernel
theorem dX5_removeChange_10 : decode cX5_removeChange 10 = .ok (.aload_n 0, 1) := by decide +kernel
theorem dX5_removeChange_11 : decode cX5_removeChange 11 = .ok (.getfield 10, 3) := by decide +kernel
theorem dX5_removeChange_14 : decode cX5_removeChange 14 = .ok (.iload_n 3, 1) := by decide +kernel
theorem dX5_removeChange_15 : decode cX5_removeChange 15 = .ok (.invokevirtual 114, 3) := by decide +kernel
theorem dX5_removeChange_18 : decode cX5_removeChange 18 = .ok (.checkcast 91, 3) := by decide +kernel
theorem dX5_removeChange_21 : decode cX5_removeChange 21 = .ok (.getfield 117, 3) := by decide +kernel
theorem dX5_removeChange_24 : decode cX5_removeChange 24 = .ok (.astore 4, 2) := by decide +kernel
theorem dX5_removeChange_26 : decode cX5_removeChange 26 = .ok (.aload 4, 2) := by decide +kernel
theorem dX5_removeChange_28 : decode cX5_removeChange 28 = .ok (.iload_n 2, 1) := by decide +kernel
theorem dX5_removeChange_29 : decode cX5_removeChange 29 = .ok (.iaload, 1) := by decide +kernel
theorem dX5_removeChange_30 : decode cX5_removeChange 30 = .ok (.istore 5, 2) := by decide +kernel
theorem dX5_removeChange_32 : decode cX5_removeChange 32 = .ok (.iload 5, 2) := by decide +kernel
theorem dX5_removeChange_34 : decode cX5_removeChange 34 = .ok (.iconst (-1), 1) := by decide +kernel
theorem dX5_removeChange_35 : decode cX5_removeChange 35 = .ok (.if_icmp .ne 13, 3) := by decide +kernel
theorem dX5_removeChange_38 : decode cX5_removeChange 38 = .ok (.new 120, 3) := by decide +kernel
theorem dX5_removeChange_41 : decode cX5_removeChange 41 = .ok (.dup, 1) := by decide +kernel
theorem dX5_removeChange_42 : decode cX5_removeChange 42 = .ok (.ldc 122, 2) := by decide +kernel
theorem dX5_removeChange_44 : decode cX5_removeChange 44 = .ok (.invokespecial 124, 3) := by decide +kernel
theorem dX5_removeChange_47 : decode cX5_removeChange 47 = .ok (.athrow, 1) := by decide +kernel
theorem dX5_removeChange_48 : decode cX5_removeChange 48 = .ok (.aload 4, 2) := by decide +kernel
theorem dX5_removeChange_50 : decode cX5_removeChange 50 = .ok (.iload_n 2, 1) := by decide +kernel
theorem dX5_removeChange_51 : decode cX5_removeChange 51 = .ok (.iconst (-1), 1) := by decide +kernel
theorem dX5_removeChange_52 : decode cX5_removeChange 52 = .ok (.iastore, 1) := by decide +kernel
theorem dX5_removeChange_53 : decode cX5_removeChange 53 = .ok (.iload 5, 2) := by decide +kernel
theorem dX5_removeChange_55 : decode cX5_removeChange 55 = .ok (.ireturn, 1) := by decide +kernel
set_option maxRecDepth 20000 in
theorem ggX5_setBlock_X5_requireCue : GoodIn wsX5_setBlock wsX5_requireCue := goodIn_ca (goodIn_r _ [8, 9, 10, 11, 12, 13, 7, 14, 1, 2, 15, 16, 17, 18, 19, 20, 21, 22, 23, 24, 25, 26, 27, 28, 29, 30, 31, 32, 33, 34, 35, 36, 37, 38, 39, 40, 41, 42, 43, 44, 45, 46, 47, 48, 49, 50, 51, 52, 53, 54, 55, 56, 57, 58, 59, 60, 61] (by decide +kernel) (by decide +kernel)) (goodIn_sub (fun _ h => List.mem_cons_of_mem _ (List.mem_append_right _ h)) (by decide +kernel))
set_option maxRecDepth 20000 in
theorem gX5_setBlock_X5_requireCue : GoodIn wsX5_setBlock (wsV RX5 100 RX5 yX5_requireCue wsX5_requireCue) := goodIn_app (goodIn_of _ (by decide +kernel)) ggX5_setBlock_X5_requireCue
set_option maxRecDepth 20000 in
theorem ggX5_setBlock_Jx4a65c_get_915e3 : GoodIn wsX5_setBlock wsJx4a65c_get_915e3 := goodIn_r _ [29, 25, 30, 31, 32, 33, 34, 35, 36, 37, 38, 39, 40, 23, 41, 42, 59, 60, 61] (by decide +kernel) (by decide +kernel)
set_option maxRecDepth 20000 in
theorem gX5_setBlock_Jx4a65c_get_915e3 : GoodIn wsX5_setBlock (wsV RX5 114 RJx4a65c yJx4a65c_get_915e3 wsJx4a65c_get_915e3) := goodIn_app (goodIn_of _ (by decide +kernel)) ggX5_setBlock_Jx4a65c_get_915e3
theorem dX5_setBlock_0 : decode cX5_setBlock 0 = .ok (.aload_n 0, 1) := by decide +kernel
theorem dX5_setBlock_1 : decode cX5_setBlock 1 = .ok (.getfield 10, 3) := by decide +kernel
theorem dX5_setBlock_4 : decode cX5_setBlock 4 = .ok (.aload_n 0, 1) := by decide +kernel
theorem dX5_setBlock_5 : decode cX5_setBlock 5 = .ok (.iload_n 1, 1) := by decide +kernel
theorem dX5_setBlock_6 : decode cX5_setBlock 6 = .ok (.invokevirtual 100, 3) := by decide +kernel
theorem dX5_setBlock_9 : decode cX5_setBlock 9 = .ok (.invokevirtual 114, 3) := by decide +kernel
theorem dX5_setBlock_12 : decode cX5_setBlock 12 = .ok (.checkcast 91, 3) := by decide +kernel
theorem dX5_setBlock_15 : decode cX5_setBlock 15 = .ok (.astore_n 3, 1) := by decide +kernel
theorem dX5_setBlock_16 : decode cX5_setBlock 16 = .ok (.aload_n 3, 1) := by decide +kernel
theorem dX5_setBlock_17 : decode cX5_setBlock 17 = .ok (.getfield 125, 3) := by decide +kernel
theorem dX5_setBlock_20 : decode cX5_setBlock 20 = .ok (.istore 4, 2) := by decide +kernel
theorem dX5_setBlock_22 : decode cX5_setBlock 22 = .ok (.aload_n 3, 1) := by decide +kernel
theorem dX5_setBlock_23 : decode cX5_setBlock 23 = .ok (.iload_n 2, 1) := by decide +kernel
theorem dX5_setBlock_24 : decode cX5_setBlock 24 = .ok (.putfield 125, 3) := by decide +kernel
theorem dX5_setBlock_27 : decode cX5_setBlock 27 = .ok (.iload 4, 2) := by decide +kernel
theorem dX5_setBlock_29 : decode cX5_setBlock 29 = .ok (.ireturn, 1) := by decide +kernel
set_option maxRecDepth 20000 in
theorem ggX5_trackedLevel_X5_requireCue : GoodIn wsX5_trackedLevel wsX5_requireCue := goodIn_ca (goodIn_r _ [5, 6, 7, 8, 9, 10, 4, 11, 12, 13, 14, 15, 16, 17, 18, 19, 20, 21, 22, 23, 24, 25, 26, 27, 28, 29, 30, 31, 32, 33, 34, 35, 36, 37, 38, 39, 40, 41, 59, 60, 61, 62, 63, 64, 65, 66, 67, 68, 69, 70, 71, 72, 73, 74, 75, 76, 77] (by decide +kernel) (by decide +kernel)) (goodIn_sub (fun _ h => List.mem_cons_of_mem _ (List.mem_append_left _ (List.mem_append_left _ (List.mem_append_right _ h)))) (by decide +kernel))
set_option maxRecDepth 20000 in
theorem gX5_trackedLevel_X5_requireCue : GoodIn wsX5_trackedLevel (wsV RX5 100 RX5 yX5_requireCue wsX5_requireCue) := goodIn_app (goodIn_of _ (by decide +kernel)) ggX5_trackedLevel_X5_requireCue
set_option maxRecDepth 20000 in
theorem ggX5_trackedLevel_X5_requireChannel : GoodIn wsX5_trackedLevel wsX5_requireChannel := goodIn_ca (goodIn_r _ [44, 45, 46, 47, 48, 4, 49, 50, 51, 52] (by decide +kernel) (by decide +kernel)) (goodIn_sub (fun _ h => List.mem_cons_of_mem _ (List.mem_append_left _ (List.mem_append_right _ h))) (by decide +kernel))
set_option maxRecDepth 20000 in
theorem gX5_trackedLevel_X5_requireChannel : GoodIn wsX5_trackedLevel (va_wsS RX5 107 yX5_requireChannel wsX5_requireChannel) := goodIn_app (goodIn_of _ (by decide +kernel)) ggX5_trackedLevel_X5_requireChannel
set_option maxRecDepth 20000 in
theorem ggX5_trackedLevel_X5_trackedAt : GoodIn wsX5_trackedLevel wsX5_trackedAt := goodIn_ca (goodIn_r _ [56, 12, 13, 57, 58, 25, 26, 27, 22, 28, 24, 29, 30, 31, 32, 33, 34, 35, 36, 37, 38, 39, 40, 41, 59, 60, 61, 62, 63, 64, 65, 66, 67, 68, 69, 70, 71, 72, 73, 74, 75, 76, 77] (by decide +kernel) (by decide +kernel)) (goodIn_sub (fun _ h => List.mem_cons_of_mem _ (List.mem_append_right _ h)) (by decide +kernel))
set_option maxRecDepth 20000 in
theorem gX5_trackedLevel_X5_trackedAt : GoodIn wsX5_trackedLevel (wsV RX5 129 RX5 yX5_trackedAt wsX5_trackedAt) := goodIn_app (goodIn_of _ (by decide +kernel)) ggX5_trackedLevel_X5_trackedAt
theorem dX5_trackedLevel_0 : decode cX5_trackedLevel 0 = .ok (.aload_n 0, 1) := by decide +kernel
theorem dX5_trackedLevel_1 : decode cX5_trackedLevel 1 = .ok (.iload_n 1, 1) := by decide +kernel
theorem dX5_trackedLevel_2 : decode cX5_trackedLevel 2 = .ok (.invokevirtual 100, 3) := by decide +kernel
theorem dX5_trackedLevel_5 : decode cX5_trackedLevel 5 = .ok (.istore_n 3, 1) := by decide +kernel
theorem dX5_trackedLevel_6 : decode cX5_trackedLevel 6 = .ok (.iload_n 2, 1) := by decide +kernel
theorem dX5_trackedLevel_7 : decode cX5_trackedLevel 7 = .ok (.invokestatic 107, 3) := by decide +kernel
theorem dX5_trackedLevel_10 : decode cX5_trackedLevel 10 = .ok (.aload_n 0, 1) := by decide +kernel
theorem dX5_trackedLevel_11 : decode cX5_trackedLevel 11 = .ok (.iload_n 3, 1) := by decide +kernel
theorem dX5_trackedLevel_12 : decode cX5_trackedLevel 12 = .ok (.iload_n 2, 1) := by decide +kernel
theorem dX5_trackedLevel_13 : decode cX5_trackedLevel 13 = .ok (.invokevirtual 129, 3) := by decide +kernel
theorem dX5_trackedLevel_16 : decode cX5_trackedLevel 16 = .ok (.ireturn, 1) := by decide +kernel
set_option maxRecDepth 20000 in
theorem ggX5_cues_Jx4a65c_size_8abf5 : GoodIn wsX5_cues wsJx4a65c_size_8abf5 := goodIn_r _ [6, 7, 19, 20, 21] (by decide +kernel) (by decide +kernel)
set_option maxRecDepth 20000 in
theorem gX5_cues_Jx4a65c_size_8abf5 : GoodIn wsX5_cues (wsV RX5 78 RJx4a65c yJx4a65c_size_8abf5 wsJx4a65c_size_8abf5) := goodIn_app (goodIn_of _ (by decide +kernel)) ggX5_cues_Jx4a65c_size_8abf5
theorem dX5_cues_0 : decode cX5_cues 0 = .ok (.aload_n 0, 1) := by decide +kernel
theorem dX5_cues_1 : decode cX5_cues 1 = .ok (.getfield 10, 3) := by decide +kernel
theorem dX5_cues_4 : decode cX5_cues 4 = .ok (.invokevirtual 78, 3) := by decide +kernel
theorem dX5_cues_7 : decode cX5_cues 7 = .ok (.ireturn, 1) := by decide +kernel
set_option maxRecDepth 20000 in
theorem ggX5_go_X5_hasCueAbove : GoodIn wsX5_go wsX5_hasCueAbove := goodIn_r _ [8, 9, 10, 11, 12, 7, 13, 3, 14, 15, 16, 17, 18, 19, 20, 21, 22, 23, 24, 25, 26, 27, 28, 29, 30, 31, 32, 33, 34, 35, 36, 37, 38, 39, 40, 41, 42, 68, 69, 70, 71, 72, 73, 74, 75, 76, 77, 78, 79, 80, 81, 82, 83, 84, 85, 86] (by decide +kernel) (by decide +kernel)
set_option maxRecDepth 20000 in
theorem gX5_go_X5_hasCueAbove : GoodIn wsX5_go (wsV RX5 133 RX5 yX5_hasCueAbove wsX5_hasCueAbove) := goodIn_app (goodIn_of _ (by decide +kernel)) ggX5_go_X5_hasCueAbove
set_option maxRecDepth 20000 in
theorem ggX5_go_X5_placeAbove : GoodIn wsX5_go wsX5_placeAbove := goodIn_r _ [13, 3, 14, 15, 16, 7, 17, 9, 18, 19, 20, 21, 22, 23, 24, 25, 26, 27, 28, 29, 30, 31, 32, 33, 34, 35, 36, 37, 38, 39, 40, 41, 42, 68, 69, 70, 71, 72, 73, 74, 75, 76, 77, 78, 79, 80, 81, 82, 83, 84, 85, 86] (by decide +kernel) (by decide +kernel)
set_option maxRecDepth 20000 in
theorem gX5_go_X5_placeAbove : GoodIn wsX5_go (wsV RX5 139 RX5 yX5_placeAbove wsX5_placeAbove) := goodIn_app (goodIn_of _ (by decide +kernel)) ggX5_go_X5_placeAbove
set_option maxRecDepth 20000 in
theorem ggX5_go_X5_playPlace : GoodIn wsX5_go wsX5_playPlace := goodIn_ca (goodIn_r _ [46, 9, 18, 47, 48, 49, 19, 3, 26, 27, 28, 23, 29, 25, 30, 31, 32, 33, 34, 35, 36, 37, 38, 39, 40, 41, 42, 50, 51, 52, 7, 53, 54, 55, 56, 57, 58, 59, 60, 61, 62, 63, 64, 65, 66, 67, 68, 69, 70, 71, 72, 73, 74, 75, 76, 77, 78, 79, 80, 81, 82, 83, 84, 85, 86, 87, 88, 89, 90, 91, 92, 93, 94, 95] (by decide +kernel) (by decide +kernel)) (goodIn_sub (fun _ h => List.mem_cons_of_mem _ (List.mem_append_right _ h)) (by decide +kernel))
set_option maxRecDepth 20000 in
theorem gX5_go_X5_playPlace : GoodIn wsX5_go (wsV RX5 142 RX5 yX5_playPlace wsX5_playPlace) := goodIn_app (goodIn_of _ (by decide +kernel)) ggX5_go_X5_playPlace
theorem dX5_go_0 : decode cX5_go 0 = .ok (.aload_n 0, 1) := by decide +kernel
theorem dX5_go_1 : decode cX5_go 1 = .ok (.invokevirtual 133, 3) := by decide +kernel
theorem dX5_go_4 : decode cX5_go 4 = .ok (.ifCond .ne 13, 3) := by decide +kernel
theorem dX5_go_7 : decode cX5_go 7 = .ok (.new 120, 3) := by decide +kernel
theorem dX5_go_10 : decode cX5_go 10 = .ok (.dup, 1) := by decide +kernel
theorem dX5_go_11 : decode cX5_go 11 = .ok (.ldc 137, 2) := by decide +kernel
theorem dX5_go_13 : decode cX5_go 13 = .ok (.invokespecial 124, 3) := by decide +kernel
theorem dX5_go_16 : decode cX5_go 16 = .ok (.athrow, 1) := by decide +kernel
theorem dX5_go_17 : decode cX5_go 17 = .ok (.aload_n 0, 1) := by decide +kernel
theorem dX5_go_18 : decode cX5_go 18 = .ok (.aload_n 0, 1) := by decide +kernel
theorem dX5_go_19 : decode cX5_go 19 = .ok (.invokevirtual 139, 3) := by decide +kernel
theorem dX5_go_22 : decode cX5_go 22 = .ok (.invokevirtual 142, 3) := by decide +kernel
theorem dX5_go_25 : decode cX5_go 25 = .ok (.aload_n 0, 1) := by decide +kernel
theorem dX5_go_26 : decode cX5_go 26 = .ok (.getfield 16, 3) := by decide +kernel
theorem dX5_go_29 : decode cX5_go 29 = .ok (.ireturn, 1) := by decide +kernel
set_option maxRecDepth 20000 in
theorem ggX5_back_X5_hasCueBelow : GoodIn wsX5_back wsX5_hasCueBelow := goodIn_r _ [8, 9, 10, 11, 7, 12, 3, 13, 14, 15, 16, 17, 18, 19, 20, 21, 22, 23, 24, 25, 26, 27, 28, 29, 30, 31, 32, 33, 34, 35, 36, 37, 38, 39, 40, 41, 42, 68, 69, 70, 71, 72, 73, 74, 75, 76, 77, 78, 79, 80, 81, 82, 83, 84, 85, 86] (by decide +kernel) (by decide +kernel)
set_option maxRecDepth 20000 in
theorem gX5_back_X5_hasCueBelow : GoodIn wsX5_back (wsV RX5 145 RX5 yX5_hasCueBelow wsX5_hasCueBelow) := goodIn_app (goodIn_of _ (by decide +kernel)) ggX5_back_X5_hasCueBelow
set_option maxRecDepth 20000 in
theorem ggX5_back_X5_placeBelow : GoodIn wsX5_back wsX5_placeBelow := goodIn_r _ [12, 3, 13, 14, 15, 7, 16, 17, 18, 19, 20, 21, 22, 23, 24, 25, 26, 27, 28, 29, 30, 31, 32, 33, 34, 35, 36, 37, 38, 39, 40, 41, 42, 68, 69, 70, 71, 72, 73, 74, 75, 76, 77, 78, 79, 80, 81, 82, 83, 84, 85, 86] (by decide +kernel) (by decide +kernel)
set_option maxRecDepth 20000 in
theorem gX5_back_X5_placeBelow : GoodIn wsX5_back (wsV RX5 150 RX5 yX5_placeBelow wsX5_placeBelow) := goodIn_app (goodIn_of _ (by decide +kernel)) ggX5_back_X5_placeBelow
set_option maxRecDepth 20000 in
theorem ggX5_back_X5_playPlace : GoodIn wsX5_back wsX5_playPlace := goodIn_ca (goodIn_r _ [46, 17, 18, 47, 48, 49, 19, 3, 26, 27, 28, 23, 29, 25, 30, 31, 32, 33, 34, 35, 36, 37, 38, 39, 40, 41, 42, 50, 51, 52, 7, 53, 54, 55, 56, 57, 58, 59, 60, 61, 62, 63, 64, 65, 66, 67, 68, 69, 70, 71, 72, 73, 74, 75, 76, 77, 78, 79, 80, 81, 82, 83, 84, 85, 86, 87, 88, 89, 90, 91, 92, 93, 94, 95] (by decide +kernel) (by decide +kernel)) (goodIn_sub (fun _ h => List.mem_cons_of_mem _ (List.mem_append_right _ h)) (by decide +kernel))
set_option maxRecDepth 20000 in
theorem gX5_back_X5_playPlace : GoodIn wsX5_back (wsV RX5 142 RX5 yX5_playPlace wsX5_playPlace) := goodIn_app (goodIn_of _ (by decide +kernel)) ggX5_back_X5_playPlace
theorem dX5_back_0 : decode cX5_back 0 = .ok (.aload_n 0, 1) := by decide +kernel
theorem dX5_back_1 : decode cX5_back 1 = .ok (.invokevirtual 145, 3) := by decide +kernel
theorem dX5_back_4 : decode cX5_back 4 = .ok (.ifCond .ne 13, 3) := by decide +kernel
theorem dX5_back_7 : decode cX5_back 7 = .ok (.new 120, 3) := by decide +kernel
theorem dX5_back_10 : decode cX5_back 10 = .ok (.dup, 1) := by decide +kernel
theorem dX5_back_11 : decode cX5_back 11 = .ok (.ldc 148, 2) := by decide +kernel
theorem dX5_back_13 : decode cX5_back 13 = .ok (.invokespecial 124, 3) := by decide +kernel
theorem dX5_back_16 : decode cX5_back 16 = .ok (.athrow, 1) := by decide +kernel
theorem dX5_back_17 : decode cX5_back 17 = .ok (.aload_n 0, 1) := by decide +kernel
theorem dX5_back_18 : decode cX5_back 18 = .ok (.aload_n 0, 1) := by decide +kernel
theorem dX5_back_19 : decode cX5_back 19 = .ok (.invokevirtual 150, 3) := by decide +kernel
theorem dX5_back_22 : decode cX5_back 22 = .ok (.invokevirtual 142, 3) := by decide +kernel
theorem dX5_back_25 : decode cX5_back 25 = .ok (.aload_n 0, 1) := by decide +kernel
theorem dX5_back_26 : decode cX5_back 26 = .ok (.getfield 16, 3) := by decide +kernel
theorem dX5_back_29 : decode cX5_back 29 = .ok (.ireturn, 1) := by decide +kernel
set_option maxRecDepth 20000 in
theorem ggX5_goTo_X5_requireCue : GoodIn wsX5_goTo wsX5_requireCue := goodIn_ca (goodIn_r _ [5, 6, 7, 8, 9, 10, 4, 11, 12, 13, 14, 15, 16, 17, 18, 19, 20, 21, 22, 23, 24, 25, 26, 27, 28, 29, 30, 31, 32, 33, 34, 35, 36, 37, 38, 39, 40, 41, 76, 77, 78, 79, 80, 81, 82, 83, 84, 85, 86, 87, 88, 89, 90, 91, 92, 93, 94] (by decide +kernel) (by decide +kernel)) (goodIn_sub (fun _ h => List.mem_cons_of_mem _ (List.mem_append_left _ (List.mem_append_right _ h))) (by decide +kernel))
set_option maxRecDepth 20000 in
theorem gX5_goTo_X5_requireCue : GoodIn wsX5_goTo (wsV RX5 100 RX5 yX5_requireCue wsX5_requireCue) := goodIn_app (goodIn_of _ (by decide +kernel)) ggX5_goTo_X5_requireCue
set_option maxRecDepth 20000 in
theorem ggX5_goTo_X5_playPlace : GoodIn wsX5_goTo wsX5_playPlace := goodIn_ca (goodIn_r _ [45, 12, 13, 46, 47, 48, 14, 49, 25, 26, 27, 22, 28, 24, 29, 30, 31, 32, 33, 34, 35, 36, 37, 38, 39, 40, 41, 50, 51, 52, 4, 53, 54, 55, 56, 57, 58, 59, 60, 61, 62, 63, 64, 65, 66, 67, 76, 77, 78, 79, 80, 81, 82, 83, 84, 85, 86, 87, 88, 89, 90, 91, 92, 93, 94, 95, 96, 97, 98, 99, 100, 101, 102, 103] (by decide +kernel) (by decide +kernel)) (goodIn_sub (fun _ h => List.mem_cons_of_mem _ (List.mem_append_right _ h)) (by decide +kernel))
set_option maxRecDepth 20000 in
theorem gX5_goTo_X5_playPlace : GoodIn wsX5_goTo (wsV RX5 142 RX5 yX5_playPlace wsX5_playPlace) := goodIn_app (goodIn_of _ (by decide +kernel)) ggX5_goTo_X5_playPlace
set_option maxRecDepth 20000 in
theorem ggX5_goTo_X5_fadingChannels : GoodIn wsX5_goTo wsX5_fadingChannels := goodIn_r _ [71, 46, 72, 73, 74, 59, 75, 61, 62, 76, 77, 78, 79, 80, 81, 82, 83, 84, 85, 86, 95, 96, 97, 98, 99, 100, 101, 102, 103] (by decide +kernel) (by decide +kernel)
set_option maxRecDepth 20000 in
theorem gX5_goTo_X5_fadingChannels : GoodIn wsX5_goTo (wsV RX5 153 RX5 yX5_fadingChannels wsX5_fadingChannels) := goodIn_app (goodIn_of _ (by decide +kernel)) ggX5_goTo_X5_fadingChannels
theorem dX5_goTo_0 : decode cX5_goTo 0 = .ok (.aload_n 0, 1) := by decide +kernel
theorem dX5_goTo_1 : decode cX5_goTo 1 = .ok (.aload_n 0, 1) := by decide +kernel
theorem dX5_goTo_2 : decode cX5_goTo 2 = .ok (.iload_n 1, 1) := by decide +kernel
theorem dX5_goTo_3 : decode cX5_goTo 3 = .ok (.invokevirtual 100, 3) := by decide +kernel
theorem dX5_goTo_6 : decode cX5_goTo 6 = .ok (.invokevirtual 142, 3) := by decide +kernel
theorem dX5_goTo_9 : decode cX5_goTo 9 = .ok (.aload_n 0, 1) := by decide +kernel
theorem dX5_goTo_10 : decode cX5_goTo 10 = .ok (.invokevirtual 153, 3) := by decide +kernel
theorem dX5_goTo_13 : decode cX5_goTo 13 = .ok (.ireturn, 1) := by decide +kernel
set_option maxRecDepth 20000 in
theorem ggX5_pass_X5_isPassing : GoodIn wsX5_pass wsX5_isPassing := goodIn_r _ [7, 8, 9, 6, 10] (by decide +kernel) (by decide +kernel)
set_option maxRecDepth 20000 in
theorem gX5_pass_X5_isPassing : GoodIn wsX5_pass (va_wsS RX5 156 yX5_isPassing wsX5_isPassing) := goodIn_app (goodIn_of _ (by decide +kernel)) ggX5_pass_X5_isPassing
set_option maxRecDepth 20000 in
theorem ggX5_pass_X5_passTicks : GoodIn wsX5_pass wsX5_passTicks := goodIn_ca (goodIn_ca (goodIn_r _ [14, 3, 15, 16, 17, 18, 19, 20, 21, 22, 23, 24, 25, 26, 27, 28, 29, 30, 31, 32, 33, 34, 35, 6, 36, 37, 38, 39, 40, 41, 42, 43, 44, 45, 46, 47, 48, 49, 50, 51, 52, 53, 54, 55, 56, 57, 58, 59, 60, 61, 62, 63, 64, 65, 66, 67, 68, 69, 70, 71, 72, 73, 74, 75, 76, 77, 78, 79, 80, 81, 82, 83, 84, 85, 86, 87, 88, 89, 90, 91, 92, 93, 94, 95, 96, 97, 98, 99, 100, 101, 102, 103, 104, 105, 106, 107, 108, 109, 110, 111, 112, 113, 114, 115, 116, 117, 118, 119, 120, 121, 122, 123, 124, 125, 126, 127, 128, 129, 130, 131, 132, 133, 134, 135, 136, 137, 138, 139, 140, 141] (by decide +kernel) (by decide +kernel)) (goodIn_sub (fun _ h => List.mem_cons_of_mem _ (List.mem_append_left _ (List.mem_append_right _ h))) (by decide +kernel))) (goodIn_sub (fun _ h => List.mem_cons_of_mem _ (List.mem_append_right _ h)) (by decide +kernel))
set_option maxRecDepth 20000 in
theorem gX5_pass_X5_passTicks : GoodIn wsX5_pass (wsV RX5 161 RX5 yX5_passTicks wsX5_passTicks) := goodIn_app (goodIn_of _ (by decide +kernel)) ggX5_pass_X5_passTicks
theorem dX5_pass_0 : decode cX5_pass 0 = .ok (.iload_n 1, 1) := by decide +kernel
theorem dX5_pass_1 : decode cX5_pass 1 = .ok (.invokestatic 156, 3) := by decide +kernel
theorem dX5_pass_4 : decode cX5_pass 4 = .ok (.ifCond .ne 13, 3) := by decide +kernel
theorem dX5_pass_7 : decode cX5_pass 7 = .ok (.new 62, 3) := by decide +kernel
theorem dX5_pass_10 : decode cX5_pass 10 = .ok (.dup, 1) := by decide +kernel
theorem dX5_pass_11 : decode cX5_pass 11 = .ok (.ldc 159, 2) := by decide +kernel
theorem dX5_pass_13 : decode cX5_pass 13 = .ok (.invokespecial 66, 3) := by decide +kernel
theorem dX5_pass_16 : decode cX5_pass 16 = .ok (.athrow, 1) := by decide +kernel
theorem dX5_pass_17 : decode cX5_pass 17 = .ok (.aload_n 0, 1) := by decide +kernel
theorem dX5_pass_18 : decode cX5_pass 18 = .ok (.iload_n 1, 1) := by decide +kernel
theorem dX5_pass_19 : decode cX5_pass 19 = .ok (.invokevirtual 161, 3) := by decide +kernel
theorem dX5_pass_22 : decode cX5_pass 22 = .ok (.aload_n 0, 1) := by decide +kernel
theorem dX5_pass_23 : decode cX5_pass 23 = .ok (.getfield 20, 3) := by decide +kernel
theorem dX5_pass_26 : decode cX5_pass 26 = .ok (.ireturn, 1) := by decide +kernel
theorem dX5_currentCue_0 : decode cX5_currentCue 0 = .ok (.aload_n 0, 1) := by decide +kernel
theorem dX5_currentCue_1 : decode cX5_currentCue 1 = .ok (.getfield 16, 3) := by decide +kernel
theorem dX5_currentCue_4 : decode cX5_currentCue 4 = .ok (.ireturn, 1) := by decide +kernel
set_option maxRecDepth 20000 in
theorem ggX5_cueLevel_X5_requireChannel : GoodIn wsX5_cueLevel wsX5_requireChannel := goodIn_ca (goodIn_r _ [6, 7, 8, 9, 10, 5, 11, 12, 13, 14] (by decide +kernel) (by decide +kernel)) (goodIn_sub (fun _ h => List.mem_cons_of_mem _ (List.mem_append_right _ h)) (by decide +kernel))
set_option maxRecDepth 20000 in
theorem gX5_cueLevel_X5_requireChannel : GoodIn wsX5_cueLevel (va_wsS RX5 107 yX5_requireChannel wsX5_requireChannel) := goodIn_app (goodIn_of _ (by decide +kernel)) ggX5_cueLevel_X5_requireChannel
theorem dX5_cueLevel_0 : decode cX5_cueLevel 0 = .ok (.iload_n 1, 1) := by decide +kernel
theorem dX5_cueLevel_1 : decode cX5_cueLevel 1 = .ok (.invokestatic 107, 3) := by decide +kernel
theorem dX5_cueLevel_4 : decode cX5_cueLevel 4 = .ok (.aload_n 0, 1) := by decide +kernel
theorem dX5_cueLevel_5 : decode cX5_cueLevel 5 = .ok (.getfield 25, 3) := by decide +kernel
theorem dX5_cueLevel_8 : decode cX5_cueLevel 8 = .ok (.iload_n 1, 1) := by decide +kernel
theorem dX5_cueLevel_9 : decode cX5_cueLevel 9 = .ok (.aaload, 1) := by decide +kernel
theorem dX5_cueLevel_10 : decode cX5_cueLevel 10 = .ok (.getfield 164, 3) := by decide +kernel
theorem dX5_cueLevel_13 : decode cX5_cueLevel 13 = .ok (.ireturn, 1) := by decide +kernel
set_option maxRecDepth 20000 in
theorem ggX5_ticksLeft_X0_fadeTicksLeft : GoodIn wsX5_ticksLeft wsX0_fadeTicksLeft := goodIn_r _ [10, 11, 12, 24, 25, 26, 27, 28, 29, 30, 31, 32] (by decide +kernel) (by decide +kernel)
set_option maxRecDepth 20000 in
theorem gX5_ticksLeft_X0_fadeTicksLeft : GoodIn wsX5_ticksLeft (wsV RX5 167 RX0 yX0_fadeTicksLeft wsX0_fadeTicksLeft) := goodIn_app (goodIn_of _ (by decide +kernel)) ggX5_ticksLeft_X0_fadeTicksLeft
theorem dX5_ticksLeft_0 : decode cX5_ticksLeft 0 = .ok (.iconst 0, 1) := by decide +kernel
theorem dX5_ticksLeft_1 : decode cX5_ticksLeft 1 = .ok (.istore_n 1, 1) := by decide +kernel
theorem dX5_ticksLeft_2 : decode cX5_ticksLeft 2 = .ok (.iconst 0, 1) := by decide +kernel
theorem dX5_ticksLeft_3 : decode cX5_ticksLeft 3 = .ok (.istore_n 2, 1) := by decide +kernel
theorem dX5_ticksLeft_4 : decode cX5_ticksLeft 4 = .ok (.iload_n 2, 1) := by decide +kernel
theorem dX5_ticksLeft_5 : decode cX5_ticksLeft 5 = .ok (.bipush 12, 2) := by decide +kernel
theorem dX5_ticksLeft_7 : decode cX5_ticksLeft 7 = .ok (.if_icmp .ge 23, 3) := by decide +kernel
theorem dX5_ticksLeft_10 : decode cX5_ticksLeft 10 = .ok (.iload_n 1, 1) := by decide +kernel
theorem dX5_ticksLeft_11 : decode cX5_ticksLeft 11 = .ok (.aload_n 0, 1) := by decide +kernel
theorem dX5_ticksLeft_12 : decode cX5_ticksLeft 12 = .ok (.getfield 25, 3) := by decide +kernel
theorem dX5_ticksLeft_15 : decode cX5_ticksLeft 15 = .ok (.iload_n 2, 1) := by decide +kernel
theorem dX5_ticksLeft_16 : decode cX5_ticksLeft 16 = .ok (.aaload, 1) := by decide +kernel
theorem dX5_ticksLeft_17 : decode cX5_ticksLeft 17 = .ok (.invokevirtual 167, 3) := by decide +kernel
theorem dX5_ticksLeft_20 : decode cX5_ticksLeft 20 = .ok (.invokestatic 170, 3) := by decide +kernel
theorem dX5_ticksLeft_23 : decode cX5_ticksLeft 23 = .ok (.istore_n 1, 1) := by decide +kernel
theorem dX5_ticksLeft_24 : decode cX5_ticksLeft 24 = .ok (.iinc 2 1, 3) := by decide +kernel
theorem dX5_ticksLeft_27 : decode cX5_ticksLeft 27 = .ok (.goto (-23), 3) := by decide +kernel
theorem dX5_ticksLeft_30 : decode cX5_ticksLeft 30 = .ok (.iload_n 1, 1) := by decide +kernel
theorem dX5_ticksLeft_31 : decode cX5_ticksLeft 31 = .ok (.ireturn, 1) := by decide +kernel
set_option maxRecDepth 20000 in
theorem ggX5_addGroup_Jx4a65c_size_8abf5 : GoodIn wsX5_addGroup wsJx4a65c_size_8abf5 := goodIn_r _ [11, 12, 88, 89, 90] (by decide +kernel) (by decide +kernel)
set_option maxRecDepth 20000 in
theorem gX5_addGroup_Jx4a65c_size_8abf5 : GoodIn wsX5_addGroup (wsV RX5 78 RJx4a65c yJx4a65c_size_8abf5 wsJx4a65c_size_8abf5) := goodIn_app (goodIn_of _ (by decide +kernel)) ggX5_addGroup_Jx4a65c_size_8abf5
set_option maxRecDepth 20000 in
theorem ggX5_addGroup_X3_init : GoodIn wsX5_addGroup wsX3_init := goodIn_r _ [14, 15, 16, 17, 18, 19, 20, 86, 87] (by decide +kernel) (by decide +kernel)
set_option maxRecDepth 20000 in
theorem gX5_addGroup_X3_init_n179 : GoodIn wsX5_addGroup (wsX3_init) := ggX5_addGroup_X3_init
set_option maxRecDepth 20000 in
theorem ggX5_addGroup_Jx4a65c_add_9ea2d : GoodIn wsX5_addGroup wsJx4a65c_add_9ea2d := goodIn_r _ [24, 25, 26, 27, 12, 28, 29, 30, 10, 31, 32, 33, 34, 35, 36, 37, 38, 39, 40, 41, 42, 43, 44, 45, 46, 47, 48, 49, 50, 51, 52, 53, 54, 55, 56, 57, 58, 59, 60, 61, 62, 63, 64, 65, 66, 67, 68, 69, 70, 71, 72, 73, 74, 88, 89, 90] (by decide +kernel) (by decide +kernel)
set_option maxRecDepth 20000 in
theorem gX5_addGroup_Jx4a65c_add_9ea2d : GoodIn wsX5_addGroup (wsV RX5 180 RJx4a65c yJx4a65c_add_9ea2d wsJx4a65c_add_9ea2d) := goodIn_app (goodIn_of _ (by decide +kernel)) ggX5_addGroup_Jx4a65c_add_9ea2d
theorem dX5_addGroup_0 : decode cX5_addGroup 0 = .ok (.aload_n 0, 1) := by decide +kernel
theorem dX5_addGroup_1 : decode cX5_addGroup 1 = .ok (.getfield 29, 3) := by decide +kernel
theorem dX5_addGroup_4 : decode cX5_addGroup 4 = .ok (.invokevirtual 78, 3) := by decide +kernel
theorem dX5_addGroup_7 : decode cX5_addGroup 7 = .ok (.iconst 5, 1) := by decide +kernel
theorem dX5_addGroup_8 : decode cX5_addGroup 8 = .ok (.if_icmp .lt 13, 3) := by decide +kernel
theorem dX5_addGroup_11 : decode cX5_addGroup 11 = .ok (.new 82, 3) := by decide +kernel
theorem dX5_addGroup_14 : decode cX5_addGroup 14 = .ok (.dup, 1) := by decide +kernel
theorem dX5_addGroup_15 : decode cX5_addGroup 15 = .ok (.ldc 175, 2) := by decide +kernel
theorem dX5_addGroup_17 : decode cX5_addGroup 17 = .ok (.invokespecial 86, 3) := by decide +kernel
theorem dX5_addGroup_20 : decode cX5_addGroup 20 = .ok (.athrow, 1) := by decide +kernel
theorem dX5_addGroup_21 : decode cX5_addGroup 21 = .ok (.aload_n 0, 1) := by decide +kernel
theorem dX5_addGroup_22 : decode cX5_addGroup 22 = .ok (.getfield 29, 3) := by decide +kernel
theorem dX5_addGroup_25 : decode cX5_addGroup 25 = .ok (.new 177, 3) := by decide +kernel
theorem dX5_addGroup_28 : decode cX5_addGroup 28 = .ok (.dup, 1) := by decide +kernel
theorem dX5_addGroup_29 : decode cX5_addGroup 29 = .ok (.invokespecial 179, 3) := by decide +kernel
theorem dX5_addGroup_32 : decode cX5_addGroup 32 = .ok (.invokevirtual 180, 3) := by decide +kernel
theorem dX5_addGroup_35 : decode cX5_addGroup 35 = .ok (.pop, 1) := by decide +kernel
theorem dX5_addGroup_36 : decode cX5_addGroup 36 = .ok (.aload_n 0, 1) := by decide +kernel
theorem dX5_addGroup_37 : decode cX5_addGroup 37 = .ok (.getfield 29, 3) := by decide +kernel
theorem dX5_addGroup_40 : decode cX5_addGroup 40 = .ok (.invokevirtual 78, 3) := by decide +kernel
theorem dX5_addGroup_43 : decode cX5_addGroup 43 = .ok (.iconst 1, 1) := by decide +kernel
theorem dX5_addGroup_44 : decode cX5_addGroup 44 = .ok (.isub, 1) := by decide +kernel
theorem dX5_addGroup_45 : decode cX5_addGroup 45 = .ok (.ireturn, 1) := by decide +kernel
set_option maxRecDepth 20000 in
theorem ggX5_setMember_X5_requireGroup : GoodIn wsX5_setMember wsX5_requireGroup := goodIn_ca (goodIn_r _ [8, 9, 10, 11, 12, 13, 7, 14, 1, 15, 16, 17, 18, 19, 20, 21, 22, 23, 47, 48, 49, 50, 51, 52, 53, 54, 55, 56, 57, 60, 61, 62] (by decide +kernel) (by decide +kernel)) (goodIn_sub (fun _ h => List.mem_cons_of_mem _ (List.mem_append_right _ h)) (by decide +kernel))
set_option maxRecDepth 20000 in
theorem gX5_setMember_X5_requireGroup : GoodIn wsX5_setMember (wsV RX5 183 RX5 yX5_requireGroup wsX5_requireGroup) := goodIn_app (goodIn_of _ (by decide +kernel)) ggX5_setMember_X5_requireGroup
set_option maxRecDepth 20000 in
theorem ggX5_setMember_X5_requireChannel : GoodIn wsX5_setMember wsX5_requireChannel := goodIn_ca (goodIn_r _ [26, 9, 10, 27, 28, 7, 29, 21, 22, 23] (by decide +kernel) (by decide +kernel)) (goodIn_sub (fun _ h => List.mem_cons_of_mem _ (List.mem_append_right _ h)) (by decide +kernel))
set_option maxRecDepth 20000 in
theorem gX5_setMember_X5_requireChannel : GoodIn wsX5_setMember (va_wsS RX5 107 yX5_requireChannel wsX5_requireChannel) := goodIn_app (goodIn_of _ (by decide +kernel)) ggX5_setMember_X5_requireChannel
set_option maxRecDepth 20000 in
theorem ggX5_setMember_Jx4a65c_get_915e3 : GoodIn wsX5_setMember wsJx4a65c_get_915e3 := goodIn_r _ [33, 20, 34, 35, 36, 37, 38, 39, 40, 41, 42, 43, 44, 18, 45, 46, 60, 61, 62] (by decide +kernel) (by decide +kernel)
set_option maxRecDepth 20000 in
theorem gX5_setMember_Jx4a65c_get_915e3 : GoodIn wsX5_setMember (wsV RX5 114 RJx4a65c yJx4a65c_get_915e3 wsJx4a65c_get_915e3) := goodIn_app (goodIn_of _ (by decide +kernel)) ggX5_setMember_Jx4a65c_get_915e3
theorem dX5_setMember_0 : decode cX5_setMember 0 = .ok (.aload_n 0, 1) := by decide +kernel
theorem dX5_setMember_1 : decode cX5_setMember 1 = .ok (.iload_n 1, 1) := by decide +kernel
theorem dX5_setMember_2 : decode cX5_setMember 2 = .ok (.invokevirtual 183, 3) := by decide +kernel
theorem dX5_setMember_5 : decode cX5_setMember 5 = .ok (.iload_n 2, 1) := by decide +kernel
theorem dX5_setMember_6 : decode cX5_setMember 6 = .ok (.invokestatic 107, 3) := by decide +kernel
theorem dX5_setMember_9 : decode cX5_setMember 9 = .ok (.aload_n 0, 1) := by decide +kernel
theorem dX5_setMember_10 : decode cX5_setMember 10 = .ok (.getfield 29, 3) := by decide +kernel
theorem dX5_setMember_13 : decode cX5_setMember 13 = .ok (.iload_n 1, 1) := by decide +kernel
theorem dX5_setMember_14 : decode cX5_setMember 14 = .ok (.invokevirtual 114, 3) := by decide +kernel
theorem dX5_setMember_17 : decode cX5_setMember 17 = .ok (.checkcast 177, 3) := by decide +kernel
theorem dX5_setMember_20 : decode cX5_setMember 20 = .ok (.getfield 186, 3) := by decide +kernel
theorem dX5_setMember_23 : decode cX5_setMember 23 = .ok (.astore 4, 2) := by decide +kernel
theorem dX5_setMember_25 : decode cX5_setMember 25 = .ok (.aload 4, 2) := by decide +kernel
theorem dX5_setMember_27 : decode cX5_setMember 27 = .ok (.iload_n 2, 1) := by decide +kernel
theorem dX5_setMember_28 : decode cX5_setMember 28 = .ok (.baload, 1) := by decide +kernel
theorem dX5_setMember_29 : decode cX5_setMember 29 = .ok (.istore 5, 2) := by decide +kernel
theorem dX5_setMember_31 : decode cX5_setMember 31 = .ok (.aload 4, 2) := by decide +kernel
theorem dX5_setMember_33 : decode cX5_setMember 33 = .ok (.iload_n 2, 1) := by decide +kernel
theorem dX5_setMember_34 : decode cX5_setMember 34 = .ok (.iload_n 3, 1) := by decide +kernel
theorem dX5_setMember_35 : decode cX5_setMember 35 = .ok (.bastore, 1) := by decide +kernel
theorem dX5_setMember_36 : decode cX5_setMember 36 = .ok (.iload 5, 2) := by decide +kernel
theorem dX5_setMember_38 : decode cX5_setMember 38 = .ok (.ireturn, 1) := by decide +kernel
set_option maxRecDepth 20000 in
theorem ggX5_setFader_X5_requireGroup : GoodIn wsX5_setFader wsX5_requireGroup := goodIn_ca (goodIn_r _ [5, 6, 7, 8, 9, 10, 4, 11, 12, 13, 14, 15, 16, 17, 18, 19, 20, 21, 56, 57, 58, 59, 60, 61, 62, 63, 64, 65, 66, 67, 68, 69] (by decide +kernel) (by decide +kernel)) (goodIn_sub (fun _ h => List.mem_cons_of_mem _ (List.mem_append_left _ (List.mem_append_left _ (List.mem_append_right _ h)))) (by decide +kernel))
set_option maxRecDepth 20000 in
theorem gX5_setFader_X5_requireGroup : GoodIn wsX5_setFader (wsV RX5 183 RX5 yX5_requireGroup wsX5_requireGroup) := goodIn_app (goodIn_of _ (by decide +kernel)) ggX5_setFader_X5_requireGroup
set_option maxRecDepth 20000 in
theorem ggX5_setFader_X5_requireLevel : GoodIn wsX5_setFader wsX5_requireLevel := goodIn_ca (goodIn_r _ [24, 25, 26, 27, 28, 4, 29, 19, 20, 21] (by decide +kernel) (by decide +kernel)) (goodIn_sub (fun _ h => List.mem_cons_of_mem _ (List.mem_append_left _ (List.mem_append_right _ h))) (by decide +kernel))
set_option maxRecDepth 20000 in
theorem gX5_setFader_X5_requireLevel : GoodIn wsX5_setFader (va_wsS RX5 111 yX5_requireLevel wsX5_requireLevel) := goodIn_app (goodIn_of _ (by decide +kernel)) ggX5_setFader_X5_requireLevel
set_option maxRecDepth 20000 in
theorem ggX5_setFader_X5_moveFader : GoodIn wsX5_setFader wsX5_moveFader := goodIn_ca (goodIn_r _ [33, 12, 34, 35, 36, 37, 38, 39, 40, 41, 16, 42, 18, 43, 44, 45, 46, 47, 48, 49, 50, 51, 52, 53, 54, 55, 56, 57, 58, 59, 60, 61, 62, 63, 64, 65, 66, 70, 71, 72, 73, 74, 75, 76, 77, 78, 79, 80, 67, 68, 69] (by decide +kernel) (by decide +kernel)) (goodIn_sub (fun _ h => List.mem_cons_of_mem _ (List.mem_append_right _ h)) (by decide +kernel))
set_option maxRecDepth 20000 in
theorem gX5_setFader_X5_moveFader : GoodIn wsX5_setFader (wsV RX5 190 RX5 yX5_moveFader wsX5_moveFader) := goodIn_app (goodIn_of _ (by decide +kernel)) ggX5_setFader_X5_moveFader
theorem dX5_setFader_0 : decode cX5_setFader 0 = .ok (.aload_n 0, 1) := by decide +kernel
theorem dX5_setFader_1 : decode cX5_setFader 1 = .ok (.iload_n 1, 1) := by decide +kernel
theorem dX5_setFader_2 : decode cX5_setFader 2 = .ok (.invokevirtual 183, 3) := by decide +kernel
theorem dX5_setFader_5 : decode cX5_setFader 5 = .ok (.iload_n 2, 1) := by decide +kernel
theorem dX5_setFader_6 : decode cX5_setFader 6 = .ok (.invokestatic 111, 3) := by decide +kernel
theorem dX5_setFader_9 : decode cX5_setFader 9 = .ok (.aload_n 0, 1) := by decide +kernel
theorem dX5_setFader_10 : decode cX5_setFader 10 = .ok (.iload_n 1, 1) := by decide +kernel
theorem dX5_setFader_11 : decode cX5_setFader 11 = .ok (.iload_n 2, 1) := by decide +kernel
theorem dX5_setFader_12 : decode cX5_setFader 12 = .ok (.invokevirtual 190, 3) := by decide +kernel
theorem dX5_setFader_15 : decode cX5_setFader 15 = .ok (.ireturn, 1) := by decide +kernel
set_option maxRecDepth 20000 in
theorem ggX5_setLatest_X5_requireChannel : GoodIn wsX5_setLatest wsX5_requireChannel := goodIn_ca (goodIn_r _ [6, 7, 8, 9, 10, 5, 11, 12, 13, 14] (by decide +kernel) (by decide +kernel)) (goodIn_sub (fun _ h => List.mem_cons_of_mem _ (List.mem_append_right _ h)) (by decide +kernel))
set_option maxRecDepth 20000 in
theorem gX5_setLatest_X5_requireChannel : GoodIn wsX5_setLatest (va_wsS RX5 107 yX5_requireChannel wsX5_requireChannel) := goodIn_app (goodIn_of _ (by decide +kernel)) ggX5_setLatest_X5_requireChannel
theorem dX5_setLatest_0 : decode cX5_setLatest 0 = .ok (.iload_n 1, 1) := by decide +kernel
theorem dX5_setLatest_1 : decode cX5_setLatest 1 = .ok (.invokestatic 107, 3) := by decide +kernel
theorem dX5_setLatest_4 : decode cX5_setLatest 4 = .ok (.aload_n 0, 1) := by decide +kernel
theorem dX5_setLatest_5 : decode cX5_setLatest 5 = .ok (.getfield 25, 3) := by decide +kernel
theorem dX5_setLatest_8 : decode cX5_setLatest 8 = .ok (.iload_n 1, 1) := by decide +kernel
theorem dX5_setLatest_9 : decode cX5_setLatest 9 = .ok (.aaload, 1) := by decide +kernel
theorem dX5_setLatest_10 : decode cX5_setLatest 10 = .ok (.getfield 193, 3) := by decide +kernel
theorem dX5_setLatest_13 : decode cX5_setLatest 13 = .ok (.istore_n 3, 1) := by decide +kernel
theorem dX5_setLatest_14 : decode cX5_setLatest 14 = .ok (.aload_n 0, 1) := by decide +kernel
theorem dX5_setLatest_15 : decode cX5_setLatest 15 = .ok (.getfield 25, 3) := by decide +kernel
theorem dX5_setLatest_18 : decode cX5_setLatest 18 = .ok (.iload_n 1, 1) := by decide +kernel
theorem dX5_setLatest_19 : decode cX5_setLatest 19 = .ok (.aaload, 1) := by decide +kernel
theorem dX5_setLatest_20 : decode cX5_setLatest 20 = .ok (.iload_n 2, 1) := by decide +kernel
theorem dX5_setLatest_21 : decode cX5_setLatest 21 = .ok (.putfield 193, 3) := by decide +kernel
theorem dX5_setLatest_24 : decode cX5_setLatest 24 = .ok (.iload_n 3, 1) := by decide +kernel
theorem dX5_setLatest_25 : decode cX5_setLatest 25 = .ok (.ireturn, 1) := by decide +kernel
set_option maxRecDepth 20000 in
theorem ggX5_latestSource_X5_requireChannel : GoodIn wsX5_latestSource wsX5_requireChannel := goodIn_ca (goodIn_r _ [8, 9, 10, 11, 12, 7, 13, 14, 15, 16] (by decide +kernel) (by decide +kernel)) (goodIn_sub (fun _ h => List.mem_cons_of_mem _ (List.mem_append_right _ h)) (by decide +kernel))
set_option maxRecDepth 20000 in
theorem gX5_latestSource_X5_requireChannel : GoodIn wsX5_latestSource (va_wsS RX5 107 yX5_requireChannel wsX5_requireChannel) := goodIn_app (goodIn_of _ (by decide +kernel)) ggX5_latestSource_X5_requireChannel
theorem dX5_latestSource_0 : decode cX5_latestSource 0 = .ok (.iload_n 1, 1) := by decide +kernel
theorem dX5_latestSource_1 : decode cX5_latestSource 1 = .ok (.invokestatic 107, 3) := by decide +kernel
theorem dX5_latestSource_4 : decode cX5_latestSource 4 = .ok (.aload_n 0, 1) := by decide +kernel
theorem dX5_latestSource_5 : decode cX5_latestSource 5 = .ok (.getfield 25, 3) := by decide +kernel
theorem dX5_latestSource_8 : decode cX5_latestSource 8 = .ok (.iload_n 1, 1) := by decide +kernel
theorem dX5_latestSource_9 : decode cX5_latestSource 9 = .ok (.aaload, 1) := by decide +kernel
theorem dX5_latestSource_10 : decode cX5_latestSource 10 = .ok (.getfield 196, 3) := by decide +kernel
theorem dX5_latestSource_13 : decode cX5_latestSource 13 = .ok (.istore_n 2, 1) := by decide +kernel
theorem dX5_latestSource_14 : decode cX5_latestSource 14 = .ok (.iload_n 2, 1) := by decide +kernel
theorem dX5_latestSource_15 : decode cX5_latestSource 15 = .ok (.bipush (-2), 2) := by decide +kernel
theorem dX5_latestSource_17 : decode cX5_latestSource 17 = .ok (.if_icmp .ne 13, 3) := by decide +kernel
theorem dX5_latestSource_20 : decode cX5_latestSource 20 = .ok (.new 120, 3) := by decide +kernel
theorem dX5_latestSource_23 : decode cX5_latestSource 23 = .ok (.dup, 1) := by decide +kernel
theorem dX5_latestSource_24 : decode cX5_latestSource 24 = .ok (.ldc 199, 2) := by decide +kernel
theorem dX5_latestSource_26 : decode cX5_latestSource 26 = .ok (.invokespecial 124, 3) := by decide +kernel
theorem dX5_latestSource_29 : decode cX5_latestSource 29 = .ok (.athrow, 1) := by decide +kernel
theorem dX5_latestSource_30 : decode cX5_latestSource 30 = .ok (.iload_n 2, 1) := by decide +kernel
theorem dX5_latestSource_31 : decode cX5_latestSource 31 = .ok (.ireturn, 1) := by decide +kernel
set_option maxRecDepth 20000 in
theorem ggX5_baseLevel_X5_requireChannel : GoodIn wsX5_baseLevel wsX5_requireChannel := goodIn_ca (goodIn_r _ [4, 5, 6, 7, 8, 3, 9, 10, 11, 12] (by decide +kernel) (by decide +kernel)) (goodIn_sub (fun _ h => List.mem_cons_of_mem _ (List.mem_append_left _ (List.mem_append_right _ h))) (by decide +kernel))
set_option maxRecDepth 20000 in
theorem gX5_baseLevel_X5_requireChannel : GoodIn wsX5_baseLevel (va_wsS RX5 107 yX5_requireChannel wsX5_requireChannel) := goodIn_app (goodIn_of _ (by decide +kernel)) ggX5_baseLevel_X5_requireChannel
set_option maxRecDepth 20000 in
theorem ggX5_baseLevel_X5_baseOf : GoodIn wsX5_baseLevel wsX5_baseOf := goodIn_ca (goodIn_r _ [16, 17, 18, 19, 20, 21, 3, 22, 23, 24, 25, 26, 27, 28, 29, 30, 31, 32, 33, 34, 35, 36, 37, 38, 39, 40, 41, 42, 43, 44, 45, 46, 47, 48, 49, 50, 51, 52, 53, 54, 55, 56, 57, 58, 59, 60, 61, 62, 63, 64, 65, 66, 67, 68, 69, 70, 71, 72, 73, 74, 75, 76, 77, 78, 79, 80, 81, 82, 83, 84] (by decide +kernel) (by decide +kernel)) (goodIn_sub (fun _ h => List.mem_cons_of_mem _ (List.mem_append_right _ h)) (by decide +kernel))
set_option maxRecDepth 20000 in
theorem gX5_baseLevel_X5_baseOf : GoodIn wsX5_baseLevel (wsV RX5 201 RX5 yX5_baseOf wsX5_baseOf) := goodIn_app (goodIn_of _ (by decide +kernel)) ggX5_baseLevel_X5_baseOf
theorem dX5_baseLevel_0 : decode cX5_baseLevel 0 = .ok (.iload_n 1, 1) := by decide +kernel
theorem dX5_baseLevel_1 : decode cX5_baseLevel 1 = .ok (.invokestatic 107, 3) := by decide +kernel
theorem dX5_baseLevel_4 : decode cX5_baseLevel 4 = .ok (.aload_n 0, 1) := by decide +kernel
theorem dX5_baseLevel_5 : decode cX5_baseLevel 5 = .ok (.iload_n 1, 1) := by decide +kernel
theorem dX5_baseLevel_6 : decode cX5_baseLevel 6 = .ok (.invokevirtual 201, 3) := by decide +kernel
theorem dX5_baseLevel_9 : decode cX5_baseLevel 9 = .ok (.ireturn, 1) := by decide +kernel
set_option maxRecDepth 20000 in
theorem ggX5_addEffect_X5_requireGroup : GoodIn wsX5_addEffect wsX5_requireGroup := goodIn_ca (goodIn_r _ [15, 16, 17, 18, 19, 20, 14, 21, 9, 22, 23, 24, 25, 26, 27, 28, 29, 30, 117, 118, 119, 120, 121, 122, 123, 124, 125, 126, 127, 135, 136, 137] (by decide +kernel) (by decide +kernel)) (goodIn_sub (fun _ h => List.mem_cons_of_mem _ (List.mem_append_right _ h)) (by decide +kernel))
set_option maxRecDepth 20000 in
theorem gX5_addEffect_X5_requireGroup : GoodIn wsX5_addEffect (wsV RX5 183 RX5 yX5_requireGroup wsX5_requireGroup) := goodIn_app (goodIn_of _ (by decide +kernel)) ggX5_addEffect_X5_requireGroup
set_option maxRecDepth 20000 in
theorem ggX5_addEffect_X5_isShape : GoodIn wsX5_addEffect wsX5_isShape := goodIn_r _ [33] (by decide +kernel) (by decide +kernel)
set_option maxRecDepth 20000 in
theorem gX5_addEffect_X5_isShape : GoodIn wsX5_addEffect (va_wsS RX5 204 yX5_isShape wsX5_isShape) := goodIn_app (goodIn_of _ (by decide +kernel)) ggX5_addEffect_X5_isShape
set_option maxRecDepth 20000 in
theorem ggX5_addEffect_X5_isWithin : GoodIn wsX5_addEffect wsX5_isWithin := goodIn_r _ [30] (by decide +kernel) (by decide +kernel)
set_option maxRecDepth 20000 in
theorem gX5_addEffect_X5_isWithin : GoodIn wsX5_addEffect (va_wsS RX5 54 yX5_isWithin wsX5_isWithin) := goodIn_app (goodIn_of _ (by decide +kernel)) ggX5_addEffect_X5_isWithin
set_option maxRecDepth 20000 in
theorem ggX5_addEffect_Jx4a65c_size_8abf5 : GoodIn wsX5_addEffect wsJx4a65c_size_8abf5 := goodIn_r _ [26, 27, 135, 136, 137] (by decide +kernel) (by decide +kernel)
set_option maxRecDepth 20000 in
theorem gX5_addEffect_Jx4a65c_size_8abf5 : GoodIn wsX5_addEffect (wsV RX5 78 RJx4a65c yJx4a65c_size_8abf5 wsJx4a65c_size_8abf5) := goodIn_app (goodIn_of _ (by decide +kernel)) ggX5_addEffect_Jx4a65c_size_8abf5
set_option maxRecDepth 20000 in
theorem ggX5_addEffect_Jx4a65c_get_915e3 : GoodIn wsX5_addEffect wsJx4a65c_get_915e3 := goodIn_r _ [37, 27, 38, 39, 40, 41, 42, 43, 44, 45, 46, 47, 48, 25, 49, 50, 135, 136, 137] (by decide +kernel) (by decide +kernel)
set_option maxRecDepth 20000 in
theorem gX5_addEffect_Jx4a65c_get_915e3 : GoodIn wsX5_addEffect (wsV RX5 114 RJx4a65c yJx4a65c_get_915e3 wsJx4a65c_get_915e3) := goodIn_app (goodIn_of _ (by decide +kernel)) ggX5_addEffect_Jx4a65c_get_915e3
set_option maxRecDepth 20000 in
theorem ggX5_addEffect_X2_init : GoodIn wsX5_addEffect wsX2_init := goodIn_r _ [53, 54, 55, 56, 57, 58, 59, 60, 61, 62, 63, 128, 129, 130, 131, 132, 133, 134] (by decide +kernel) (by decide +kernel)
set_option maxRecDepth 20000 in
theorem gX5_addEffect_X2_init : GoodIn wsX5_addEffect (wsX2_init) := ggX5_addEffect_X2_init
set_option maxRecDepth 20000 in
theorem ggX5_addEffect_Jx4a65c_add_9ea2d : GoodIn wsX5_addEffect wsJx4a65c_add_9ea2d := goodIn_r _ [67, 68, 69, 50, 27, 70, 71, 72, 25, 73, 74, 75, 76, 77, 78, 79, 80, 81, 82, 83, 84, 85, 86, 87, 88, 89, 90, 91, 92, 93, 94, 95, 96, 97, 98, 99, 100, 101, 102, 103, 104, 105, 106, 107, 108, 109, 110, 111, 112, 113, 114, 115, 116, 135, 136, 137] (by decide +kernel) (by decide +kernel)
set_option maxRecDepth 20000 in
theorem gX5_addEffect_Jx4a65c_add_9ea2d : GoodIn wsX5_addEffect (wsV RX5 180 RJx4a65c yJx4a65c_add_9ea2d wsJx4a65c_add_9ea2d) := goodIn_app (goodIn_of _ (by decide +kernel)) ggX5_addEffect_Jx4a65c_add_9ea2d
theorem dX5_addEffect_0 : decode cX5_addEffect 0 = .ok (.aload_n 0, 1) := by decide +kernel
theorem dX5_addEffect_1 : decode cX5_addEffect 1 = .ok (.iload_n 1, 1) := by decide +kernel
theorem dX5_addEffect_2 : decode cX5_addEffect 2 = .ok (.invokevirtual 183, 3) := by decide +kernel
theorem dX5_addEffect_5 : decode cX5_addEffect 5 = .ok (.iload_n 2, 1) := by decide +kernel
theorem dX5_addEffect_6 : decode cX5_addEffect 6 = .ok (.invokestatic 204, 3) := by decide +kernel
theorem dX5_addEffect_9 : decode cX5_addEffect 9 = .ok (.ifCond .eq 36, 3) := by decide +kernel
theorem dX5_addEffect_12 : decode cX5_addEffect 12 = .ok (.iload_n 3, 1) := by decide +kernel
theorem dX5_addEffect_13 : decode cX5_addEffect 13 = .ok (.iconst 2, 1) := by decide +kernel
theorem dX5_addEffect_14 : decode cX5_addEffect 14 = .ok (.bipush 40, 2) := by decide +kernel
theorem dX5_addEffect_16 : decode cX5_addEffect 16 = .ok (.invokestatic 54, 3) := by decide +kernel
theorem dX5_addEffect_19 : decode cX5_addEffect 19 = .ok (.ifCond .eq 26, 3) := by decide +kernel
theorem dX5_addEffect_22 : decode cX5_addEffect 22 = .ok (.iload 4, 2) := by decide +kernel
theorem dX5_addEffect_24 : decode cX5_addEffect 24 = .ok (.iconst 1, 1) := by decide +kernel
theorem dX5_addEffect_25 : decode cX5_addEffect 25 = .ok (.sipush 255, 3) := by decide +kernel
theorem dX5_addEffect_28 : decode cX5_addEffect 28 = .ok (.invokestatic 54, 3) := by decide +kernel
theorem dX5_addEffect_31 : decode cX5_addEffect 31 = .ok (.ifCond .eq 14, 3) := by decide +kernel
theorem dX5_addEffect_34 : decode cX5_addEffect 34 = .ok (.iload 5, 2) := by decide +kernel
theorem dX5_addEffect_36 : decode cX5_addEffect 36 = .ok (.iconst 0, 1) := by decide +kernel
theorem dX5_addEffect_37 : decode cX5_addEffect 37 = .ok (.bipush 39, 2) := by decide +kernel
theorem dX5_addEffect_39 : decode cX5_addEffect 39 = .ok (.invokestatic 54, 3) := by decide +kernel
theorem dX5_addEffect_42 : decode cX5_addEffect 42 = .ok (.ifCond .ne 13, 3) := by decide +kernel
theorem dX5_addEffect_45 : decode cX5_addEffect 45 = .ok (.new 62, 3) := by decide +kernel
theorem dX5_addEffect_48 : decode cX5_addEffect 48 = .ok (.dup, 1) := by decide +kernel
theorem dX5_addEffect_49 : decode cX5_addEffect 49 = .ok (.ldc 207, 2) := by decide +kernel
theorem dX5_addEffect_51 : decode cX5_addEffect 51 = .ok (.invokespecial 66, 3) := by decide +kernel
theorem dX5_addEffect_54 : decode cX5_addEffect 54 = .ok (.athrow, 1) := by decide +kernel
theorem dX5_addEffect_55 : decode cX5_addEffect 55 = .ok (.aload_n 0, 1) := by decide +kernel
theorem dX5_addEffect_56 : decode cX5_addEffect 56 = .ok (.getfield 32, 3) := by decide +kernel
theorem dX5_addEffect_59 : decode cX5_addEffect 59 = .ok (.invokevirtual 78, 3) := by decide +kernel
theorem dX5_addEffect_62 : decode cX5_addEffect 62 = .ok (.iconst 4, 1) := by decide +kernel
theorem dX5_addEffect_63 : decode cX5_addEffect 63 = .ok (.if_icmp .lt 13, 3) := by decide +kernel
theorem dX5_addEffect_66 : decode cX5_addEffect 66 = .ok (.new 82, 3) := by decide +kernel
theorem dX5_addEffect_69 : decode cX5_addEffect 69 = .ok (.dup, 1) := by decide +kernel
theorem dX5_addEffect_70 : decode cX5_addEffect 70 = .ok (.ldc 209, 2) := by decide +kernel
theorem dX5_addEffect_72 : decode cX5_addEffect 72 = .ok (.invokespecial 86, 3) := by decide +kernel
theorem dX5_addEffect_75 : decode cX5_addEffect 75 = .ok (.athrow, 1) := by decide +kernel
theorem dX5_addEffect_76 : decode cX5_addEffect 76 = .ok (.aload_n 0, 1) := by decide +kernel
theorem dX5_addEffect_77 : decode cX5_addEffect 77 = .ok (.getfield 32, 3) := by decide +kernel
theorem dX5_addEffect_80 : decode cX5_addEffect 80 = .ok (.new 211, 3) := by decide +kernel
theorem dX5_addEffect_83 : decode cX5_addEffect 83 = .ok (.dup, 1) := by decide +kernel
theorem dX5_addEffect_84 : decode cX5_addEffect 84 = .ok (.aload_n 0, 1) := by decide +kernel
theorem dX5_addEffect_85 : decode cX5_addEffect 85 = .ok (.getfield 29, 3) := by decide +kernel
theorem dX5_addEffect_88 : decode cX5_addEffect 88 = .ok (.iload_n 1, 1) := by decide +kernel
theorem dX5_addEffect_89 : decode cX5_addEffect 89 = .ok (.invokevirtual 114, 3) := by decide +kernel
theorem dX5_addEffect_92 : decode cX5_addEffect 92 = .ok (.checkcast 177, 3) := by decide +kernel
theorem dX5_addEffect_95 : decode cX5_addEffect 95 = .ok (.iload_n 2, 1) := by decide +kernel
theorem dX5_addEffect_96 : decode cX5_addEffect 96 = .ok (.iload_n 3, 1) := by decide +kernel
theorem dX5_addEffect_97 : decode cX5_addEffect 97 = .ok (.iload 4, 2) := by decide +kernel
theorem dX5_addEffect_99 : decode cX5_addEffect 99 = .ok (.iload 5, 2) := by decide +kernel
theorem dX5_addEffect_101 : decode cX5_addEffect 101 = .ok (.invokespecial 213, 3) := by decide +kernel
theorem dX5_addEffect_104 : decode cX5_addEffect 104 = .ok (.invokevirtual 180, 3) := by decide +kernel
theorem dX5_addEffect_107 : decode cX5_addEffect 107 = .ok (.pop, 1) := by decide +kernel
theorem dX5_addEffect_108 : decode cX5_addEffect 108 = .ok (.aload_n 0, 1) := by decide +kernel
theorem dX5_addEffect_109 : decode cX5_addEffect 109 = .ok (.getfield 32, 3) := by decide +kernel
theorem dX5_addEffect_112 : decode cX5_addEffect 112 = .ok (.invokevirtual 78, 3) := by decide +kernel
theorem dX5_addEffect_115 : decode cX5_addEffect 115 = .ok (.iconst 1, 1) := by decide +kernel
theorem dX5_addEffect_116 : decode cX5_addEffect 116 = .ok (.isub, 1) := by decide +kernel
theorem dX5_addEffect_117 : decode cX5_addEffect 117 = .ok (.ireturn, 1) := by decide +kernel
set_option maxRecDepth 20000 in
theorem ggX5_startEffect_X5_requireEffect : GoodIn wsX5_startEffect wsX5_requireEffect := goodIn_ca (goodIn_r _ [12, 13, 14, 3, 15, 16, 17, 18, 19, 20, 21, 22, 11, 23, 45, 46, 47, 48, 49, 50, 51, 52, 53, 54, 55, 63, 64, 65] (by decide +kernel) (by decide +kernel)) (goodIn_sub (fun _ h => List.mem_cons_of_mem _ (List.mem_append_right _ h)) (by decide +kernel))
set_option maxRecDepth 20000 in
theorem gX5_startEffect_X5_requireEffect : GoodIn wsX5_startEffect (wsV RX5 216 RX5 yX5_requireEffect wsX5_requireEffect) := goodIn_app (goodIn_of _ (by decide +kernel)) ggX5_startEffect_X5_requireEffect
set_option maxRecDepth 20000 in
theorem ggX5_startEffect_Jx4a65c_get_915e3 : GoodIn wsX5_startEffect wsJx4a65c_get_915e3 := goodIn_r _ [27, 20, 28, 29, 30, 31, 32, 33, 34, 35, 36, 37, 38, 18, 39, 40, 63, 64, 65] (by decide +kernel) (by decide +kernel)
set_option maxRecDepth 20000 in
theorem gX5_startEffect_Jx4a65c_get_915e3 : GoodIn wsX5_startEffect (wsV RX5 114 RJx4a65c yJx4a65c_get_915e3 wsJx4a65c_get_915e3) := goodIn_app (goodIn_of _ (by decide +kernel)) ggX5_startEffect_Jx4a65c_get_915e3
set_option maxRecDepth 20000 in
theorem ggX5_startEffect_X5_runningEffects : GoodIn wsX5_startEffect wsX5_runningEffects := goodIn_r _ [44, 3, 4, 5, 15, 16, 17, 18, 19, 20, 24, 25, 26, 27, 28, 29, 30, 31, 32, 33, 34, 35, 36, 37, 38, 39, 40, 45, 46, 47, 48, 49, 50, 51, 52, 53, 54, 55, 56, 57, 58, 59, 60, 61, 62, 63, 64, 65] (by decide +kernel) (by decide +kernel)
set_option maxRecDepth 20000 in
theorem gX5_startEffect_X5_runningEffects : GoodIn wsX5_startEffect (wsV RX5 227 RX5 yX5_runningEffects wsX5_runningEffects) := goodIn_app (goodIn_of _ (by decide +kernel)) ggX5_startEffect_X5_runningEffects
theorem dX5_startEffect_0 : decode cX5_startEffect 0 = .ok (.aload_n 0, 1) := by decide +kernel
theorem dX5_startEffect_1 : decode cX5_startEffect 1 = .ok (.iload_n 1, 1) := by decide +kernel
theorem dX5_startEffect_2 : decode cX5_startEffect 2 = .ok (.invokevirtual 216, 3) := by decide +kernel
theorem dX5_startEffect_5 : decode cX5_startEffect 5 = .ok (.aload_n 0, 1) := by decide +kernel
theorem dX5_startEffect_6 : decode cX5_startEffect 6 = .ok (.getfield 32, 3) := by decide +kernel
theorem dX5_startEffect_9 : decode cX5_startEffect 9 = .ok (.iload_n 1, 1) := by decide +kernel
theorem dX5_startEffect_10 : decode cX5_startEffect 10 = .ok (.invokevirtual 114, 3) := by decide +kernel
theorem dX5_startEffect_13 : decode cX5_startEffect 13 = .ok (.checkcast 211, 3) := by decide +kernel
theorem dX5_startEffect_16 : decode cX5_startEffect 16 = .ok (.astore_n 2, 1) := by decide +kernel
theorem dX5_startEffect_17 : decode cX5_startEffect 17 = .ok (.aload_n 2, 1) := by decide +kernel
theorem dX5_startEffect_18 : decode cX5_startEffect 18 = .ok (.getfield 219, 3) := by decide +kernel
theorem dX5_startEffect_21 : decode cX5_startEffect 21 = .ok (.ifCond .eq 13, 3) := by decide +kernel
theorem dX5_startEffect_24 : decode cX5_startEffect 24 = .ok (.new 82, 3) := by decide +kernel
theorem dX5_startEffect_27 : decode cX5_startEffect 27 = .ok (.dup, 1) := by decide +kernel
theorem dX5_startEffect_28 : decode cX5_startEffect 28 = .ok (.ldc 222, 2) := by decide +kernel
theorem dX5_startEffect_30 : decode cX5_startEffect 30 = .ok (.invokespecial 86, 3) := by decide +kernel
theorem dX5_startEffect_33 : decode cX5_startEffect 33 = .ok (.athrow, 1) := by decide +kernel
theorem dX5_startEffect_34 : decode cX5_startEffect 34 = .ok (.aload_n 2, 1) := by decide +kernel
theorem dX5_startEffect_35 : decode cX5_startEffect 35 = .ok (.iconst 1, 1) := by decide +kernel
theorem dX5_startEffect_36 : decode cX5_startEffect 36 = .ok (.putfield 219, 3) := by decide +kernel
theorem dX5_startEffect_39 : decode cX5_startEffect 39 = .ok (.aload_n 2, 1) := by decide +kernel
theorem dX5_startEffect_40 : decode cX5_startEffect 40 = .ok (.aload_n 0, 1) := by decide +kernel
theorem dX5_startEffect_41 : decode cX5_startEffect 41 = .ok (.getfield 20, 3) := by decide +kernel
theorem dX5_startEffect_44 : decode cX5_startEffect 44 = .ok (.putfield 224, 3) := by decide +kernel
theorem dX5_startEffect_47 : decode cX5_startEffect 47 = .ok (.aload_n 0, 1) := by decide +kernel
theorem dX5_startEffect_48 : decode cX5_startEffect 48 = .ok (.invokevirtual 227, 3) := by decide +kernel
theorem dX5_startEffect_51 : decode cX5_startEffect 51 = .ok (.ireturn, 1) := by decide +kernel
set_option maxRecDepth 20000 in
theorem ggX5_stopEffect_X5_requireEffect : GoodIn wsX5_stopEffect wsX5_requireEffect := goodIn_ca (goodIn_r _ [12, 13, 14, 3, 15, 16, 17, 18, 19, 20, 21, 22, 11, 23, 41, 42, 43, 44, 45, 46, 47, 48, 49, 50, 51, 59, 60, 61] (by decide +kernel) (by decide +kernel)) (goodIn_sub (fun _ h => List.mem_cons_of_mem _ (List.mem_append_right _ h)) (by decide +kernel))
set_option maxRecDepth 20000 in
theorem gX5_stopEffect_X5_requireEffect : GoodIn wsX5_stopEffect (wsV RX5 216 RX5 yX5_requireEffect wsX5_requireEffect) := goodIn_app (goodIn_of _ (by decide +kernel)) ggX5_stopEffect_X5_requireEffect
set_option maxRecDepth 20000 in
theorem ggX5_stopEffect_Jx4a65c_get_915e3 : GoodIn wsX5_stopEffect wsJx4a65c_get_915e3 := goodIn_r _ [27, 20, 28, 29, 30, 31, 32, 33, 34, 35, 36, 37, 38, 18, 39, 40, 59, 60, 61] (by decide +kernel) (by decide +kernel)
set_option maxRecDepth 20000 in
theorem gX5_stopEffect_Jx4a65c_get_915e3 : GoodIn wsX5_stopEffect (wsV RX5 114 RJx4a65c yJx4a65c_get_915e3 wsJx4a65c_get_915e3) := goodIn_app (goodIn_of _ (by decide +kernel)) ggX5_stopEffect_Jx4a65c_get_915e3
theorem dX5_stopEffect_0 : decode cX5_stopEffect 0 = .ok (.aload_n 0, 1) := by decide +kernel
theorem dX5_stopEffect_1 : decode cX5_stopEffect 1 = .ok (.iload_n 1, 1) := by decide +kernel
theorem dX5_stopEffect_2 : decode cX5_stopEffect 2 = .ok (.invokevirtual 216, 3) := by decide +kernel
theorem dX5_stopEffect_5 : decode cX5_stopEffect 5 = .ok (.aload_n 0, 1) := by decide +kernel
theorem dX5_stopEffect_6 : decode cX5_stopEffect 6 = .ok (.getfield 32, 3) := by decide +kernel
theorem dX5_stopEffect_9 : decode cX5_stopEffect 9 = .ok (.iload_n 1, 1) := by decide +kernel
theorem dX5_stopEffect_10 : decode cX5_stopEffect 10 = .ok (.invokevirtual 114, 3) := by decide +kernel
theorem dX5_stopEffect_13 : decode cX5_stopEffect 13 = .ok (.checkcast 211, 3) := by decide +kernel
theorem dX5_stopEffect_16 : decode cX5_stopEffect 16 = .ok (.astore_n 2, 1) := by decide +kernel
theorem dX5_stopEffect_17 : decode cX5_stopEffect 17 = .ok (.aload_n 2, 1) := by decide +kernel
theorem dX5_stopEffect_18 : decode cX5_stopEffect 18 = .ok (.getfield 219, 3) := by decide +kernel
theorem dX5_stopEffect_21 : decode cX5_stopEffect 21 = .ok (.ifCond .ne 13, 3) := by decide +kernel
theorem dX5_stopEffect_24 : decode cX5_stopEffect 24 = .ok (.new 82, 3) := by decide +kernel
theorem dX5_stopEffect_27 : decode cX5_stopEffect 27 = .ok (.dup, 1) := by decide +kernel
theorem dX5_stopEffect_28 : decode cX5_stopEffect 28 = .ok (.ldc 230, 2) := by decide +kernel
theorem dX5_stopEffect_30 : decode cX5_stopEffect 30 = .ok (.invokespecial 86, 3) := by decide +kernel
theorem dX5_stopEffect_33 : decode cX5_stopEffect 33 = .ok (.athrow, 1) := by decide +kernel
theorem dX5_stopEffect_34 : decode cX5_stopEffect 34 = .ok (.aload_n 2, 1) := by decide +kernel
theorem dX5_stopEffect_35 : decode cX5_stopEffect 35 = .ok (.iconst 0, 1) := by decide +kernel
theorem dX5_stopEffect_36 : decode cX5_stopEffect 36 = .ok (.putfield 219, 3) := by decide +kernel
theorem dX5_stopEffect_39 : decode cX5_stopEffect 39 = .ok (.aload_n 0, 1) := by decide +kernel
theorem dX5_stopEffect_40 : decode cX5_stopEffect 40 = .ok (.getfield 20, 3) := by decide +kernel
theorem dX5_stopEffect_43 : decode cX5_stopEffect 43 = .ok (.aload_n 2, 1) := by decide +kernel
theorem dX5_stopEffect_44 : decode cX5_stopEffect 44 = .ok (.getfield 224, 3) := by decide +kernel
theorem dX5_stopEffect_47 : decode cX5_stopEffect 47 = .ok (.isub, 1) := by decide +kernel
theorem dX5_stopEffect_48 : decode cX5_stopEffect 48 = .ok (.ireturn, 1) := by decide +kernel
set_option maxRecDepth 20000 in
theorem ggX5_effectOn_X5_requireEffect : GoodIn wsX5_effectOn wsX5_requireEffect := goodIn_ca (goodIn_r _ [7, 8, 9, 1, 10, 11, 12, 13, 14, 15, 16, 17, 6, 18, 66, 67, 68, 69, 70, 71, 72, 73, 74, 75, 76, 77, 78, 79] (by decide +kernel) (by decide +kernel)) (goodIn_sub (fun _ h => List.mem_cons_of_mem _ (List.mem_append_left _ (List.mem_append_left _ (List.mem_append_right _ h)))) (by decide +kernel))
set_option maxRecDepth 20000 in
theorem gX5_effectOn_X5_requireEffect : GoodIn wsX5_effectOn (wsV RX5 216 RX5 yX5_requireEffect wsX5_requireEffect) := goodIn_app (goodIn_of _ (by decide +kernel)) ggX5_effectOn_X5_requireEffect
set_option maxRecDepth 20000 in
theorem ggX5_effectOn_X5_requireChannel : GoodIn wsX5_effectOn wsX5_requireChannel := goodIn_ca (goodIn_r _ [21, 8, 9, 22, 23, 6, 24, 16, 17, 18] (by decide +kernel) (by decide +kernel)) (goodIn_sub (fun _ h => List.mem_cons_of_mem _ (List.mem_append_left _ (List.mem_append_left _ (List.mem_append_right _ h)))) (by decide +kernel))
set_option maxRecDepth 20000 in
theorem gX5_effectOn_X5_requireChannel : GoodIn wsX5_effectOn (va_wsS RX5 107 yX5_requireChannel wsX5_requireChannel) := goodIn_app (goodIn_of _ (by decide +kernel)) ggX5_effectOn_X5_requireChannel
set_option maxRecDepth 20000 in
theorem ggX5_effectOn_Jx4a65c_get_915e3 : GoodIn wsX5_effectOn wsJx4a65c_get_915e3 := goodIn_r _ [28, 15, 29, 30, 31, 32, 33, 34, 35, 36, 37, 38, 39, 13, 40, 41, 77, 78, 79] (by decide +kernel) (by decide +kernel)
set_option maxRecDepth 20000 in
theorem gX5_effectOn_Jx4a65c_get_915e3 : GoodIn wsX5_effectOn (wsV RX5 114 RJx4a65c yJx4a65c_get_915e3 wsJx4a65c_get_915e3) := goodIn_app (goodIn_of _ (by decide +kernel)) ggX5_effectOn_Jx4a65c_get_915e3
set_option maxRecDepth 20000 in
theorem ggX5_effectOn_X5_givenBy : GoodIn wsX5_effectOn wsX5_givenBy := goodIn_ca (goodIn_ca (goodIn_r _ [45, 46, 47, 48, 49, 50, 51, 52, 53, 54, 55, 56, 57, 58, 59, 60, 61, 62, 63, 64, 65, 80, 81, 82, 83, 84, 85, 86, 87, 88, 66, 67, 68, 69, 70, 71, 72, 73, 74, 75, 76] (by decide +kernel) (by decide +kernel)) (goodIn_sub (fun _ h => List.mem_cons_of_mem _ (List.mem_append_left _ (List.mem_append_right _ h))) (by decide +kernel))) (goodIn_sub (fun _ h => List.mem_cons_of_mem _ (List.mem_append_right _ h)) (by decide +kernel))
set_option maxRecDepth 20000 in
theorem gX5_effectOn_X5_givenBy : GoodIn wsX5_effectOn (wsV RX5 232 RX5 yX5_givenBy wsX5_givenBy) := goodIn_app (goodIn_of _ (by decide +kernel)) ggX5_effectOn_X5_givenBy
theorem dX5_effectOn_0 : decode cX5_effectOn 0 = .ok (.aload_n 0, 1) := by decide +kernel
theorem dX5_effectOn_1 : decode cX5_effectOn 1 = .ok (.iload_n 1, 1) := by decide +kernel
theorem dX5_effectOn_2 : decode cX5_effectOn 2 = .ok (.invokevirtual 216, 3) := by decide +kernel
theorem dX5_effectOn_5 : decode cX5_effectOn 5 = .ok (.iload_n 2, 1) := by decide +kernel
theorem dX5_effectOn_6 : decode cX5_effectOn 6 = .ok (.invokestatic 107, 3) := by decide +kernel
theorem dX5_effectOn_9 : decode cX5_effectOn 9 = .ok (.aload_n 0, 1) := by decide +kernel
theorem dX5_effectOn_10 : decode cX5_effectOn 10 = .ok (.aload_n 0, 1) := by decide +kernel
theorem dX5_effectOn_11 : decode cX5_effectOn 11 = .ok (.getfield 32, 3) := by decide +kernel
theorem dX5_effectOn_14 : decode cX5_effectOn 14 = .ok (.iload_n 1, 1) := by decide +kernel
theorem dX5_effectOn_15 : decode cX5_effectOn 15 = .ok (.invokevirtual 114, 3) := by decide +kernel
theorem dX5_effectOn_18 : decode cX5_effectOn 18 = .ok (.checkcast 211, 3) := by decide +kernel
theorem dX5_effectOn_21 : decode cX5_effectOn 21 = .ok (.iload_n 2, 1) := by decide +kernel
theorem dX5_effectOn_22 : decode cX5_effectOn 22 = .ok (.invokevirtual 232, 3) := by decide +kernel
theorem dX5_effectOn_25 : decode cX5_effectOn 25 = .ok (.ireturn, 1) := by decide +kernel
set_option maxRecDepth 20000 in
theorem ggX5_park_X5_requireChannel : GoodIn wsX5_park wsX5_requireChannel := goodIn_ca (goodIn_r _ [4, 5, 6, 7, 8, 3, 9, 10, 11, 12] (by decide +kernel) (by decide +kernel)) (goodIn_sub (fun _ h => List.mem_cons_of_mem _ (List.mem_append_left _ (List.mem_append_right _ h))) (by decide +kernel))
set_option maxRecDepth 20000 in
theorem gX5_park_X5_requireChannel : GoodIn wsX5_park (va_wsS RX5 107 yX5_requireChannel wsX5_requireChannel) := goodIn_app (goodIn_of _ (by decide +kernel)) ggX5_park_X5_requireChannel
set_option maxRecDepth 20000 in
theorem ggX5_park_X5_requireLevel : GoodIn wsX5_park wsX5_requireLevel := goodIn_ca (goodIn_r _ [15, 16, 17, 18, 19, 3, 20, 10, 11, 12] (by decide +kernel) (by decide +kernel)) (goodIn_sub (fun _ h => List.mem_cons_of_mem _ (List.mem_append_right _ h)) (by decide +kernel))
set_option maxRecDepth 20000 in
theorem gX5_park_X5_requireLevel : GoodIn wsX5_park (va_wsS RX5 111 yX5_requireLevel wsX5_requireLevel) := goodIn_app (goodIn_of _ (by decide +kernel)) ggX5_park_X5_requireLevel
set_option maxRecDepth 20000 in
theorem ggX5_park_X5_parkAt : GoodIn wsX5_park wsX5_parkAt := goodIn_r _ [24, 25, 26, 27, 28, 29, 30, 31, 32, 33, 34, 35, 36, 37, 38, 39, 40, 41, 42, 43, 44, 45, 46] (by decide +kernel) (by decide +kernel)
set_option maxRecDepth 20000 in
theorem gX5_park_X5_parkAt : GoodIn wsX5_park (wsV RX5 236 RX5 yX5_parkAt wsX5_parkAt) := goodIn_app (goodIn_of _ (by decide +kernel)) ggX5_park_X5_parkAt
theorem dX5_park_0 : decode cX5_park 0 = .ok (.iload_n 1, 1) := by decide +kernel
theorem dX5_park_1 : decode cX5_park 1 = .ok (.invokestatic 107, 3) := by decide +kernel
theorem dX5_park_4 : decode cX5_park 4 = .ok (.iload_n 2, 1) := by decide +kernel
theorem dX5_park_5 : decode cX5_park 5 = .ok (.invokestatic 111, 3) := by decide +kernel
theorem dX5_park_8 : decode cX5_park 8 = .ok (.aload_n 0, 1) := by decide +kernel
theorem dX5_park_9 : decode cX5_park 9 = .ok (.iload_n 1, 1) := by decide +kernel
theorem dX5_park_10 : decode cX5_park 10 = .ok (.iload_n 2, 1) := by decide +kernel
theorem dX5_park_11 : decode cX5_park 11 = .ok (.invokevirtual 236, 3) := by decide +kernel
theorem dX5_park_14 : decode cX5_park 14 = .ok (.ireturn, 1) := by decide +kernel
set_option maxRecDepth 20000 in
theorem ggX5_unpark_X5_requireChannel : GoodIn wsX5_unpark wsX5_requireChannel := goodIn_ca (goodIn_r _ [8, 9, 10, 11, 12, 7, 13, 14, 15, 16] (by decide +kernel) (by decide +kernel)) (goodIn_sub (fun _ h => List.mem_cons_of_mem _ (List.mem_append_right _ h)) (by decide +kernel))
set_option maxRecDepth 20000 in
theorem gX5_unpark_X5_requireChannel : GoodIn wsX5_unpark (va_wsS RX5 107 yX5_requireChannel wsX5_requireChannel) := goodIn_app (goodIn_of _ (by decide +kernel)) ggX5_unpark_X5_requireChannel
theorem dX5_unpark_0 : decode cX5_unpark 0 = .ok (.iload_n 1, 1) := by decide +kernel
theorem dX5_unpark_1 : decode cX5_unpark 1 = .ok (.invokestatic 107, 3) := by decide +kernel
theorem dX5_unpark_4 : decode cX5_unpark 4 = .ok (.aload_n 0, 1) := by decide +kernel
theorem dX5_unpark_5 : decode cX5_unpark 5 = .ok (.getfield 25, 3) := by decide +kernel
theorem dX5_unpark_8 : decode cX5_unpark 8 = .ok (.iload_n 1, 1) := by decide +kernel
theorem dX5_unpark_9 : decode cX5_unpark 9 = .ok (.aaload, 1) := by decide +kernel
theorem dX5_unpark_10 : decode cX5_unpark 10 = .ok (.getfield 239, 3) := by decide +kernel
theorem dX5_unpark_13 : decode cX5_unpark 13 = .ok (.istore_n 2, 1) := by decide +kernel
theorem dX5_unpark_14 : decode cX5_unpark 14 = .ok (.iload_n 2, 1) := by decide +kernel
theorem dX5_unpark_15 : decode cX5_unpark 15 = .ok (.iconst (-1), 1) := by decide +kernel
theorem dX5_unpark_16 : decode cX5_unpark 16 = .ok (.if_icmp .ne 13, 3) := by decide +kernel
theorem dX5_unpark_19 : decode cX5_unpark 19 = .ok (.new 120, 3) := by decide +kernel
theorem dX5_unpark_22 : decode cX5_unpark 22 = .ok (.dup, 1) := by decide +kernel
theorem dX5_unpark_23 : decode cX5_unpark 23 = .ok (.ldc 242, 2) := by decide +kernel
theorem dX5_unpark_25 : decode cX5_unpark 25 = .ok (.invokespecial 124, 3) := by decide +kernel
theorem dX5_unpark_28 : decode cX5_unpark 28 = .ok (.athrow, 1) := by decide +kernel
theorem dX5_unpark_29 : decode cX5_unpark 29 = .ok (.aload_n 0, 1) := by decide +kernel
theorem dX5_unpark_30 : decode cX5_unpark 30 = .ok (.getfield 25, 3) := by decide +kernel
theorem dX5_unpark_33 : decode cX5_unpark 33 = .ok (.iload_n 1, 1) := by decide +kernel
theorem dX5_unpark_34 : decode cX5_unpark 34 = .ok (.aaload, 1) := by decide +kernel
theorem dX5_unpark_35 : decode cX5_unpark 35 = .ok (.iconst (-1), 1) := by decide +kernel
theorem dX5_unpark_36 : decode cX5_unpark 36 = .ok (.putfield 239, 3) := by decide +kernel
theorem dX5_unpark_39 : decode cX5_unpark 39 = .ok (.iload_n 2, 1) := by decide +kernel
theorem dX5_unpark_40 : decode cX5_unpark 40 = .ok (.ireturn, 1) := by decide +kernel
set_option maxRecDepth 20000 in
theorem ggX5_setMaster_X5_requireLevel : GoodIn wsX5_setMaster wsX5_requireLevel := goodIn_ca (goodIn_r _ [4, 5, 6, 7, 8, 3, 9, 10, 11, 12] (by decide +kernel) (by decide +kernel)) (goodIn_sub (fun _ h => List.mem_cons_of_mem _ (List.mem_append_right _ h)) (by decide +kernel))
set_option maxRecDepth 20000 in
theorem gX5_setMaster_X5_requireLevel : GoodIn wsX5_setMaster (va_wsS RX5 111 yX5_requireLevel wsX5_requireLevel) := goodIn_app (goodIn_of _ (by decide +kernel)) ggX5_setMaster_X5_requireLevel
set_option maxRecDepth 20000 in
theorem ggX5_setMaster_X5_moveMaster : GoodIn wsX5_setMaster wsX5_moveMaster := goodIn_r _ [16, 17, 18, 19, 20, 21, 22, 23, 24, 25, 26, 27, 28] (by decide +kernel) (by decide +kernel)
set_option maxRecDepth 20000 in
theorem gX5_setMaster_X5_moveMaster : GoodIn wsX5_setMaster (wsV RX5 244 RX5 yX5_moveMaster wsX5_moveMaster) := goodIn_app (goodIn_of _ (by decide +kernel)) ggX5_setMaster_X5_moveMaster
theorem dX5_setMaster_0 : decode cX5_setMaster 0 = .ok (.iload_n 1, 1) := by decide +kernel
theorem dX5_setMaster_1 : decode cX5_setMaster 1 = .ok (.invokestatic 111, 3) := by decide +kernel
theorem dX5_setMaster_4 : decode cX5_setMaster 4 = .ok (.aload_n 0, 1) := by decide +kernel
theorem dX5_setMaster_5 : decode cX5_setMaster 5 = .ok (.iload_n 1, 1) := by decide +kernel
theorem dX5_setMaster_6 : decode cX5_setMaster 6 = .ok (.invokevirtual 244, 3) := by decide +kernel
theorem dX5_setMaster_9 : decode cX5_setMaster 9 = .ok (.ireturn, 1) := by decide +kernel
set_option maxRecDepth 20000 in
theorem ggX5_level_X5_requireChannel : GoodIn wsX5_level wsX5_requireChannel := goodIn_ca (goodIn_r _ [5, 6, 7, 8, 9, 4, 10, 11, 12, 13] (by decide +kernel) (by decide +kernel)) (goodIn_sub (fun _ h => List.mem_cons_of_mem _ (List.mem_append_left _ (List.mem_append_right _ h))) (by decide +kernel))
set_option maxRecDepth 20000 in
theorem gX5_level_X5_requireChannel : GoodIn wsX5_level (va_wsS RX5 107 yX5_requireChannel wsX5_requireChannel) := goodIn_app (goodIn_of _ (by decide +kernel)) ggX5_level_X5_requireChannel
set_option maxRecDepth 20000 in
theorem ggX5_level_X5_fillLevelRow : GoodIn wsX5_level wsX5_fillLevelRow := goodIn_ca (goodIn_ca (goodIn_r _ [17, 1, 18, 19, 20, 21, 22, 23, 4, 24, 25, 26, 27, 28, 29, 30, 31, 32, 33, 34, 35, 36, 37, 38, 39, 40, 41, 42, 43, 44, 45, 46, 47, 48, 49, 50, 51, 52, 53, 54, 55, 56, 57, 58, 59, 60, 61, 62, 63, 64, 65, 66, 67, 68, 69, 70, 71, 72, 73, 74, 75, 76, 77, 78, 79, 80, 81, 82, 83, 84, 85, 86, 87, 88, 89, 90, 91, 92, 93, 94, 95, 96, 97, 98, 99, 100, 101, 102, 103, 104, 105, 106, 107, 108, 109, 110, 111, 112, 113, 114, 115, 116, 117, 118, 119, 120, 121, 122, 123, 124] (by decide +kernel) (by decide +kernel)) (goodIn_sub (fun _ h => List.mem_cons_of_mem _ (List.mem_append_left _ (List.mem_append_left _ (List.mem_append_right _ h)))) (by decide +kernel))) (goodIn_sub (fun _ h => List.mem_cons_of_mem _ (List.mem_append_right _ h)) (by decide +kernel))
set_option maxRecDepth 20000 in
theorem gX5_level_X5_fillLevelRow : GoodIn wsX5_level (wsV RX5 247 RX5 yX5_fillLevelRow wsX5_fillLevelRow) := goodIn_app (goodIn_of _ (by decide +kernel)) ggX5_level_X5_fillLevelRow
theorem dX5_level_0 : decode cX5_level 0 = .ok (.iload_n 1, 1) := by decide +kernel
theorem dX5_level_1 : decode cX5_level 1 = .ok (.invokestatic 107, 3) := by decide +kernel
theorem dX5_level_4 : decode cX5_level 4 = .ok (.aload_n 0, 1) := by decide +kernel
theorem dX5_level_5 : decode cX5_level 5 = .ok (.invokevirtual 247, 3) := by decide +kernel
theorem dX5_level_8 : decode cX5_level 8 = .ok (.aload_n 0, 1) := by decide +kernel
theorem dX5_level_9 : decode cX5_level 9 = .ok (.getfield 38, 3) := by decide +kernel
theorem dX5_level_12 : decode cX5_level 12 = .ok (.iload_n 1, 1) := by decide +kernel
theorem dX5_level_13 : decode cX5_level 13 = .ok (.iaload, 1) := by decide +kernel
theorem dX5_level_14 : decode cX5_level 14 = .ok (.ireturn, 1) := by decide +kernel
set_option maxRecDepth 20000 in
theorem ggX5_levelAlone_X5_requireChannel : GoodIn wsX5_levelAlone wsX5_requireChannel := goodIn_ca (goodIn_r _ [6, 7, 8, 9, 10, 5, 11, 12, 13, 14] (by decide +kernel) (by decide +kernel)) (goodIn_sub (fun _ h => List.mem_cons_of_mem _ (List.mem_append_left _ (List.mem_append_left _ (List.mem_append_right _ h)))) (by decide +kernel))
set_option maxRecDepth 20000 in
theorem gX5_levelAlone_X5_requireChannel : GoodIn wsX5_levelAlone (va_wsS RX5 107 yX5_requireChannel wsX5_requireChannel) := goodIn_app (goodIn_of _ (by decide +kernel)) ggX5_levelAlone_X5_requireChannel
set_option maxRecDepth 20000 in
theorem ggX5_levelAlone_X5_baseOf : GoodIn wsX5_levelAlone wsX5_baseOf := goodIn_ca (goodIn_r _ [18, 19, 20, 21, 22, 23, 5, 24, 25, 26, 27, 28, 29, 30, 31, 32, 33, 34, 35, 36, 37, 38, 39, 40, 41, 42, 43, 44, 45, 46, 47, 48, 49, 50, 51, 52, 53, 54, 55, 56, 57, 58, 59, 60, 61, 94, 95, 96, 97, 98, 99, 100, 101, 102, 103, 104, 105, 106, 107, 108, 109, 110, 111, 112, 113, 114, 115, 116, 117, 118] (by decide +kernel) (by decide +kernel)) (goodIn_sub (fun _ h => List.mem_cons_of_mem _ (List.mem_append_left _ (List.mem_append_right _ h))) (by decide +kernel))
set_option maxRecDepth 20000 in
theorem gX5_levelAlone_X5_baseOf : GoodIn wsX5_levelAlone (wsV RX5 201 RX5 yX5_baseOf wsX5_baseOf) := goodIn_app (goodIn_of _ (by decide +kernel)) ggX5_levelAlone_X5_baseOf
set_option maxRecDepth 20000 in
theorem ggX5_levelAlone_Jx4a65c_size_8abf5 : GoodIn wsX5_levelAlone wsJx4a65c_size_8abf5 := goodIn_r _ [35, 36, 116, 117, 118] (by decide +kernel) (by decide +kernel)
set_option maxRecDepth 20000 in
theorem gX5_levelAlone_Jx4a65c_size_8abf5 : GoodIn wsX5_levelAlone (wsV RX5 78 RJx4a65c yJx4a65c_size_8abf5 wsJx4a65c_size_8abf5) := goodIn_app (goodIn_of _ (by decide +kernel)) ggX5_levelAlone_Jx4a65c_size_8abf5
set_option maxRecDepth 20000 in
theorem ggX5_levelAlone_Jx4a65c_get_915e3 : GoodIn wsX5_levelAlone wsJx4a65c_get_915e3 := goodIn_r _ [40, 36, 41, 42, 43, 44, 45, 46, 47, 48, 49, 50, 51, 34, 52, 53, 116, 117, 118] (by decide +kernel) (by decide +kernel)
set_option maxRecDepth 20000 in
theorem gX5_levelAlone_Jx4a65c_get_915e3 : GoodIn wsX5_levelAlone (wsV RX5 114 RJx4a65c yJx4a65c_get_915e3 wsJx4a65c_get_915e3) := goodIn_app (goodIn_of _ (by decide +kernel)) ggX5_levelAlone_Jx4a65c_get_915e3
set_option maxRecDepth 20000 in
theorem ggX5_levelAlone_X5_givenBy : GoodIn wsX5_levelAlone wsX5_givenBy := goodIn_ca (goodIn_ca (goodIn_r _ [65, 66, 67, 28, 68, 69, 70, 71, 72, 73, 74, 75, 76, 77, 78, 79, 80, 81, 82, 83, 84, 119, 120, 121, 122, 123, 124, 125, 114, 115, 94, 95, 96, 97, 98, 99, 100, 101, 102, 103, 104] (by decide +kernel) (by decide +kernel)) (goodIn_sub (fun _ h => List.mem_cons_of_mem _ (List.mem_append_left _ (List.mem_append_right _ h))) (by decide +kernel))) (goodIn_sub (fun _ h => List.mem_cons_of_mem _ (List.mem_append_right _ h)) (by decide +kernel))
set_option maxRecDepth 20000 in
theorem gX5_levelAlone_X5_givenBy : GoodIn wsX5_levelAlone (wsV RX5 232 RX5 yX5_givenBy wsX5_givenBy) := goodIn_app (goodIn_of _ (by decide +kernel)) ggX5_levelAlone_X5_givenBy
set_option maxRecDepth 20000 in
theorem ggX5_levelAlone_X5_outputOf : GoodIn wsX5_levelAlone wsX5_outputOf := goodIn_r _ [88, 19, 89, 90, 91, 60, 92, 93, 94, 95, 96, 97, 98, 99, 100, 101, 102, 103, 104, 105, 106, 107, 108, 109, 110, 111, 112, 113] (by decide +kernel) (by decide +kernel)
set_option maxRecDepth 20000 in
theorem gX5_levelAlone_X5_outputOf : GoodIn wsX5_levelAlone (wsV RX5 250 RX5 yX5_outputOf wsX5_outputOf) := goodIn_app (goodIn_of _ (by decide +kernel)) ggX5_levelAlone_X5_outputOf
theorem dX5_levelAlone_0 : decode cX5_levelAlone 0 = .ok (.iload_n 1, 1) := by decide +kernel
theorem dX5_levelAlone_1 : decode cX5_levelAlone 1 = .ok (.invokestatic 107, 3) := by decide +kernel
theorem dX5_levelAlone_4 : decode cX5_levelAlone 4 = .ok (.aload_n 0, 1) := by decide +kernel
theorem dX5_levelAlone_5 : decode cX5_levelAlone 5 = .ok (.iload_n 1, 1) := by decide +kernel
theorem dX5_levelAlone_6 : decode cX5_levelAlone 6 = .ok (.invokevirtual 201, 3) := by decide +kernel
theorem dX5_levelAlone_9 : decode cX5_levelAlone 9 = .ok (.istore_n 2, 1) := by decide +kernel
theorem dX5_levelAlone_10 : decode cX5_levelAlone 10 = .ok (.iconst 0, 1) := by decide +kernel
theorem dX5_levelAlone_11 : decode cX5_levelAlone 11 = .ok (.istore_n 3, 1) := by decide +kernel
theorem dX5_levelAlone_12 : decode cX5_levelAlone 12 = .ok (.iload_n 3, 1) := by decide +kernel
theorem dX5_levelAlone_13 : decode cX5_levelAlone 13 = .ok (.aload_n 0, 1) := by decide +kernel
theorem dX5_levelAlone_14 : decode cX5_levelAlone 14 = .ok (.getfield 32, 3) := by decide +kernel
theorem dX5_levelAlone_17 : decode cX5_levelAlone 17 = .ok (.invokevirtual 78, 3) := by decide +kernel
theorem dX5_levelAlone_20 : decode cX5_levelAlone 20 = .ok (.if_icmp .ge 28, 3) := by decide +kernel
theorem dX5_levelAlone_23 : decode cX5_levelAlone 23 = .ok (.iload_n 2, 1) := by decide +kernel
theorem dX5_levelAlone_24 : decode cX5_levelAlone 24 = .ok (.aload_n 0, 1) := by decide +kernel
theorem dX5_levelAlone_25 : decode cX5_levelAlone 25 = .ok (.aload_n 0, 1) := by decide +kernel
theorem dX5_levelAlone_26 : decode cX5_levelAlone 26 = .ok (.getfield 32, 3) := by decide +kernel
theorem dX5_levelAlone_29 : decode cX5_levelAlone 29 = .ok (.iload_n 3, 1) := by decide +kernel
theorem dX5_levelAlone_30 : decode cX5_levelAlone 30 = .ok (.invokevirtual 114, 3) := by decide +kernel
theorem dX5_levelAlone_33 : decode cX5_levelAlone 33 = .ok (.checkcast 211, 3) := by decide +kernel
theorem dX5_levelAlone_36 : decode cX5_levelAlone 36 = .ok (.iload_n 1, 1) := by decide +kernel
theorem dX5_levelAlone_37 : decode cX5_levelAlone 37 = .ok (.invokevirtual 232, 3) := by decide +kernel
theorem dX5_levelAlone_40 : decode cX5_levelAlone 40 = .ok (.iadd, 1) := by decide +kernel
theorem dX5_levelAlone_41 : decode cX5_levelAlone 41 = .ok (.istore_n 2, 1) := by decide +kernel
theorem dX5_levelAlone_42 : decode cX5_levelAlone 42 = .ok (.iinc 3 1, 3) := by decide +kernel
theorem dX5_levelAlone_45 : decode cX5_levelAlone 45 = .ok (.goto (-33), 3) := by decide +kernel
theorem dX5_levelAlone_48 : decode cX5_levelAlone 48 = .ok (.aload_n 0, 1) := by decide +kernel
theorem dX5_levelAlone_49 : decode cX5_levelAlone 49 = .ok (.iload_n 1, 1) := by decide +kernel
theorem dX5_levelAlone_50 : decode cX5_levelAlone 50 = .ok (.iload_n 2, 1) := by decide +kernel
theorem dX5_levelAlone_51 : decode cX5_levelAlone 51 = .ok (.invokevirtual 250, 3) := by decide +kernel
theorem dX5_levelAlone_54 : decode cX5_levelAlone 54 = .ok (.ireturn, 1) := by decide +kernel
set_option maxRecDepth 20000 in
theorem ggX5_channelByLevel_X5_isWithin : GoodIn wsX5_channelByLevel wsX5_isWithin := goodIn_r _ [6] (by decide +kernel) (by decide +kernel)
set_option maxRecDepth 20000 in
theorem gX5_channelByLevel_X5_isWithin : GoodIn wsX5_channelByLevel (va_wsS RX5 54 yX5_isWithin wsX5_isWithin) := goodIn_app (goodIn_of _ (by decide +kernel)) ggX5_channelByLevel_X5_isWithin
set_option maxRecDepth 20000 in
theorem ggX5_channelByLevel_X5_fillLevelRow : GoodIn wsX5_channelByLevel wsX5_fillLevelRow := goodIn_ca (goodIn_ca (goodIn_r _ [10, 11, 12, 13, 14, 15, 16, 17, 5, 18, 19, 20, 21, 22, 23, 24, 25, 26, 27, 28, 29, 30, 31, 32, 33, 34, 35, 36, 37, 38, 39, 40, 41, 42, 43, 44, 45, 46, 47, 48, 49, 50, 51, 52, 53, 54, 55, 56, 57, 58, 59, 60, 61, 62, 63, 64, 65, 66, 67, 68, 69, 70, 71, 72, 73, 74, 75, 76, 77, 78, 79, 80, 81, 82, 83, 84, 85, 86, 91, 92, 93, 94, 95, 96, 97, 98, 99, 100, 101, 102, 103, 104, 105, 106, 107, 108, 109, 110, 111, 112, 113, 114, 115, 116, 117, 118, 119, 120, 121, 122] (by decide +kernel) (by decide +kernel)) (goodIn_sub (fun _ h => List.mem_cons_of_mem _ (List.mem_append_left _ (List.mem_append_right _ h))) (by decide +kernel))) (goodIn_sub (fun _ h => List.mem_cons_of_mem _ (List.mem_append_right _ h)) (by decide +kernel))
set_option maxRecDepth 20000 in
theorem gX5_channelByLevel_X5_fillLevelRow : GoodIn wsX5_channelByLevel (wsV RX5 247 RX5 yX5_fillLevelRow wsX5_fillLevelRow) := goodIn_app (goodIn_of _ (by decide +kernel)) ggX5_channelByLevel_X5_fillLevelRow
set_option maxRecDepth 20000 in
theorem ggX5_channelByLevel_X5_rankInRow : GoodIn wsX5_channelByLevel wsX5_rankInRow := goodIn_ca (goodIn_r _ [90, 11, 91, 92, 93, 94, 95, 96, 97, 98, 99, 100, 101] (by decide +kernel) (by decide +kernel)) (goodIn_sub (fun _ h => List.mem_cons_of_mem _ (List.mem_append_left _ (List.mem_append_right _ h))) (by decide +kernel))
set_option maxRecDepth 20000 in
theorem gX5_channelByLevel_X5_rankInRow : GoodIn wsX5_channelByLevel (wsV RX5 258 RX5 yX5_rankInRow wsX5_rankInRow) := goodIn_app (goodIn_of _ (by decide +kernel)) ggX5_channelByLevel_X5_rankInRow
theorem dX5_channelByLevel_0 : decode cX5_channelByLevel 0 = .ok (.iload_n 1, 1) := by decide +kernel
theorem dX5_channelByLevel_1 : decode cX5_channelByLevel 1 = .ok (.iconst 0, 1) := by decide +kernel
theorem dX5_channelByLevel_2 : decode cX5_channelByLevel 2 = .ok (.bipush 11, 2) := by decide +kernel
theorem dX5_channelByLevel_4 : decode cX5_channelByLevel 4 = .ok (.invokestatic 54, 3) := by decide +kernel
theorem dX5_channelByLevel_7 : decode cX5_channelByLevel 7 = .ok (.ifCond .ne 13, 3) := by decide +kernel
theorem dX5_channelByLevel_10 : decode cX5_channelByLevel 10 = .ok (.new 253, 3) := by decide +kernel
theorem dX5_channelByLevel_13 : decode cX5_channelByLevel 13 = .ok (.dup, 1) := by decide +kernel
theorem dX5_channelByLevel_14 : decode cX5_channelByLevel 14 = .ok (.ldc 255, 2) := by decide +kernel
theorem dX5_channelByLevel_16 : decode cX5_channelByLevel 16 = .ok (.invokespecial 257, 3) := by decide +kernel
theorem dX5_channelByLevel_19 : decode cX5_channelByLevel 19 = .ok (.athrow, 1) := by decide +kernel
theorem dX5_channelByLevel_20 : decode cX5_channelByLevel 20 = .ok (.aload_n 0, 1) := by decide +kernel
theorem dX5_channelByLevel_21 : decode cX5_channelByLevel 21 = .ok (.invokevirtual 247, 3) := by decide +kernel
theorem dX5_channelByLevel_24 : decode cX5_channelByLevel 24 = .ok (.iconst 0, 1) := by decide +kernel
theorem dX5_channelByLevel_25 : decode cX5_channelByLevel 25 = .ok (.istore_n 2, 1) := by decide +kernel
theorem dX5_channelByLevel_26 : decode cX5_channelByLevel 26 = .ok (.iconst 0, 1) := by decide +kernel
theorem dX5_channelByLevel_27 : decode cX5_channelByLevel 27 = .ok (.istore_n 3, 1) := by decide +kernel
theorem dX5_channelByLevel_28 : decode cX5_channelByLevel 28 = .ok (.iload_n 3, 1) := by decide +kernel
theorem dX5_channelByLevel_29 : decode cX5_channelByLevel 29 = .ok (.bipush 12, 2) := by decide +kernel
theorem dX5_channelByLevel_31 : decode cX5_channelByLevel 31 = .ok (.if_icmp .ge 20, 3) := by decide +kernel
theorem dX5_channelByLevel_34 : decode cX5_channelByLevel 34 = .ok (.aload_n 0, 1) := by decide +kernel
theorem dX5_channelByLevel_35 : decode cX5_channelByLevel 35 = .ok (.iload_n 3, 1) := by decide +kernel
theorem dX5_channelByLevel_36 : decode cX5_channelByLevel 36 = .ok (.invokevirtual 258, 3) := by decide +kernel
theorem dX5_channelByLevel_39 : decode cX5_channelByLevel 39 = .ok (.iload_n 1, 1) := by decide +kernel
theorem dX5_channelByLevel_40 : decode cX5_channelByLevel 40 = .ok (.if_icmp .ne 5, 3) := by decide +kernel
theorem dX5_channelByLevel_43 : decode cX5_channelByLevel 43 = .ok (.iload_n 3, 1) := by decide +kernel
theorem dX5_channelByLevel_44 : decode cX5_channelByLevel 44 = .ok (.istore_n 2, 1) := by decide +kernel
theorem dX5_channelByLevel_45 : decode cX5_channelByLevel 45 = .ok (.iinc 3 1, 3) := by decide +kernel
theorem dX5_channelByLevel_48 : decode cX5_channelByLevel 48 = .ok (.goto (-20), 3) := by decide +kernel
theorem dX5_channelByLevel_51 : decode cX5_channelByLevel 51 = .ok (.iload_n 2, 1) := by decide +kernel
theorem dX5_channelByLevel_52 : decode cX5_channelByLevel 52 = .ok (.ireturn, 1) := by decide +kernel
theorem dX5_energy_0 : decode cX5_energy 0 = .ok (.aload_n 0, 1) := by decide +kernel
theorem dX5_energy_1 : decode cX5_energy 1 = .ok (.getfield 42, 3) := by decide +kernel
theorem dX5_energy_4 : decode cX5_energy 4 = .ok (.lreturn, 1) := by decide +kernel
set_option maxRecDepth 20000 in
theorem ggX5_litShare_X5_fillLevelRow : GoodIn wsX5_litShare wsX5_fillLevelRow := goodIn_ca (goodIn_ca (goodIn_r _ [7, 1, 8, 9, 10, 11, 12, 13, 6, 14, 15, 16, 17, 18, 19, 20, 21, 22, 23, 24, 25, 26, 27, 28, 29, 30, 31, 32, 33, 34, 35, 36, 37, 38, 39, 40, 41, 42, 43, 44, 45, 46, 47, 48, 49, 50, 51, 52, 53, 54, 55, 56, 57, 58, 59, 60, 61, 62, 63, 64, 65, 66, 67, 68, 69, 70, 71, 72, 73, 74, 75, 76, 77, 78, 79, 80, 81, 82, 83, 84, 85, 86, 87, 88, 89, 90, 91, 92, 93, 94, 95, 96, 97, 98, 99, 100, 101, 102, 103, 104, 105, 106, 107, 108, 109, 110, 111, 112, 113, 114] (by decide +kernel) (by decide +kernel)) (goodIn_sub (fun _ h => List.mem_cons_of_mem _ (List.mem_append_left _ (List.mem_append_right _ h))) (by decide +kernel))) (goodIn_sub (fun _ h => List.mem_cons_of_mem _ (List.mem_append_right _ h)) (by decide +kernel))
set_option maxRecDepth 20000 in
theorem gX5_litShare_X5_fillLevelRow : GoodIn wsX5_litShare (wsV RX5 247 RX5 yX5_fillLevelRow wsX5_fillLevelRow) := goodIn_app (goodIn_of _ (by decide +kernel)) ggX5_litShare_X5_fillLevelRow
theorem dX5_litShare_0 : decode cX5_litShare 0 = .ok (.aload_n 0, 1) := by decide +kernel
theorem dX5_litShare_1 : decode cX5_litShare 1 = .ok (.invokevirtual 247, 3) := by decide +kernel
theorem dX5_litShare_4 : decode cX5_litShare 4 = .ok (.iconst 0, 1) := by decide +kernel
theorem dX5_litShare_5 : decode cX5_litShare 5 = .ok (.istore_n 1, 1) := by decide +kernel
theorem dX5_litShare_6 : decode cX5_litShare 6 = .ok (.iconst 0, 1) := by decide +kernel
theorem dX5_litShare_7 : decode cX5_litShare 7 = .ok (.istore_n 2, 1) := by decide +kernel
theorem dX5_litShare_8 : decode cX5_litShare 8 = .ok (.iload_n 2, 1) := by decide +kernel
theorem dX5_litShare_9 : decode cX5_litShare 9 = .ok (.bipush 12, 2) := by decide +kernel
theorem dX5_litShare_11 : decode cX5_litShare 11 = .ok (.if_icmp .ge 21, 3) := by decide +kernel
theorem dX5_litShare_14 : decode cX5_litShare 14 = .ok (.aload_n 0, 1) := by decide +kernel
theorem dX5_litShare_15 : decode cX5_litShare 15 = .ok (.getfield 38, 3) := by decide +kernel
theorem dX5_litShare_18 : decode cX5_litShare 18 = .ok (.iload_n 2, 1) := by decide +kernel
theorem dX5_litShare_19 : decode cX5_litShare 19 = .ok (.iaload, 1) := by decide +kernel
theorem dX5_litShare_20 : decode cX5_litShare 20 = .ok (.ifCond .le 6, 3) := by decide +kernel
theorem dX5_litShare_23 : decode cX5_litShare 23 = .ok (.iinc 1 1, 3) := by decide +kernel
theorem dX5_litShare_26 : decode cX5_litShare 26 = .ok (.iinc 2 1, 3) := by decide +kernel
theorem dX5_litShare_29 : decode cX5_litShare 29 = .ok (.goto (-21), 3) := by decide +kernel
theorem dX5_litShare_32 : decode cX5_litShare 32 = .ok (.iload_n 1, 1) := by decide +kernel
theorem dX5_litShare_33 : decode cX5_litShare 33 = .ok (.i2f, 1) := by decide +kernel
theorem dX5_litShare_34 : decode cX5_litShare 34 = .ok (.ldc_w 261, 3) := by decide +kernel
theorem dX5_litShare_37 : decode cX5_litShare 37 = .ok (.fdiv, 1) := by decide +kernel
theorem dX5_litShare_38 : decode cX5_litShare 38 = .ok (.freturn, 1) := by decide +kernel
set_option maxRecDepth 20000 in
theorem ggX5_meanLevel_X5_fillLevelRow : GoodIn wsX5_meanLevel wsX5_fillLevelRow := goodIn_ca (goodIn_ca (goodIn_r _ [10, 5, 11, 12, 13, 14, 15, 16, 9, 17, 3, 18, 19, 20, 21, 22, 23, 24, 25, 26, 27, 28, 29, 30, 31, 32, 33, 34, 35, 36, 37, 38, 39, 40, 41, 42, 43, 44, 45, 46, 47, 48, 49, 50, 51, 52, 53, 54, 55, 56, 57, 58, 59, 60, 61, 62, 63, 64, 65, 66, 67, 68, 69, 70, 71, 72, 73, 74, 75, 76, 77, 78, 79, 4, 80, 81, 82, 83, 84, 85, 86, 87, 88, 89, 90, 91, 92, 93, 94, 104, 105, 106, 107, 108, 109, 110, 95, 96, 97, 98, 99, 100, 101, 102, 103, 111, 112, 113, 114, 115] (by decide +kernel) (by decide +kernel)) (goodIn_sub (fun _ h => List.mem_cons_of_mem _ (List.mem_append_left _ (List.mem_append_left _ (List.mem_append_right _ h)))) (by decide +kernel))) (goodIn_sub (fun _ h => List.mem_cons_of_mem _ (List.mem_append_right _ h)) (by decide +kernel))
set_option maxRecDepth 20000 in
theorem gX5_meanLevel_X5_fillLevelRow : GoodIn wsX5_meanLevel (wsV RX5 247 RX5 yX5_fillLevelRow wsX5_fillLevelRow) := goodIn_app (goodIn_of _ (by decide +kernel)) ggX5_meanLevel_X5_fillLevelRow
theorem dX5_meanLevel_0 : decode cX5_meanLevel 0 = .ok (.aload_n 0, 1) := by decide +kernel
theorem dX5_meanLevel_1 : decode cX5_meanLevel 1 = .ok (.invokevirtual 247, 3) := by decide +kernel
theorem dX5_meanLevel_4 : decode cX5_meanLevel 4 = .ok (.iconst 0, 1) := by decide +kernel
theorem dX5_meanLevel_5 : decode cX5_meanLevel 5 = .ok (.istore_n 1, 1) := by decide +kernel
theorem dX5_meanLevel_6 : decode cX5_meanLevel 6 = .ok (.iconst 0, 1) := by decide +kernel
theorem dX5_meanLevel_7 : decode cX5_meanLevel 7 = .ok (.istore_n 2, 1) := by decide +kernel
theorem dX5_meanLevel_8 : decode cX5_meanLevel 8 = .ok (.iconst 0, 1) := by decide +kernel
theorem dX5_meanLevel_9 : decode cX5_meanLevel 9 = .ok (.istore_n 3, 1) := by decide +kernel
theorem dX5_meanLevel_10 : decode cX5_meanLevel 10 = .ok (.iload_n 3, 1) := by decide +kernel
theorem dX5_meanLevel_11 : decode cX5_meanLevel 11 = .ok (.bipush 12, 2) := by decide +kernel
theorem dX5_meanLevel_13 : decode cX5_meanLevel 13 = .ok (.if_icmp .ge 34, 3) := by decide +kernel
theorem dX5_meanLevel_16 : decode cX5_meanLevel 16 = .ok (.aload_n 0, 1) := by decide +kernel
theorem dX5_meanLevel_17 : decode cX5_meanLevel 17 = .ok (.getfield 25, 3) := by decide +kernel
theorem dX5_meanLevel_20 : decode cX5_meanLevel 20 = .ok (.iload_n 3, 1) := by decide +kernel
theorem dX5_meanLevel_21 : decode cX5_meanLevel 21 = .ok (.aaload, 1) := by decide +kernel
theorem dX5_meanLevel_22 : decode cX5_meanLevel 22 = .ok (.getfield 239, 3) := by decide +kernel
theorem dX5_meanLevel_25 : decode cX5_meanLevel 25 = .ok (.iconst (-1), 1) := by decide +kernel
theorem dX5_meanLevel_26 : decode cX5_meanLevel 26 = .ok (.if_icmp .ne 15, 3) := by decide +kernel
theorem dX5_meanLevel_29 : decode cX5_meanLevel 29 = .ok (.iload_n 1, 1) := by decide +kernel
theorem dX5_meanLevel_30 : decode cX5_meanLevel 30 = .ok (.aload_n 0, 1) := by decide +kernel
theorem dX5_meanLevel_31 : decode cX5_meanLevel 31 = .ok (.getfield 38, 3) := by decide +kernel
theorem dX5_meanLevel_34 : decode cX5_meanLevel 34 = .ok (.iload_n 3, 1) := by decide +kernel
theorem dX5_meanLevel_35 : decode cX5_meanLevel 35 = .ok (.iaload, 1) := by decide +kernel
theorem dX5_meanLevel_36 : decode cX5_meanLevel 36 = .ok (.iadd, 1) := by decide +kernel
theorem dX5_meanLevel_37 : decode cX5_meanLevel 37 = .ok (.istore_n 1, 1) := by decide +kernel
theorem dX5_meanLevel_38 : decode cX5_meanLevel 38 = .ok (.iinc 2 1, 3) := by decide +kernel
theorem dX5_meanLevel_41 : decode cX5_meanLevel 41 = .ok (.iinc 3 1, 3) := by decide +kernel
theorem dX5_meanLevel_44 : decode cX5_meanLevel 44 = .ok (.goto (-34), 3) := by decide +kernel
theorem dX5_meanLevel_47 : decode cX5_meanLevel 47 = .ok (.iload_n 2, 1) := by decide +kernel
theorem dX5_meanLevel_48 : decode cX5_meanLevel 48 = .ok (.ifCond .ne 14, 3) := by decide +kernel
theorem dX5_meanLevel_51 : decode cX5_meanLevel 51 = .ok (.new 262, 3) := by decide +kernel
theorem dX5_meanLevel_54 : decode cX5_meanLevel 54 = .ok (.dup, 1) := by decide +kernel
theorem dX5_meanLevel_55 : decode cX5_meanLevel 55 = .ok (.ldc_w 264, 3) := by decide +kernel
theorem dX5_meanLevel_58 : decode cX5_meanLevel 58 = .ok (.invokespecial 266, 3) := by decide +kernel
theorem dX5_meanLevel_61 : decode cX5_meanLevel 61 = .ok (.athrow, 1) := by decide +kernel
theorem dX5_meanLevel_62 : decode cX5_meanLevel 62 = .ok (.iload_n 1, 1) := by decide +kernel
theorem dX5_meanLevel_63 : decode cX5_meanLevel 63 = .ok (.i2d, 1) := by decide +kernel
theorem dX5_meanLevel_64 : decode cX5_meanLevel 64 = .ok (.iload_n 2, 1) := by decide +kernel
theorem dX5_meanLevel_65 : decode cX5_meanLevel 65 = .ok (.i2d, 1) := by decide +kernel
theorem dX5_meanLevel_66 : decode cX5_meanLevel 66 = .ok (.ddiv, 1) := by decide +kernel
theorem dX5_meanLevel_67 : decode cX5_meanLevel 67 = .ok (.dreturn, 1) := by decide +kernel
set_option maxRecDepth 20000 in
theorem ggX5_addStep_X5_isStepCall : GoodIn wsX5_addStep wsX5_isStepCall := goodIn_r _ [12] (by decide +kernel) (by decide +kernel)
set_option maxRecDepth 20000 in
theorem gX5_addStep_X5_isStepCall : GoodIn wsX5_addStep (va_wsS RX5 267 yX5_isStepCall wsX5_isStepCall) := goodIn_app (goodIn_of _ (by decide +kernel)) ggX5_addStep_X5_isStepCall
set_option maxRecDepth 20000 in
theorem ggX5_addStep_Jx4a65c_size_8abf5 : GoodIn wsX5_addStep wsJx4a65c_size_8abf5 := goodIn_r _ [17, 18, 96, 97, 98] (by decide +kernel) (by decide +kernel)
set_option maxRecDepth 20000 in
theorem gX5_addStep_Jx4a65c_size_8abf5 : GoodIn wsX5_addStep (wsV RX5 78 RJx4a65c yJx4a65c_size_8abf5 wsJx4a65c_size_8abf5) := goodIn_app (goodIn_of _ (by decide +kernel)) ggX5_addStep_Jx4a65c_size_8abf5
set_option maxRecDepth 20000 in
theorem ggX5_addStep_X4_init : GoodIn wsX5_addStep wsX4_init := goodIn_r _ [21, 22, 23, 24, 25, 26, 27, 93, 94, 95] (by decide +kernel) (by decide +kernel)
set_option maxRecDepth 20000 in
theorem gX5_addStep_X4_init : GoodIn wsX5_addStep (wsX4_init) := ggX5_addStep_X4_init
set_option maxRecDepth 20000 in
theorem ggX5_addStep_Jx4a65c_add_9ea2d : GoodIn wsX5_addStep wsJx4a65c_add_9ea2d := goodIn_r _ [31, 32, 33, 34, 18, 35, 36, 37, 16, 38, 39, 40, 41, 42, 43, 44, 45, 46, 47, 48, 49, 50, 51, 52, 53, 54, 55, 56, 57, 58, 59, 60, 61, 62, 63, 64, 65, 66, 67, 68, 69, 70, 71, 72, 73, 74, 75, 76, 77, 78, 79, 80, 81, 96, 97, 98] (by decide +kernel) (by decide +kernel)
set_option maxRecDepth 20000 in
theorem gX5_addStep_Jx4a65c_add_9ea2d : GoodIn wsX5_addStep (wsV RX5 180 RJx4a65c yJx4a65c_add_9ea2d wsJx4a65c_add_9ea2d) := goodIn_app (goodIn_of _ (by decide +kernel)) ggX5_addStep_Jx4a65c_add_9ea2d
theorem dX5_addStep_0 : decode cX5_addStep 0 = .ok (.iload_n 1, 1) := by decide +kernel
theorem dX5_addStep_1 : decode cX5_addStep 1 = .ok (.invokestatic 267, 3) := by decide +kernel
theorem dX5_addStep_4 : decode cX5_addStep 4 = .ok (.ifCond .ne 14, 3) := by decide +kernel
theorem dX5_addStep_7 : decode cX5_addStep 7 = .ok (.new 62, 3) := by decide +kernel
theorem dX5_addStep_10 : decode cX5_addStep 10 = .ok (.dup, 1) := by decide +kernel
theorem dX5_addStep_11 : decode cX5_addStep 11 = .ok (.ldc_w 270, 3) := by decide +kernel
theorem dX5_addStep_14 : decode cX5_addStep 14 = .ok (.invokespecial 66, 3) := by decide +kernel
theorem dX5_addStep_17 : decode cX5_addStep 17 = .ok (.athrow, 1) := by decide +kernel
theorem dX5_addStep_18 : decode cX5_addStep 18 = .ok (.aload_n 0, 1) := by decide +kernel
theorem dX5_addStep_19 : decode cX5_addStep 19 = .ok (.getfield 46, 3) := by decide +kernel
theorem dX5_addStep_22 : decode cX5_addStep 22 = .ok (.invokevirtual 78, 3) := by decide +kernel
theorem dX5_addStep_25 : decode cX5_addStep 25 = .ok (.bipush 8, 2) := by decide +kernel
theorem dX5_addStep_27 : decode cX5_addStep 27 = .ok (.if_icmp .lt 14, 3) := by decide +kernel
theorem dX5_addStep_30 : decode cX5_addStep 30 = .ok (.new 82, 3) := by decide +kernel
theorem dX5_addStep_33 : decode cX5_addStep 33 = .ok (.dup, 1) := by decide +kernel
theorem dX5_addStep_34 : decode cX5_addStep 34 = .ok (.ldc_w 272, 3) := by decide +kernel
theorem dX5_addStep_37 : decode cX5_addStep 37 = .ok (.invokespecial 86, 3) := by decide +kernel
theorem dX5_addStep_40 : decode cX5_addStep 40 = .ok (.athrow, 1) := by decide +kernel
theorem dX5_addStep_41 : decode cX5_addStep 41 = .ok (.aload_n 0, 1) := by decide +kernel
theorem dX5_addStep_42 : decode cX5_addStep 42 = .ok (.getfield 46, 3) := by decide +kernel
theorem dX5_addStep_45 : decode cX5_addStep 45 = .ok (.new 274, 3) := by decide +kernel
theorem dX5_addStep_48 : decode cX5_addStep 48 = .ok (.dup, 1) := by decide +kernel
theorem dX5_addStep_49 : decode cX5_addStep 49 = .ok (.iload_n 1, 1) := by decide +kernel
theorem dX5_addStep_50 : decode cX5_addStep 50 = .ok (.iload_n 2, 1) := by decide +kernel
theorem dX5_addStep_51 : decode cX5_addStep 51 = .ok (.iload_n 3, 1) := by decide +kernel
theorem dX5_addStep_52 : decode cX5_addStep 52 = .ok (.invokespecial 276, 3) := by decide +kernel
theorem dX5_addStep_55 : decode cX5_addStep 55 = .ok (.invokevirtual 180, 3) := by decide +kernel
theorem dX5_addStep_58 : decode cX5_addStep 58 = .ok (.pop, 1) := by decide +kernel
theorem dX5_addStep_59 : decode cX5_addStep 59 = .ok (.aload_n 0, 1) := by decide +kernel
theorem dX5_addStep_60 : decode cX5_addStep 60 = .ok (.getfield 46, 3) := by decide +kernel
theorem dX5_addStep_63 : decode cX5_addStep 63 = .ok (.invokevirtual 78, 3) := by decide +kernel
theorem dX5_addStep_66 : decode cX5_addStep 66 = .ok (.ireturn, 1) := by decide +kernel
set_option maxRecDepth 20000 in
theorem ggX5_clearMacro_Jx4a65c_size_8abf5 : GoodIn wsX5_clearMacro wsJx4a65c_size_8abf5 := goodIn_r _ [6, 7, 26, 27, 28] (by decide +kernel) (by decide +kernel)
set_option maxRecDepth 20000 in
theorem gX5_clearMacro_Jx4a65c_size_8abf5 : GoodIn wsX5_clearMacro (wsV RX5 78 RJx4a65c yJx4a65c_size_8abf5 wsJx4a65c_size_8abf5) := goodIn_app (goodIn_of _ (by decide +kernel)) ggX5_clearMacro_Jx4a65c_size_8abf5
set_option maxRecDepth 20000 in
theorem ggX5_clearMacro_Jx4a65c_clear_da8c8 : GoodIn wsX5_clearMacro wsJx4a65c_clear_da8c8 := goodIn_r _ [11, 12, 13, 14, 7, 26, 27, 28] (by decide +kernel) (by decide +kernel)
set_option maxRecDepth 20000 in
theorem gX5_clearMacro_Jx4a65c_clear_da8c8 : GoodIn wsX5_clearMacro (wsV RX5 279 RJx4a65c yJx4a65c_clear_da8c8 wsJx4a65c_clear_da8c8) := goodIn_app (goodIn_of _ (by decide +kernel)) ggX5_clearMacro_Jx4a65c_clear_da8c8
theorem dX5_clearMacro_0 : decode cX5_clearMacro 0 = .ok (.aload_n 0, 1) := by decide +kernel
theorem dX5_clearMacro_1 : decode cX5_clearMacro 1 = .ok (.getfield 46, 3) := by decide +kernel
theorem dX5_clearMacro_4 : decode cX5_clearMacro 4 = .ok (.invokevirtual 78, 3) := by decide +kernel
theorem dX5_clearMacro_7 : decode cX5_clearMacro 7 = .ok (.istore_n 1, 1) := by decide +kernel
theorem dX5_clearMacro_8 : decode cX5_clearMacro 8 = .ok (.aload_n 0, 1) := by decide +kernel
theorem dX5_clearMacro_9 : decode cX5_clearMacro 9 = .ok (.getfield 46, 3) := by decide +kernel
theorem dX5_clearMacro_12 : decode cX5_clearMacro 12 = .ok (.invokevirtual 279, 3) := by decide +kernel
theorem dX5_clearMacro_15 : decode cX5_clearMacro 15 = .ok (.iload_n 1, 1) := by decide +kernel
theorem dX5_clearMacro_16 : decode cX5_clearMacro 16 = .ok (.ireturn, 1) := by decide +kernel
set_option maxRecDepth 20000 in
theorem ggX5_runMacro_Jx4a65c_size_8abf5 : GoodIn wsX5_runMacro wsJx4a65c_size_8abf5 := goodIn_r _ [8, 9, 203, 204, 205] (by decide +kernel) (by decide +kernel)
set_option maxRecDepth 20000 in
theorem gX5_runMacro_Jx4a65c_size_8abf5 : GoodIn wsX5_runMacro (wsV RX5 78 RJx4a65c yJx4a65c_size_8abf5 wsJx4a65c_size_8abf5) := goodIn_app (goodIn_of _ (by decide +kernel)) ggX5_runMacro_Jx4a65c_size_8abf5
set_option maxRecDepth 20000 in
theorem ggX5_runMacro_Jx4a65c_get_915e3 : GoodIn wsX5_runMacro wsJx4a65c_get_915e3 := goodIn_r _ [13, 9, 14, 15, 16, 17, 18, 19, 20, 21, 22, 23, 24, 7, 25, 26, 203, 204, 205] (by decide +kernel) (by decide +kernel)
set_option maxRecDepth 20000 in
theorem gX5_runMacro_Jx4a65c_get_915e3 : GoodIn wsX5_runMacro (wsV RX5 114 RJx4a65c yJx4a65c_get_915e3 wsJx4a65c_get_915e3) := goodIn_app (goodIn_of _ (by decide +kernel)) ggX5_runMacro_Jx4a65c_get_915e3
set_option maxRecDepth 20000 in
theorem ggX5_runMacro_X5_faultOf : GoodIn wsX5_runMacro wsX5_faultOf := goodIn_r _ [31, 32, 33, 34, 35, 36, 37, 30, 38, 39, 40, 41, 42, 43, 44, 45, 46, 47, 48, 49, 50, 4, 5, 6, 7, 8, 9, 10, 11, 12, 13, 14, 15, 16, 17, 18, 19, 20, 21, 22, 23, 24, 25, 26, 51, 52, 53, 54, 55, 56, 57, 58, 59, 60, 61, 62, 63, 64, 65, 66, 67, 68, 69, 70, 71, 72, 73, 74, 75, 76, 77, 78, 79, 80, 81, 82, 206, 207, 208, 192, 193, 194, 195, 196, 197, 198, 199, 200, 201, 202, 209, 210, 211, 212, 213, 203, 204, 205] (by decide +kernel) (by decide +kernel)
set_option maxRecDepth 20000 in
theorem gX5_runMacro_X5_faultOf : GoodIn wsX5_runMacro (wsV RX5 282 RX5 yX5_faultOf wsX5_faultOf) := goodIn_app (goodIn_of _ (by decide +kernel)) ggX5_runMacro_X5_faultOf
set_option maxRecDepth 20000 in
theorem ggX5_runMacro_X5_doStep : GoodIn wsX5_runMacro wsX5_doStep := goodIn_ca (goodIn_ca (goodIn_r _ [86, 32, 33, 34, 40, 41, 42, 30, 43, 44, 45, 46, 47, 48, 39, 49, 50, 4, 5, 6, 7, 8, 9, 10, 11, 12, 13, 14, 15, 16, 17, 18, 19, 20, 21, 22, 23, 24, 25, 26, 87, 88, 89, 90, 91, 92, 93, 94, 95, 96, 97, 98, 99, 100, 101, 102, 103, 104, 105, 106, 107, 108, 109, 110, 111, 55, 56, 57, 58, 112, 113, 114, 115, 67, 116, 117, 118, 119, 120, 121, 122, 123, 124, 125, 126, 127, 128, 129, 130, 131, 132, 133, 134, 135, 136, 137, 138, 139, 140, 141, 142, 143, 144, 145, 146, 147, 148, 149, 150, 151, 152, 153, 154, 155, 156, 157, 158, 159, 160, 161, 162, 163, 164, 165, 166, 167, 168, 169, 170, 171, 172, 173, 174, 175, 176, 177, 178, 179, 180, 181, 182, 183, 184, 185, 186, 187, 188, 189, 190, 191, 206, 207, 208, 192, 193, 194, 195, 196, 197, 198, 199, 200, 201, 202, 209, 210, 211, 212, 213, 203, 204, 205, 214, 215, 216, 217, 218, 219, 220, 221, 222, 223, 224, 225, 226, 227, 228, 229, 230, 231] (by decide +kernel) (by decide +kernel)) (goodIn_sub (fun _ h => List.mem_cons_of_mem _ (List.mem_append_left _ (List.mem_append_right _ h))) (by decide +kernel))) (goodIn_sub (fun _ h => List.mem_cons_of_mem _ (List.mem_append_right _ h)) (by decide +kernel))
set_option maxRecDepth 20000 in
theorem gX5_runMacro_X5_doStep : GoodIn wsX5_runMacro (wsV RX5 286 RX5 yX5_doStep wsX5_doStep) := goodIn_app (goodIn_of _ (by decide +kernel)) ggX5_runMacro_X5_doStep
theorem dX5_runMacro_0 : decode cX5_runMacro 0 = .ok (.aload_n 0, 1) := by decide +kernel
theorem dX5_runMacro_1 : decode cX5_runMacro 1 = .ok (.bipush 110, 2) := by decide +kernel
theorem dX5_runMacro_3 : decode cX5_runMacro 3 = .ok (.putfield 49, 3) := by decide +kernel
theorem dX5_runMacro_6 : decode cX5_runMacro 6 = .ok (.iconst 0, 1) := by decide +kernel
theorem dX5_runMacro_7 : decode cX5_runMacro 7 = .ok (.istore_n 1, 1) := by decide +kernel
theorem dX5_runMacro_8 : decode cX5_runMacro 8 = .ok (.iload_n 1, 1) := by decide +kernel
theorem dX5_runMacro_9 : decode cX5_runMacro 9 = .ok (.aload_n 0, 1) := by decide +kernel
theorem dX5_runMacro_10 : decode cX5_runMacro 10 = .ok (.getfield 46, 3) := by decide +kernel
theorem dX5_runMacro_13 : decode cX5_runMacro 13 = .ok (.invokevirtual 78, 3) := by decide +kernel
theorem dX5_runMacro_16 : decode cX5_runMacro 16 = .ok (.if_icmp .ge 54, 3) := by decide +kernel
theorem dX5_runMacro_19 : decode cX5_runMacro 19 = .ok (.aload_n 0, 1) := by decide +kernel
theorem dX5_runMacro_20 : decode cX5_runMacro 20 = .ok (.aload_n 0, 1) := by decide +kernel
theorem dX5_runMacro_21 : decode cX5_runMacro 21 = .ok (.aload_n 0, 1) := by decide +kernel
theorem dX5_runMacro_22 : decode cX5_runMacro 22 = .ok (.getfield 46, 3) := by decide +kernel
theorem dX5_runMacro_25 : decode cX5_runMacro 25 = .ok (.iload_n 1, 1) := by decide +kernel
theorem dX5_runMacro_26 : decode cX5_runMacro 26 = .ok (.invokevirtual 114, 3) := by decide +kernel
theorem dX5_runMacro_29 : decode cX5_runMacro 29 = .ok (.checkcast 274, 3) := by decide +kernel
theorem dX5_runMacro_32 : decode cX5_runMacro 32 = .ok (.invokevirtual 282, 3) := by decide +kernel
theorem dX5_runMacro_35 : decode cX5_runMacro 35 = .ok (.putfield 49, 3) := by decide +kernel
theorem dX5_runMacro_38 : decode cX5_runMacro 38 = .ok (.aload_n 0, 1) := by decide +kernel
theorem dX5_runMacro_39 : decode cX5_runMacro 39 = .ok (.getfield 49, 3) := by decide +kernel
theorem dX5_runMacro_42 : decode cX5_runMacro 42 = .ok (.bipush 110, 2) := by decide +kernel
theorem dX5_runMacro_44 : decode cX5_runMacro 44 = .ok (.if_icmp .eq 5, 3) := by decide +kernel
theorem dX5_runMacro_47 : decode cX5_runMacro 47 = .ok (.iload_n 1, 1) := by decide +kernel
theorem dX5_runMacro_48 : decode cX5_runMacro 48 = .ok (.ireturn, 1) := by decide +kernel
theorem dX5_runMacro_49 : decode cX5_runMacro 49 = .ok (.aload_n 0, 1) := by decide +kernel
theorem dX5_runMacro_50 : decode cX5_runMacro 50 = .ok (.aload_n 0, 1) := by decide +kernel
theorem dX5_runMacro_51 : decode cX5_runMacro 51 = .ok (.getfield 46, 3) := by decide +kernel
theorem dX5_runMacro_54 : decode cX5_runMacro 54 = .ok (.iload_n 1, 1) := by decide +kernel
theorem dX5_runMacro_55 : decode cX5_runMacro 55 = .ok (.invokevirtual 114, 3) := by decide +kernel
theorem dX5_runMacro_58 : decode cX5_runMacro 58 = .ok (.checkcast 274, 3) := by decide +kernel
theorem dX5_runMacro_61 : decode cX5_runMacro 61 = .ok (.invokevirtual 286, 3) := by decide +kernel
theorem dX5_runMacro_64 : decode cX5_runMacro 64 = .ok (.iinc 1 1, 3) := by decide +kernel
theorem dX5_runMacro_67 : decode cX5_runMacro 67 = .ok (.goto (-59), 3) := by decide +kernel
theorem dX5_runMacro_70 : decode cX5_runMacro 70 = .ok (.aload_n 0, 1) := by decide +kernel
theorem dX5_runMacro_71 : decode cX5_runMacro 71 = .ok (.getfield 46, 3) := by decide +kernel
theorem dX5_runMacro_74 : decode cX5_runMacro 74 = .ok (.invokevirtual 78, 3) := by decide +kernel
theorem dX5_runMacro_77 : decode cX5_runMacro 77 = .ok (.ireturn, 1) := by decide +kernel
theorem dX5_macroFault_0 : decode cX5_macroFault 0 = .ok (.aload_n 0, 1) := by decide +kernel
theorem dX5_macroFault_1 : decode cX5_macroFault 1 = .ok (.getfield 49, 3) := by decide +kernel
theorem dX5_macroFault_4 : decode cX5_macroFault 4 = .ok (.bipush 32, 2) := by decide +kernel
theorem dX5_macroFault_6 : decode cX5_macroFault 6 = .ok (.if_icmp .ne 14, 3) := by decide +kernel
theorem dX5_macroFault_9 : decode cX5_macroFault 9 = .ok (.new 120, 3) := by decide +kernel
theorem dX5_macroFault_12 : decode cX5_macroFault 12 = .ok (.dup, 1) := by decide +kernel
theorem dX5_macroFault_13 : decode cX5_macroFault 13 = .ok (.ldc_w 290, 3) := by decide +kernel
theorem dX5_macroFault_16 : decode cX5_macroFault 16 = .ok (.invokespecial 124, 3) := by decide +kernel
theorem dX5_macroFault_19 : decode cX5_macroFault 19 = .ok (.athrow, 1) := by decide +kernel
theorem dX5_macroFault_20 : decode cX5_macroFault 20 = .ok (.aload_n 0, 1) := by decide +kernel
theorem dX5_macroFault_21 : decode cX5_macroFault 21 = .ok (.getfield 49, 3) := by decide +kernel
theorem dX5_macroFault_24 : decode cX5_macroFault 24 = .ok (.ireturn, 1) := by decide +kernel
theorem dX5_isWithin_0 : decode cX5_isWithin 0 = .ok (.iload_n 0, 1) := by decide +kernel
theorem dX5_isWithin_1 : decode cX5_isWithin 1 = .ok (.iload_n 1, 1) := by decide +kernel
theorem dX5_isWithin_2 : decode cX5_isWithin 2 = .ok (.if_icmp .lt 12, 3) := by decide +kernel
theorem dX5_isWithin_5 : decode cX5_isWithin 5 = .ok (.iload_n 0, 1) := by decide +kernel
theorem dX5_isWithin_6 : decode cX5_isWithin 6 = .ok (.iload_n 2, 1) := by decide +kernel
theorem dX5_isWithin_7 : decode cX5_isWithin 7 = .ok (.if_icmp .gt 7, 3) := by decide +kernel
theorem dX5_isWithin_10 : decode cX5_isWithin 10 = .ok (.iconst 1, 1) := by decide +kernel
theorem dX5_isWithin_11 : decode cX5_isWithin 11 = .ok (.goto 4, 3) := by decide +kernel
theorem dX5_isWithin_14 : decode cX5_isWithin 14 = .ok (.iconst 0, 1) := by decide +kernel
theorem dX5_isWithin_15 : decode cX5_isWithin 15 = .ok (.ireturn, 1) := by decide +kernel
set_option maxRecDepth 20000 in
theorem ggX5_isChannel_X5_isWithin : GoodIn wsX5_isChannel wsX5_isWithin := goodIn_r _ [4] (by decide +kernel) (by decide +kernel)
set_option maxRecDepth 20000 in
theorem gX5_isChannel_X5_isWithin : GoodIn wsX5_isChannel (va_wsS RX5 54 yX5_isWithin wsX5_isWithin) := goodIn_app (goodIn_of _ (by decide +kernel)) ggX5_isChannel_X5_isWithin
theorem dX5_isChannel_0 : decode cX5_isChannel 0 = .ok (.iload_n 0, 1) := by decide +kernel
theorem dX5_isChannel_1 : decode cX5_isChannel 1 = .ok (.iconst 0, 1) := by decide +kernel
theorem dX5_isChannel_2 : decode cX5_isChannel 2 = .ok (.bipush 11, 2) := by decide +kernel
theorem dX5_isChannel_4 : decode cX5_isChannel 4 = .ok (.invokestatic 54, 3) := by decide +kernel
theorem dX5_isChannel_7 : decode cX5_isChannel 7 = .ok (.ireturn, 1) := by decide +kernel
set_option maxRecDepth 20000 in
theorem ggX5_isLevel_X5_isWithin : GoodIn wsX5_isLevel wsX5_isWithin := goodIn_r _ [4] (by decide +kernel) (by decide +kernel)
set_option maxRecDepth 20000 in
theorem gX5_isLevel_X5_isWithin : GoodIn wsX5_isLevel (va_wsS RX5 54 yX5_isWithin wsX5_isWithin) := goodIn_app (goodIn_of _ (by decide +kernel)) ggX5_isLevel_X5_isWithin
theorem dX5_isLevel_0 : decode cX5_isLevel 0 = .ok (.iload_n 0, 1) := by decide +kernel
theorem dX5_isLevel_1 : decode cX5_isLevel 1 = .ok (.iconst 0, 1) := by decide +kernel
theorem dX5_isLevel_2 : decode cX5_isLevel 2 = .ok (.sipush 255, 3) := by decide +kernel
theorem dX5_isLevel_5 : decode cX5_isLevel 5 = .ok (.invokestatic 54, 3) := by decide +kernel
theorem dX5_isLevel_8 : decode cX5_isLevel 8 = .ok (.ireturn, 1) := by decide +kernel
set_option maxRecDepth 20000 in
theorem ggX5_isPassing_X5_isWithin : GoodIn wsX5_isPassing wsX5_isWithin := goodIn_r _ [4] (by decide +kernel) (by decide +kernel)
set_option maxRecDepth 20000 in
theorem gX5_isPassing_X5_isWithin : GoodIn wsX5_isPassing (va_wsS RX5 54 yX5_isWithin wsX5_isWithin) := goodIn_app (goodIn_of _ (by decide +kernel)) ggX5_isPassing_X5_isWithin
theorem dX5_isPassing_0 : decode cX5_isPassing 0 = .ok (.iload_n 0, 1) := by decide +kernel
theorem dX5_isPassing_1 : decode cX5_isPassing 1 = .ok (.iconst 1, 1) := by decide +kernel
theorem dX5_isPassing_2 : decode cX5_isPassing 2 = .ok (.bipush 100, 2) := by decide +kernel
theorem dX5_isPassing_4 : decode cX5_isPassing 4 = .ok (.invokestatic 54, 3) := by decide +kernel
theorem dX5_isPassing_7 : decode cX5_isPassing 7 = .ok (.ireturn, 1) := by decide +kernel
theorem dX5_isCurve_0 : decode cX5_isCurve 0 = .ok (.iload_n 0, 1) := by decide +kernel
theorem dX5_isCurve_1 : decode cX5_isCurve 1 = .ok (.bipush 108, 2) := by decide +kernel
theorem dX5_isCurve_3 : decode cX5_isCurve 3 = .ok (.if_icmp .eq 15, 3) := by decide +kernel
theorem dX5_isCurve_6 : decode cX5_isCurve 6 = .ok (.iload_n 0, 1) := by decide +kernel
theorem dX5_isCurve_7 : decode cX5_isCurve 7 = .ok (.bipush 113, 2) := by decide +kernel
theorem dX5_isCurve_9 : decode cX5_isCurve 9 = .ok (.if_icmp .eq 9, 3) := by decide +kernel
theorem dX5_isCurve_12 : decode cX5_isCurve 12 = .ok (.iload_n 0, 1) := by decide +kernel
theorem dX5_isCurve_13 : decode cX5_isCurve 13 = .ok (.bipush 115, 2) := by decide +kernel
theorem dX5_isCurve_15 : decode cX5_isCurve 15 = .ok (.if_icmp .ne 7, 3) := by decide +kernel
theorem dX5_isCurve_18 : decode cX5_isCurve 18 = .ok (.iconst 1, 1) := by decide +kernel
theorem dX5_isCurve_19 : decode cX5_isCurve 19 = .ok (.goto 4, 3) := by decide +kernel
theorem dX5_isCurve_22 : decode cX5_isCurve 22 = .ok (.iconst 0, 1) := by decide +kernel
theorem dX5_isCurve_23 : decode cX5_isCurve 23 = .ok (.ireturn, 1) := by decide +kernel
theorem dX5_isShape_0 : decode cX5_isShape 0 = .ok (.iload_n 0, 1) := by decide +kernel
theorem dX5_isShape_1 : decode cX5_isShape 1 = .ok (.bipush 119, 2) := by decide +kernel
theorem dX5_isShape_3 : decode cX5_isShape 3 = .ok (.if_icmp .eq 15, 3) := by decide +kernel
theorem dX5_isShape_6 : decode cX5_isShape 6 = .ok (.iload_n 0, 1) := by decide +kernel
theorem dX5_isShape_7 : decode cX5_isShape 7 = .ok (.bipush 116, 2) := by decide +kernel
theorem dX5_isShape_9 : decode cX5_isShape 9 = .ok (.if_icmp .eq 9, 3) := by decide +kernel
theorem dX5_isShape_12 : decode cX5_isShape 12 = .ok (.iload_n 0, 1) := by decide +kernel
theorem dX5_isShape_13 : decode cX5_isShape 13 = .ok (.bipush 113, 2) := by decide +kernel
theorem dX5_isShape_15 : decode cX5_isShape 15 = .ok (.if_icmp .ne 7, 3) := by decide +kernel
theorem dX5_isShape_18 : decode cX5_isShape 18 = .ok (.iconst 1, 1) := by decide +kernel
theorem dX5_isShape_19 : decode cX5_isShape 19 = .ok (.goto 4, 3) := by decide +kernel
theorem dX5_isShape_22 : decode cX5_isShape 22 = .ok (.iconst 0, 1) := by decide +kernel
theorem dX5_isShape_23 : decode cX5_isShape 23 = .ok (.ireturn, 1) := by decide +kernel
theorem dX5_isStepCall_0 : decode cX5_isStepCall 0 = .ok (.iload_n 0, 1) := by decide +kernel
theorem dX5_isStepCall_1 : decode cX5_isStepCall 1 = .ok (.bipush 103, 2) := by decide +kernel
theorem dX5_isStepCall_3 : decode cX5_isStepCall 3 = .ok (.if_icmp .eq 39, 3) := by decide +kernel
theorem dX5_isStepCall_6 : decode cX5_isStepCall 6 = .ok (.iload_n 0, 1) := by decide +kernel
theorem dX5_isStepCall_7 : decode cX5_isStepCall 7 = .ok (.bipush 98, 2) := by decide +kernel
theorem dX5_isStepCall_9 : decode cX5_isStepCall 9 = .ok (.if_icmp .eq 33, 3) := by decide +kernel
theorem dX5_isStepCall_12 : decode cX5_isStepCall 12 = .ok (.iload_n 0, 1) := by decide +kernel
theorem dX5_isStepCall_13 : decode cX5_isStepCall 13 = .ok (.bipush 116, 2) := by decide +kernel
theorem dX5_isStepCall_15 : decode cX5_isStepCall 15 = .ok (.if_icmp .eq 27, 3) := by decide +kernel
theorem dX5_isStepCall_18 : decode cX5_isStepCall 18 = .ok (.iload_n 0, 1) := by decide +kernel
theorem dX5_isStepCall_19 : decode cX5_isStepCall 19 = .ok (.bipush 102, 2) := by decide +kernel
theorem dX5_isStepCall_21 : decode cX5_isStepCall 21 = .ok (.if_icmp .eq 21, 3) := by decide +kernel
theorem dX5_isStepCall_24 : decode cX5_isStepCall 24 = .ok (.iload_n 0, 1) := by decide +kernel
theorem dX5_isStepCall_25 : decode cX5_isStepCall 25 = .ok (.bipush 109, 2) := by decide +kernel
theorem dX5_isStepCall_27 : decode cX5_isStepCall 27 = .ok (.if_icmp .eq 15, 3) := by decide +kernel
theorem dX5_isStepCall_30 : decode cX5_isStepCall 30 = .ok (.iload_n 0, 1) := by decide +kernel
theorem dX5_isStepCall_31 : decode cX5_isStepCall 31 = .ok (.bipush 112, 2) := by decide +kernel
theorem dX5_isStepCall_33 : decode cX5_isStepCall 33 = .ok (.if_icmp .eq 9, 3) := by decide +kernel
theorem dX5_isStepCall_36 : decode cX5_isStepCall 36 = .ok (.iload_n 0, 1) := by decide +kernel
theorem dX5_isStepCall_37 : decode cX5_isStepCall 37 = .ok (.bipush 119, 2) := by decide +kernel
theorem dX5_isStepCall_39 : decode cX5_isStepCall 39 = .ok (.if_icmp .ne 7, 3) := by decide +kernel
theorem dX5_isStepCall_42 : decode cX5_isStepCall 42 = .ok (.iconst 1, 1) := by decide +kernel
theorem dX5_isStepCall_43 : decode cX5_isStepCall 43 = .ok (.goto 4, 3) := by decide +kernel
theorem dX5_isStepCall_46 : decode cX5_isStepCall 46 = .ok (.iconst 0, 1) := by decide +kernel
theorem dX5_isStepCall_47 : decode cX5_isStepCall 47 = .ok (.ireturn, 1) := by decide +kernel
set_option maxRecDepth 20000 in
theorem ggX5_isGroup_Jx4a65c_size_8abf5 : GoodIn wsX5_isGroup wsJx4a65c_size_8abf5 := goodIn_r _ [6, 7, 23, 24, 25] (by decide +kernel) (by decide +kernel)
set_option maxRecDepth 20000 in
theorem gX5_isGroup_Jx4a65c_size_8abf5 : GoodIn wsX5_isGroup (wsV RX5 78 RJx4a65c yJx4a65c_size_8abf5 wsJx4a65c_size_8abf5) := goodIn_app (goodIn_of _ (by decide +kernel)) ggX5_isGroup_Jx4a65c_size_8abf5
set_option maxRecDepth 20000 in
theorem ggX5_isGroup_X5_isWithin : GoodIn wsX5_isGroup wsX5_isWithin := goodIn_r _ [11] (by decide +kernel) (by decide +kernel)
set_option maxRecDepth 20000 in
theorem gX5_isGroup_X5_isWithin : GoodIn wsX5_isGroup (va_wsS RX5 54 yX5_isWithin wsX5_isWithin) := goodIn_app (goodIn_of _ (by decide +kernel)) ggX5_isGroup_X5_isWithin
theorem dX5_isGroup_0 : decode cX5_isGroup 0 = .ok (.iload_n 1, 1) := by decide +kernel
theorem dX5_isGroup_1 : decode cX5_isGroup 1 = .ok (.iconst 0, 1) := by decide +kernel
theorem dX5_isGroup_2 : decode cX5_isGroup 2 = .ok (.aload_n 0, 1) := by decide +kernel
theorem dX5_isGroup_3 : decode cX5_isGroup 3 = .ok (.getfield 29, 3) := by decide +kernel
theorem dX5_isGroup_6 : decode cX5_isGroup 6 = .ok (.invokevirtual 78, 3) := by decide +kernel
theorem dX5_isGroup_9 : decode cX5_isGroup 9 = .ok (.iconst 1, 1) := by decide +kernel
theorem dX5_isGroup_10 : decode cX5_isGroup 10 = .ok (.isub, 1) := by decide +kernel
theorem dX5_isGroup_11 : decode cX5_isGroup 11 = .ok (.invokestatic 54, 3) := by decide +kernel
theorem dX5_isGroup_14 : decode cX5_isGroup 14 = .ok (.ireturn, 1) := by decide +kernel
set_option maxRecDepth 20000 in
theorem ggX5_requireChannel_X5_isChannel : GoodIn wsX5_requireChannel wsX5_isChannel := goodIn_r _ [6, 7, 8, 5, 9] (by decide +kernel) (by decide +kernel)
set_option maxRecDepth 20000 in
theorem gX5_requireChannel_X5_isChannel : GoodIn wsX5_requireChannel (va_wsS RX5 292 yX5_isChannel wsX5_isChannel) := goodIn_app (goodIn_of _ (by decide +kernel)) ggX5_requireChannel_X5_isChannel
theorem dX5_requireChannel_0 : decode cX5_requireChannel 0 = .ok (.iload_n 0, 1) := by decide +kernel
theorem dX5_requireChannel_1 : decode cX5_requireChannel 1 = .ok (.invokestatic 292, 3) := by decide +kernel
theorem dX5_requireChannel_4 : decode cX5_requireChannel 4 = .ok (.ifCond .ne 14, 3) := by decide +kernel
theorem dX5_requireChannel_7 : decode cX5_requireChannel 7 = .ok (.new 253, 3) := by decide +kernel
theorem dX5_requireChannel_10 : decode cX5_requireChannel 10 = .ok (.dup, 1) := by decide +kernel
theorem dX5_requireChannel_11 : decode cX5_requireChannel 11 = .ok (.ldc_w 295, 3) := by decide +kernel
theorem dX5_requireChannel_14 : decode cX5_requireChannel 14 = .ok (.invokespecial 257, 3) := by decide +kernel
theorem dX5_requireChannel_17 : decode cX5_requireChannel 17 = .ok (.athrow, 1) := by decide +kernel
theorem dX5_requireChannel_18 : decode cX5_requireChannel 18 = .ok (.return_, 1) := by decide +kernel
set_option maxRecDepth 20000 in
theorem ggX5_requireLevel_X5_isLevel : GoodIn wsX5_requireLevel wsX5_isLevel := goodIn_r _ [6, 7, 8, 5, 9] (by decide +kernel) (by decide +kernel)
set_option maxRecDepth 20000 in
theorem gX5_requireLevel_X5_isLevel : GoodIn wsX5_requireLevel (va_wsS RX5 297 yX5_isLevel wsX5_isLevel) := goodIn_app (goodIn_of _ (by decide +kernel)) ggX5_requireLevel_X5_isLevel
theorem dX5_requireLevel_0 : decode cX5_requireLevel 0 = .ok (.iload_n 0, 1) := by decide +kernel
theorem dX5_requireLevel_1 : decode cX5_requireLevel 1 = .ok (.invokestatic 297, 3) := by decide +kernel
theorem dX5_requireLevel_4 : decode cX5_requireLevel 4 = .ok (.ifCond .ne 14, 3) := by decide +kernel
theorem dX5_requireLevel_7 : decode cX5_requireLevel 7 = .ok (.new 62, 3) := by decide +kernel
theorem dX5_requireLevel_10 : decode cX5_requireLevel 10 = .ok (.dup, 1) := by decide +kernel
theorem dX5_requireLevel_11 : decode cX5_requireLevel 11 = .ok (.ldc_w 300, 3) := by decide +kernel
theorem dX5_requireLevel_14 : decode cX5_requireLevel 14 = .ok (.invokespecial 66, 3) := by decide +kernel
theorem dX5_requireLevel_17 : decode cX5_requireLevel 17 = .ok (.athrow, 1) := by decide +kernel
theorem dX5_requireLevel_18 : decode cX5_requireLevel 18 = .ok (.return_, 1) := by decide +kernel
set_option maxRecDepth 20000 in
theorem ggX5_requireGroup_X5_isGroup : GoodIn wsX5_requireGroup wsX5_isGroup := goodIn_r _ [7, 8, 9, 10, 11, 12, 13, 14, 15, 16, 6, 17, 18, 19, 20, 21, 22, 23, 24, 25, 26, 27, 28, 29, 30, 31] (by decide +kernel) (by decide +kernel)
set_option maxRecDepth 20000 in
theorem gX5_requireGroup_X5_isGroup : GoodIn wsX5_requireGroup (wsV RX5 302 RX5 yX5_isGroup wsX5_isGroup) := goodIn_app (goodIn_of _ (by decide +kernel)) ggX5_requireGroup_X5_isGroup
theorem dX5_requireGroup_0 : decode cX5_requireGroup 0 = .ok (.aload_n 0, 1) := by decide +kernel
theorem dX5_requireGroup_1 : decode cX5_requireGroup 1 = .ok (.iload_n 1, 1) := by decide +kernel
theorem dX5_requireGroup_2 : decode cX5_requireGroup 2 = .ok (.invokevirtual 302, 3) := by decide +kernel
theorem dX5_requireGroup_5 : decode cX5_requireGroup 5 = .ok (.ifCond .ne 14, 3) := by decide +kernel
theorem dX5_requireGroup_8 : decode cX5_requireGroup 8 = .ok (.new 253, 3) := by decide +kernel
theorem dX5_requireGroup_11 : decode cX5_requireGroup 11 = .ok (.dup, 1) := by decide +kernel
theorem dX5_requireGroup_12 : decode cX5_requireGroup 12 = .ok (.ldc_w 305, 3) := by decide +kernel
theorem dX5_requireGroup_15 : decode cX5_requireGroup 15 = .ok (.invokespecial 257, 3) := by decide +kernel
theorem dX5_requireGroup_18 : decode cX5_requireGroup 18 = .ok (.athrow, 1) := by decide +kernel
theorem dX5_requireGroup_19 : decode cX5_requireGroup 19 = .ok (.return_, 1) := by decide +kernel
set_option maxRecDepth 20000 in
theorem ggX5_requireEffect_Jx4a65c_size_8abf5 : GoodIn wsX5_requireEffect wsJx4a65c_size_8abf5 := goodIn_r _ [8, 9, 25, 26, 27] (by decide +kernel) (by decide +kernel)
set_option maxRecDepth 20000 in
theorem gX5_requireEffect_Jx4a65c_size_8abf5 : GoodIn wsX5_requireEffect (wsV RX5 78 RJx4a65c yJx4a65c_size_8abf5 wsJx4a65c_size_8abf5) := goodIn_app (goodIn_of _ (by decide +kernel)) ggX5_requireEffect_Jx4a65c_size_8abf5
set_option maxRecDepth 20000 in
theorem ggX5_requireEffect_X5_isWithin : GoodIn wsX5_requireEffect wsX5_isWithin := goodIn_r _ [13] (by decide +kernel) (by decide +kernel)
set_option maxRecDepth 20000 in
theorem gX5_requireEffect_X5_isWithin : GoodIn wsX5_requireEffect (va_wsS RX5 54 yX5_isWithin wsX5_isWithin) := goodIn_app (goodIn_of _ (by decide +kernel)) ggX5_requireEffect_X5_isWithin
theorem dX5_requireEffect_0 : decode cX5_requireEffect 0 = .ok (.iload_n 1, 1) := by decide +kernel
theorem dX5_requireEffect_1 : decode cX5_requireEffect 1 = .ok (.iconst 0, 1) := by decide +kernel
theorem dX5_requireEffect_2 : decode cX5_requireEffect 2 = .ok (.aload_n 0, 1) := by decide +kernel
theorem dX5_requireEffect_3 : decode cX5_requireEffect 3 = .ok (.getfield 32, 3) := by decide +kernel
theorem dX5_requireEffect_6 : decode cX5_requireEffect 6 = .ok (.invokevirtual 78, 3) := by decide +kernel
theorem dX5_requireEffect_9 : decode cX5_requireEffect 9 = .ok (.iconst 1, 1) := by decide +kernel
theorem dX5_requireEffect_10 : decode cX5_requireEffect 10 = .ok (.isub, 1) := by decide +kernel
theorem dX5_requireEffect_11 : decode cX5_requireEffect 11 = .ok (.invokestatic 54, 3) := by decide +kernel
theorem dX5_requireEffect_14 : decode cX5_requireEffect 14 = .ok (.ifCond .ne 14, 3) := by decide +kernel
theorem dX5_requireEffect_17 : decode cX5_requireEffect 17 = .ok (.new 253, 3) := by decide +kernel
theorem dX5_requireEffect_20 : decode cX5_requireEffect 20 = .ok (.dup, 1) := by decide +kernel
theorem dX5_requireEffect_21 : decode cX5_requireEffect 21 = .ok (.ldc_w 307, 3) := by decide +kernel
theorem dX5_requireEffect_24 : decode cX5_requireEffect 24 = .ok (.invokespecial 257, 3) := by decide +kernel
theorem dX5_requireEffect_27 : decode cX5_requireEffect 27 = .ok (.athrow, 1) := by decide +kernel
theorem dX5_requireEffect_28 : decode cX5_requireEffect 28 = .ok (.return_, 1) := by decide +kernel
set_option maxRecDepth 20000 in
theorem ggX5_requireCue_X5_hasCue : GoodIn wsX5_requireCue wsX5_hasCue := goodIn_r _ [7, 8, 9, 10, 11, 12, 13, 6, 14, 15, 16, 17, 18, 19, 20, 21, 22, 23, 24, 25, 26, 27, 28, 29, 30, 31, 32, 33, 34, 35, 36, 37, 38, 39, 40, 41, 42, 43, 44, 45, 46, 47, 48, 49, 50, 51, 52, 53, 54, 55, 56] (by decide +kernel) (by decide +kernel)
set_option maxRecDepth 20000 in
theorem gX5_requireCue_X5_hasCue : GoodIn wsX5_requireCue (wsV RX5 69 RX5 yX5_hasCue wsX5_hasCue) := goodIn_app (goodIn_of _ (by decide +kernel)) ggX5_requireCue_X5_hasCue
set_option maxRecDepth 20000 in
theorem ggX5_requireCue_X5_placeOf : GoodIn wsX5_requireCue wsX5_placeOf := goodIn_r _ [14, 8, 9, 10, 15, 16, 17, 18, 19, 20, 21, 22, 23, 24, 25, 26, 27, 28, 29, 30, 31, 32, 33, 34, 35, 36, 37, 38, 39, 40, 41, 42, 43, 44, 45, 46, 47, 48, 49, 50, 51, 52, 53, 54, 55, 56] (by decide +kernel) (by decide +kernel)
set_option maxRecDepth 20000 in
theorem gX5_requireCue_X5_placeOf : GoodIn wsX5_requireCue (wsV RX5 87 RX5 yX5_placeOf wsX5_placeOf) := goodIn_app (goodIn_of _ (by decide +kernel)) ggX5_requireCue_X5_placeOf
theorem dX5_requireCue_0 : decode cX5_requireCue 0 = .ok (.aload_n 0, 1) := by decide +kernel
theorem dX5_requireCue_1 : decode cX5_requireCue 1 = .ok (.iload_n 1, 1) := by decide +kernel
theorem dX5_requireCue_2 : decode cX5_requireCue 2 = .ok (.invokevirtual 69, 3) := by decide +kernel
theorem dX5_requireCue_5 : decode cX5_requireCue 5 = .ok (.ifCond .ne 14, 3) := by decide +kernel
theorem dX5_requireCue_8 : decode cX5_requireCue 8 = .ok (.new 120, 3) := by decide +kernel
theorem dX5_requireCue_11 : decode cX5_requireCue 11 = .ok (.dup, 1) := by decide +kernel
theorem dX5_requireCue_12 : decode cX5_requireCue 12 = .ok (.ldc_w 309, 3) := by decide +kernel
theorem dX5_requireCue_15 : decode cX5_requireCue 15 = .ok (.invokespecial 124, 3) := by decide +kernel
theorem dX5_requireCue_18 : decode cX5_requireCue 18 = .ok (.athrow, 1) := by decide +kernel
theorem dX5_requireCue_19 : decode cX5_requireCue 19 = .ok (.aload_n 0, 1) := by decide +kernel
theorem dX5_requireCue_20 : decode cX5_requireCue 20 = .ok (.iload_n 1, 1) := by decide +kernel
theorem dX5_requireCue_21 : decode cX5_requireCue 21 = .ok (.invokevirtual 87, 3) := by decide +kernel
theorem dX5_requireCue_24 : decode cX5_requireCue 24 = .ok (.ireturn, 1) := by decide +kernel
set_option maxRecDepth 20000 in
theorem ggX5_placeOf_Jx4a65c_size_8abf5 : GoodIn wsX5_placeOf wsJx4a65c_size_8abf5 := goodIn_r _ [8, 9, 43, 44, 45] (by decide +kernel) (by decide +kernel)
set_option maxRecDepth 20000 in
theorem gX5_placeOf_Jx4a65c_size_8abf5 : GoodIn wsX5_placeOf (wsV RX5 78 RJx4a65c yJx4a65c_size_8abf5 wsJx4a65c_size_8abf5) := goodIn_app (goodIn_of _ (by decide +kernel)) ggX5_placeOf_Jx4a65c_size_8abf5
set_option maxRecDepth 20000 in
theorem ggX5_placeOf_Jx4a65c_get_915e3 : GoodIn wsX5_placeOf wsJx4a65c_get_915e3 := goodIn_r _ [13, 9, 14, 15, 16, 17, 18, 19, 20, 21, 22, 23, 24, 7, 25, 26, 43, 44, 45] (by decide +kernel) (by decide +kernel)
set_option maxRecDepth 20000 in
theorem gX5_placeOf_Jx4a65c_get_915e3 : GoodIn wsX5_placeOf (wsV RX5 114 RJx4a65c yJx4a65c_get_915e3 wsJx4a65c_get_915e3) := goodIn_app (goodIn_of _ (by decide +kernel)) ggX5_placeOf_Jx4a65c_get_915e3
theorem dX5_placeOf_0 : decode cX5_placeOf 0 = .ok (.iconst 0, 1) := by decide +kernel
theorem dX5_placeOf_1 : decode cX5_placeOf 1 = .ok (.istore_n 2, 1) := by decide +kernel
theorem dX5_placeOf_2 : decode cX5_placeOf 2 = .ok (.iload_n 2, 1) := by decide +kernel
theorem dX5_placeOf_3 : decode cX5_placeOf 3 = .ok (.aload_n 0, 1) := by decide +kernel
theorem dX5_placeOf_4 : decode cX5_placeOf 4 = .ok (.getfield 10, 3) := by decide +kernel
theorem dX5_placeOf_7 : decode cX5_placeOf 7 = .ok (.invokevirtual 78, 3) := by decide +kernel
theorem dX5_placeOf_10 : decode cX5_placeOf 10 = .ok (.if_icmp .ge 27, 3) := by decide +kernel
theorem dX5_placeOf_13 : decode cX5_placeOf 13 = .ok (.aload_n 0, 1) := by decide +kernel
theorem dX5_placeOf_14 : decode cX5_placeOf 14 = .ok (.getfield 10, 3) := by decide +kernel
theorem dX5_placeOf_17 : decode cX5_placeOf 17 = .ok (.iload_n 2, 1) := by decide +kernel
theorem dX5_placeOf_18 : decode cX5_placeOf 18 = .ok (.invokevirtual 114, 3) := by decide +kernel
theorem dX5_placeOf_21 : decode cX5_placeOf 21 = .ok (.checkcast 91, 3) := by decide +kernel
theorem dX5_placeOf_24 : decode cX5_placeOf 24 = .ok (.getfield 311, 3) := by decide +kernel
theorem dX5_placeOf_27 : decode cX5_placeOf 27 = .ok (.iload_n 1, 1) := by decide +kernel
theorem dX5_placeOf_28 : decode cX5_placeOf 28 = .ok (.if_icmp .ge 9, 3) := by decide +kernel
theorem dX5_placeOf_31 : decode cX5_placeOf 31 = .ok (.iinc 2 1, 3) := by decide +kernel
theorem dX5_placeOf_34 : decode cX5_placeOf 34 = .ok (.goto (-32), 3) := by decide +kernel
theorem dX5_placeOf_37 : decode cX5_placeOf 37 = .ok (.iload_n 2, 1) := by decide +kernel
theorem dX5_placeOf_38 : decode cX5_placeOf 38 = .ok (.ireturn, 1) := by decide +kernel
set_option maxRecDepth 20000 in
theorem ggX5_hasCue_X5_placeOf : GoodIn wsX5_hasCue wsX5_placeOf := goodIn_r _ [8, 1, 2, 3, 9, 10, 11, 12, 13, 14, 15, 16, 17, 18, 19, 20, 21, 22, 23, 24, 25, 26, 27, 28, 29, 30, 31, 32, 33, 34, 35, 36, 37, 38, 39, 40, 41, 42, 43, 44, 45, 46, 47, 48, 49, 50] (by decide +kernel) (by decide +kernel)
set_option maxRecDepth 20000 in
theorem gX5_hasCue_X5_placeOf : GoodIn wsX5_hasCue (wsV RX5 87 RX5 yX5_placeOf wsX5_placeOf) := goodIn_app (goodIn_of _ (by decide +kernel)) ggX5_hasCue_X5_placeOf
set_option maxRecDepth 20000 in
theorem ggX5_hasCue_Jx4a65c_size_8abf5 : GoodIn wsX5_hasCue wsJx4a65c_size_8abf5 := goodIn_r _ [13, 14, 48, 49, 50] (by decide +kernel) (by decide +kernel)
set_option maxRecDepth 20000 in
theorem gX5_hasCue_Jx4a65c_size_8abf5 : GoodIn wsX5_hasCue (wsV RX5 78 RJx4a65c yJx4a65c_size_8abf5 wsJx4a65c_size_8abf5) := goodIn_app (goodIn_of _ (by decide +kernel)) ggX5_hasCue_Jx4a65c_size_8abf5
set_option maxRecDepth 20000 in
theorem ggX5_hasCue_Jx4a65c_get_915e3 : GoodIn wsX5_hasCue wsJx4a65c_get_915e3 := goodIn_r _ [18, 14, 19, 20, 21, 22, 23, 24, 25, 26, 27, 28, 29, 12, 30, 31, 48, 49, 50] (by decide +kernel) (by decide +kernel)
set_option maxRecDepth 20000 in
theorem gX5_hasCue_Jx4a65c_get_915e3 : GoodIn wsX5_hasCue (wsV RX5 114 RJx4a65c yJx4a65c_get_915e3 wsJx4a65c_get_915e3) := goodIn_app (goodIn_of _ (by decide +kernel)) ggX5_hasCue_Jx4a65c_get_915e3
theorem dX5_hasCue_0 : decode cX5_hasCue 0 = .ok (.aload_n 0, 1) := by decide +kernel
theorem dX5_hasCue_1 : decode cX5_hasCue 1 = .ok (.iload_n 1, 1) := by decide +kernel
theorem dX5_hasCue_2 : decode cX5_hasCue 2 = .ok (.invokevirtual 87, 3) := by decide +kernel
theorem dX5_hasCue_5 : decode cX5_hasCue 5 = .ok (.istore_n 2, 1) := by decide +kernel
theorem dX5_hasCue_6 : decode cX5_hasCue 6 = .ok (.iload_n 2, 1) := by decide +kernel
theorem dX5_hasCue_7 : decode cX5_hasCue 7 = .ok (.aload_n 0, 1) := by decide +kernel
theorem dX5_hasCue_8 : decode cX5_hasCue 8 = .ok (.getfield 10, 3) := by decide +kernel
theorem dX5_hasCue_11 : decode cX5_hasCue 11 = .ok (.invokevirtual 78, 3) := by decide +kernel
theorem dX5_hasCue_14 : decode cX5_hasCue 14 = .ok (.if_icmp .ge 25, 3) := by decide +kernel
theorem dX5_hasCue_17 : decode cX5_hasCue 17 = .ok (.aload_n 0, 1) := by decide +kernel
theorem dX5_hasCue_18 : decode cX5_hasCue 18 = .ok (.getfield 10, 3) := by decide +kernel
theorem dX5_hasCue_21 : decode cX5_hasCue 21 = .ok (.iload_n 2, 1) := by decide +kernel
theorem dX5_hasCue_22 : decode cX5_hasCue 22 = .ok (.invokevirtual 114, 3) := by decide +kernel
theorem dX5_hasCue_25 : decode cX5_hasCue 25 = .ok (.checkcast 91, 3) := by decide +kernel
theorem dX5_hasCue_28 : decode cX5_hasCue 28 = .ok (.getfield 311, 3) := by decide +kernel
theorem dX5_hasCue_31 : decode cX5_hasCue 31 = .ok (.iload_n 1, 1) := by decide +kernel
theorem dX5_hasCue_32 : decode cX5_hasCue 32 = .ok (.if_icmp .ne 7, 3) := by decide +kernel
theorem dX5_hasCue_35 : decode cX5_hasCue 35 = .ok (.iconst 1, 1) := by decide +kernel
theorem dX5_hasCue_36 : decode cX5_hasCue 36 = .ok (.goto 4, 3) := by decide +kernel
theorem dX5_hasCue_39 : decode cX5_hasCue 39 = .ok (.iconst 0, 1) := by decide +kernel
theorem dX5_hasCue_40 : decode cX5_hasCue 40 = .ok (.ireturn, 1) := by decide +kernel
set_option maxRecDepth 20000 in
theorem ggX5_placeAbove_X5_placeOf : GoodIn wsX5_placeAbove wsX5_placeOf := goodIn_r _ [6, 7, 8, 9, 10, 11, 12, 13, 14, 15, 16, 17, 18, 19, 20, 21, 22, 23, 24, 25, 26, 27, 28, 29, 30, 31, 32, 33, 34, 35, 36, 37, 38, 39, 40, 41, 42, 43, 44, 45, 46, 47, 48, 49, 50, 51] (by decide +kernel) (by decide +kernel)
set_option maxRecDepth 20000 in
theorem gX5_placeAbove_X5_placeOf : GoodIn wsX5_placeAbove (wsV RX5 87 RX5 yX5_placeOf wsX5_placeOf) := goodIn_app (goodIn_of _ (by decide +kernel)) ggX5_placeAbove_X5_placeOf
theorem dX5_placeAbove_0 : decode cX5_placeAbove 0 = .ok (.aload_n 0, 1) := by decide +kernel
theorem dX5_placeAbove_1 : decode cX5_placeAbove 1 = .ok (.aload_n 0, 1) := by decide +kernel
theorem dX5_placeAbove_2 : decode cX5_placeAbove 2 = .ok (.getfield 16, 3) := by decide +kernel
theorem dX5_placeAbove_5 : decode cX5_placeAbove 5 = .ok (.iconst 1, 1) := by decide +kernel
theorem dX5_placeAbove_6 : decode cX5_placeAbove 6 = .ok (.iadd, 1) := by decide +kernel
theorem dX5_placeAbove_7 : decode cX5_placeAbove 7 = .ok (.invokevirtual 87, 3) := by decide +kernel
theorem dX5_placeAbove_10 : decode cX5_placeAbove 10 = .ok (.ireturn, 1) := by decide +kernel
set_option maxRecDepth 20000 in
theorem ggX5_placeBelow_X5_placeOf : GoodIn wsX5_placeBelow wsX5_placeOf := goodIn_r _ [6, 7, 8, 9, 10, 11, 12, 13, 14, 15, 16, 17, 18, 19, 20, 21, 22, 23, 24, 25, 26, 27, 28, 29, 30, 31, 32, 33, 34, 35, 36, 37, 38, 39, 40, 41, 42, 43, 44, 45, 46, 47, 48, 49, 50, 51] (by decide +kernel) (by decide +kernel)
set_option maxRecDepth 20000 in
theorem gX5_placeBelow_X5_placeOf : GoodIn wsX5_placeBelow (wsV RX5 87 RX5 yX5_placeOf wsX5_placeOf) := goodIn_app (goodIn_of _ (by decide +kernel)) ggX5_placeBelow_X5_placeOf
theorem dX5_placeBelow_0 : decode cX5_placeBelow 0 = .ok (.aload_n 0, 1) := by decide +kernel
theorem dX5_placeBelow_1 : decode cX5_placeBelow 1 = .ok (.aload_n 0, 1) := by decide +kernel
theorem dX5_placeBelow_2 : decode cX5_placeBelow 2 = .ok (.getfield 16, 3) := by decide +kernel
theorem dX5_placeBelow_5 : decode cX5_placeBelow 5 = .ok (.invokevirtual 87, 3) := by decide +kernel
theorem dX5_placeBelow_8 : decode cX5_placeBelow 8 = .ok (.iconst 1, 1) := by decide +kernel
theorem dX5_placeBelow_9 : decode cX5_placeBelow 9 = .ok (.isub, 1) := by decide +kernel
theorem dX5_placeBelow_10 : decode cX5_placeBelow 10 = .ok (.ireturn, 1) := by decide +kernel
set_option maxRecDepth 20000 in
theorem ggX5_hasCueAbove_X5_placeAbove : GoodIn wsX5_hasCueAbove wsX5_placeAbove := goodIn_r _ [6, 7, 8, 9, 10, 5, 11, 1, 12, 13, 14, 15, 16, 17, 18, 19, 20, 21, 22, 23, 24, 25, 26, 27, 28, 29, 30, 31, 32, 33, 34, 35, 36, 37, 38, 39, 40, 41, 42, 43, 44, 45, 46, 47, 48, 49, 50, 51, 52, 53, 54, 55] (by decide +kernel) (by decide +kernel)
set_option maxRecDepth 20000 in
theorem gX5_hasCueAbove_X5_placeAbove : GoodIn wsX5_hasCueAbove (wsV RX5 139 RX5 yX5_placeAbove wsX5_placeAbove) := goodIn_app (goodIn_of _ (by decide +kernel)) ggX5_hasCueAbove_X5_placeAbove
set_option maxRecDepth 20000 in
theorem ggX5_hasCueAbove_Jx4a65c_size_8abf5 : GoodIn wsX5_hasCueAbove wsJx4a65c_size_8abf5 := goodIn_r _ [18, 19, 53, 54, 55] (by decide +kernel) (by decide +kernel)
set_option maxRecDepth 20000 in
theorem gX5_hasCueAbove_Jx4a65c_size_8abf5 : GoodIn wsX5_hasCueAbove (wsV RX5 78 RJx4a65c yJx4a65c_size_8abf5 wsJx4a65c_size_8abf5) := goodIn_app (goodIn_of _ (by decide +kernel)) ggX5_hasCueAbove_Jx4a65c_size_8abf5
theorem dX5_hasCueAbove_0 : decode cX5_hasCueAbove 0 = .ok (.aload_n 0, 1) := by decide +kernel
theorem dX5_hasCueAbove_1 : decode cX5_hasCueAbove 1 = .ok (.invokevirtual 139, 3) := by decide +kernel
theorem dX5_hasCueAbove_4 : decode cX5_hasCueAbove 4 = .ok (.aload_n 0, 1) := by decide +kernel
theorem dX5_hasCueAbove_5 : decode cX5_hasCueAbove 5 = .ok (.getfield 10, 3) := by decide +kernel
theorem dX5_hasCueAbove_8 : decode cX5_hasCueAbove 8 = .ok (.invokevirtual 78, 3) := by decide +kernel
theorem dX5_hasCueAbove_11 : decode cX5_hasCueAbove 11 = .ok (.if_icmp .ge 7, 3) := by decide +kernel
theorem dX5_hasCueAbove_14 : decode cX5_hasCueAbove 14 = .ok (.iconst 1, 1) := by decide +kernel
theorem dX5_hasCueAbove_15 : decode cX5_hasCueAbove 15 = .ok (.goto 4, 3) := by decide +kernel
theorem dX5_hasCueAbove_18 : decode cX5_hasCueAbove 18 = .ok (.iconst 0, 1) := by decide +kernel
theorem dX5_hasCueAbove_19 : decode cX5_hasCueAbove 19 = .ok (.ireturn, 1) := by decide +kernel
set_option maxRecDepth 20000 in
theorem ggX5_hasCueBelow_X5_placeBelow : GoodIn wsX5_hasCueBelow wsX5_placeBelow := goodIn_r _ [5, 6, 7, 8, 9, 4, 10, 11, 12, 13, 14, 15, 16, 17, 18, 19, 20, 21, 22, 23, 24, 25, 26, 27, 28, 29, 30, 31, 32, 33, 34, 35, 36, 37, 38, 39, 40, 41, 42, 43, 44, 45, 46, 47, 48, 49, 50, 51, 52, 53, 54, 55] (by decide +kernel) (by decide +kernel)
set_option maxRecDepth 20000 in
theorem gX5_hasCueBelow_X5_placeBelow : GoodIn wsX5_hasCueBelow (wsV RX5 150 RX5 yX5_placeBelow wsX5_placeBelow) := goodIn_app (goodIn_of _ (by decide +kernel)) ggX5_hasCueBelow_X5_placeBelow
theorem dX5_hasCueBelow_0 : decode cX5_hasCueBelow 0 = .ok (.aload_n 0, 1) := by decide +kernel
theorem dX5_hasCueBelow_1 : decode cX5_hasCueBelow 1 = .ok (.invokevirtual 150, 3) := by decide +kernel
theorem dX5_hasCueBelow_4 : decode cX5_hasCueBelow 4 = .ok (.ifCond .lt 7, 3) := by decide +kernel
theorem dX5_hasCueBelow_7 : decode cX5_hasCueBelow 7 = .ok (.iconst 1, 1) := by decide +kernel
theorem dX5_hasCueBelow_8 : decode cX5_hasCueBelow 8 = .ok (.goto 4, 3) := by decide +kernel
theorem dX5_hasCueBelow_11 : decode cX5_hasCueBelow 11 = .ok (.iconst 0, 1) := by decide +kernel
theorem dX5_hasCueBelow_12 : decode cX5_hasCueBelow 12 = .ok (.ireturn, 1) := by decide +kernel
set_option maxRecDepth 20000 in
theorem ggX5_trackedAt_Jx4a65c_get_915e3 : GoodIn wsX5_trackedAt wsJx4a65c_get_915e3 := goodIn_r _ [9, 10, 11, 12, 13, 14, 15, 16, 17, 18, 19, 20, 21, 8, 22, 23, 40, 41, 42] (by decide +kernel) (by decide +kernel)
set_option maxRecDepth 20000 in
theorem gX5_trackedAt_Jx4a65c_get_915e3 : GoodIn wsX5_trackedAt (wsV RX5 114 RJx4a65c yJx4a65c_get_915e3 wsJx4a65c_get_915e3) := goodIn_app (goodIn_of _ (by decide +kernel)) ggX5_trackedAt_Jx4a65c_get_915e3
theorem dX5_trackedAt_0 : decode cX5_trackedAt 0 = .ok (.iload_n 1, 1) := by decide +kernel
theorem dX5_trackedAt_1 : decode cX5_trackedAt 1 = .ok (.istore_n 3, 1) := by decide +kernel
theorem dX5_trackedAt_2 : decode cX5_trackedAt 2 = .ok (.iload_n 3, 1) := by decide +kernel
theorem dX5_trackedAt_3 : decode cX5_trackedAt 3 = .ok (.ifCond .lt 51, 3) := by decide +kernel
theorem dX5_trackedAt_6 : decode cX5_trackedAt 6 = .ok (.aload_n 0, 1) := by decide +kernel
theorem dX5_trackedAt_7 : decode cX5_trackedAt 7 = .ok (.getfield 10, 3) := by decide +kernel
theorem dX5_trackedAt_10 : decode cX5_trackedAt 10 = .ok (.iload_n 3, 1) := by decide +kernel
theorem dX5_trackedAt_11 : decode cX5_trackedAt 11 = .ok (.invokevirtual 114, 3) := by decide +kernel
theorem dX5_trackedAt_14 : decode cX5_trackedAt 14 = .ok (.checkcast 91, 3) := by decide +kernel
theorem dX5_trackedAt_17 : decode cX5_trackedAt 17 = .ok (.astore 4, 2) := by decide +kernel
theorem dX5_trackedAt_19 : decode cX5_trackedAt 19 = .ok (.aload 4, 2) := by decide +kernel
theorem dX5_trackedAt_21 : decode cX5_trackedAt 21 = .ok (.getfield 117, 3) := by decide +kernel
theorem dX5_trackedAt_24 : decode cX5_trackedAt 24 = .ok (.iload_n 2, 1) := by decide +kernel
theorem dX5_trackedAt_25 : decode cX5_trackedAt 25 = .ok (.iaload, 1) := by decide +kernel
theorem dX5_trackedAt_26 : decode cX5_trackedAt 26 = .ok (.iconst (-1), 1) := by decide +kernel
theorem dX5_trackedAt_27 : decode cX5_trackedAt 27 = .ok (.if_icmp .eq 11, 3) := by decide +kernel
theorem dX5_trackedAt_30 : decode cX5_trackedAt 30 = .ok (.aload 4, 2) := by decide +kernel
theorem dX5_trackedAt_32 : decode cX5_trackedAt 32 = .ok (.getfield 117, 3) := by decide +kernel
theorem dX5_trackedAt_35 : decode cX5_trackedAt 35 = .ok (.iload_n 2, 1) := by decide +kernel
theorem dX5_trackedAt_36 : decode cX5_trackedAt 36 = .ok (.iaload, 1) := by decide +kernel
theorem dX5_trackedAt_37 : decode cX5_trackedAt 37 = .ok (.ireturn, 1) := by decide +kernel
theorem dX5_trackedAt_38 : decode cX5_trackedAt 38 = .ok (.aload 4, 2) := by decide +kernel
theorem dX5_trackedAt_40 : decode cX5_trackedAt 40 = .ok (.getfield 125, 3) := by decide +kernel
theorem dX5_trackedAt_43 : decode cX5_trackedAt 43 = .ok (.ifCond .eq 5, 3) := by decide +kernel
theorem dX5_trackedAt_46 : decode cX5_trackedAt 46 = .ok (.iconst 0, 1) := by decide +kernel
theorem dX5_trackedAt_47 : decode cX5_trackedAt 47 = .ok (.ireturn, 1) := by decide +kernel
theorem dX5_trackedAt_48 : decode cX5_trackedAt 48 = .ok (.iinc 3 (-1), 3) := by decide +kernel
theorem dX5_trackedAt_51 : decode cX5_trackedAt 51 = .ok (.goto (-49), 3) := by decide +kernel
theorem dX5_trackedAt_54 : decode cX5_trackedAt 54 = .ok (.iconst 0, 1) := by decide +kernel
theorem dX5_trackedAt_55 : decode cX5_trackedAt 55 = .ok (.ireturn, 1) := by decide +kernel
set_option maxRecDepth 20000 in
theorem ggX5_playPlace_Jx4a65c_get_915e3 : GoodIn wsX5_playPlace wsJx4a65c_get_915e3 := goodIn_r _ [12, 13, 14, 15, 16, 17, 18, 19, 20, 21, 22, 23, 24, 11, 25, 26, 62, 63, 64] (by decide +kernel) (by decide +kernel)
set_option maxRecDepth 20000 in
theorem gX5_playPlace_Jx4a65c_get_915e3 : GoodIn wsX5_playPlace (wsV RX5 114 RJx4a65c yJx4a65c_get_915e3 wsJx4a65c_get_915e3) := goodIn_app (goodIn_of _ (by decide +kernel)) ggX5_playPlace_Jx4a65c_get_915e3
set_option maxRecDepth 20000 in
theorem ggX5_playPlace_X5_trackedAt : GoodIn wsX5_playPlace wsX5_trackedAt := goodIn_ca (goodIn_r _ [31, 1, 2, 32, 33, 8, 9, 10, 11, 12, 13, 14, 15, 16, 17, 18, 19, 20, 21, 22, 23, 24, 25, 26, 46, 47, 48, 49, 50, 51, 52, 53, 54, 55, 56, 57, 58, 59, 60, 61, 62, 63, 64] (by decide +kernel) (by decide +kernel)) (goodIn_sub (fun _ h => List.mem_cons_of_mem _ (List.mem_append_right _ h)) (by decide +kernel))
set_option maxRecDepth 20000 in
theorem gX5_playPlace_X5_trackedAt : GoodIn wsX5_playPlace (wsV RX5 129 RX5 yX5_trackedAt wsX5_trackedAt) := goodIn_app (goodIn_of _ (by decide +kernel)) ggX5_playPlace_X5_trackedAt
set_option maxRecDepth 20000 in
theorem ggX5_playPlace_X0_follow : GoodIn wsX5_playPlace wsX0_follow := goodIn_r _ [38, 39, 40, 41, 42, 43, 44, 45, 65, 66, 67, 68, 69, 70, 71, 72, 73] (by decide +kernel) (by decide +kernel)
set_option maxRecDepth 20000 in
theorem gX5_playPlace_X0_follow : GoodIn wsX5_playPlace (wsV RX5 320 RX0 yX0_follow wsX0_follow) := goodIn_app (goodIn_of _ (by decide +kernel)) ggX5_playPlace_X0_follow
theorem dX5_playPlace_0 : decode cX5_playPlace 0 = .ok (.aload_n 0, 1) := by decide +kernel
theorem dX5_playPlace_1 : decode cX5_playPlace 1 = .ok (.getfield 10, 3) := by decide +kernel
theorem dX5_playPlace_4 : decode cX5_playPlace 4 = .ok (.iload_n 1, 1) := by decide +kernel
theorem dX5_playPlace_5 : decode cX5_playPlace 5 = .ok (.invokevirtual 114, 3) := by decide +kernel
theorem dX5_playPlace_8 : decode cX5_playPlace 8 = .ok (.checkcast 91, 3) := by decide +kernel
theorem dX5_playPlace_11 : decode cX5_playPlace 11 = .ok (.astore_n 2, 1) := by decide +kernel
theorem dX5_playPlace_12 : decode cX5_playPlace 12 = .ok (.iconst 0, 1) := by decide +kernel
theorem dX5_playPlace_13 : decode cX5_playPlace 13 = .ok (.istore_n 3, 1) := by decide +kernel
theorem dX5_playPlace_14 : decode cX5_playPlace 14 = .ok (.iload_n 3, 1) := by decide +kernel
theorem dX5_playPlace_15 : decode cX5_playPlace 15 = .ok (.bipush 12, 2) := by decide +kernel
theorem dX5_playPlace_17 : decode cX5_playPlace 17 = .ok (.if_icmp .ge 32, 3) := by decide +kernel
theorem dX5_playPlace_20 : decode cX5_playPlace 20 = .ok (.aload_n 0, 1) := by decide +kernel
theorem dX5_playPlace_21 : decode cX5_playPlace 21 = .ok (.getfield 25, 3) := by decide +kernel
theorem dX5_playPlace_24 : decode cX5_playPlace 24 = .ok (.iload_n 3, 1) := by decide +kernel
theorem dX5_playPlace_25 : decode cX5_playPlace 25 = .ok (.aaload, 1) := by decide +kernel
theorem dX5_playPlace_26 : decode cX5_playPlace 26 = .ok (.aload_n 0, 1) := by decide +kernel
theorem dX5_playPlace_27 : decode cX5_playPlace 27 = .ok (.iload_n 1, 1) := by decide +kernel
theorem dX5_playPlace_28 : decode cX5_playPlace 28 = .ok (.iload_n 3, 1) := by decide +kernel
theorem dX5_playPlace_29 : decode cX5_playPlace 29 = .ok (.invokevirtual 129, 3) := by decide +kernel
theorem dX5_playPlace_32 : decode cX5_playPlace 32 = .ok (.aload_n 2, 1) := by decide +kernel
theorem dX5_playPlace_33 : decode cX5_playPlace 33 = .ok (.getfield 314, 3) := by decide +kernel
theorem dX5_playPlace_36 : decode cX5_playPlace 36 = .ok (.aload_n 2, 1) := by decide +kernel
theorem dX5_playPlace_37 : decode cX5_playPlace 37 = .ok (.getfield 317, 3) := by decide +kernel
theorem dX5_playPlace_40 : decode cX5_playPlace 40 = .ok (.invokevirtual 320, 3) := by decide +kernel
theorem dX5_playPlace_43 : decode cX5_playPlace 43 = .ok (.iinc 3 1, 3) := by decide +kernel
theorem dX5_playPlace_46 : decode cX5_playPlace 46 = .ok (.goto (-32), 3) := by decide +kernel
theorem dX5_playPlace_49 : decode cX5_playPlace 49 = .ok (.aload_n 0, 1) := by decide +kernel
theorem dX5_playPlace_50 : decode cX5_playPlace 50 = .ok (.aload_n 2, 1) := by decide +kernel
theorem dX5_playPlace_51 : decode cX5_playPlace 51 = .ok (.getfield 311, 3) := by decide +kernel
theorem dX5_playPlace_54 : decode cX5_playPlace 54 = .ok (.putfield 16, 3) := by decide +kernel
theorem dX5_playPlace_57 : decode cX5_playPlace 57 = .ok (.return_, 1) := by decide +kernel
set_option maxRecDepth 20000 in
theorem ggX5_fadingChannels_X0_fadeTicksLeft : GoodIn wsX5_fadingChannels wsX0_fadeTicksLeft := goodIn_r _ [6, 7, 8, 20, 21, 22, 23, 24, 25, 26, 27, 28] (by decide +kernel) (by decide +kernel)
set_option maxRecDepth 20000 in
theorem gX5_fadingChannels_X0_fadeTicksLeft : GoodIn wsX5_fadingChannels (wsV RX5 167 RX0 yX0_fadeTicksLeft wsX0_fadeTicksLeft) := goodIn_app (goodIn_of _ (by decide +kernel)) ggX5_fadingChannels_X0_fadeTicksLeft
theorem dX5_fadingChannels_0 : decode cX5_fadingChannels 0 = .ok (.iconst 0, 1) := by decide +kernel
theorem dX5_fadingChannels_1 : decode cX5_fadingChannels 1 = .ok (.istore_n 1, 1) := by decide +kernel
theorem dX5_fadingChannels_2 : decode cX5_fadingChannels 2 = .ok (.iconst 0, 1) := by decide +kernel
theorem dX5_fadingChannels_3 : decode cX5_fadingChannels 3 = .ok (.istore_n 2, 1) := by decide +kernel
theorem dX5_fadingChannels_4 : decode cX5_fadingChannels 4 = .ok (.iload_n 2, 1) := by decide +kernel
theorem dX5_fadingChannels_5 : decode cX5_fadingChannels 5 = .ok (.bipush 12, 2) := by decide +kernel
theorem dX5_fadingChannels_7 : decode cX5_fadingChannels 7 = .ok (.if_icmp .ge 24, 3) := by decide +kernel
theorem dX5_fadingChannels_10 : decode cX5_fadingChannels 10 = .ok (.aload_n 0, 1) := by decide +kernel
theorem dX5_fadingChannels_11 : decode cX5_fadingChannels 11 = .ok (.getfield 25, 3) := by decide +kernel
theorem dX5_fadingChannels_14 : decode cX5_fadingChannels 14 = .ok (.iload_n 2, 1) := by decide +kernel
theorem dX5_fadingChannels_15 : decode cX5_fadingChannels 15 = .ok (.aaload, 1) := by decide +kernel
theorem dX5_fadingChannels_16 : decode cX5_fadingChannels 16 = .ok (.invokevirtual 167, 3) := by decide +kernel
theorem dX5_fadingChannels_19 : decode cX5_fadingChannels 19 = .ok (.ifCond .le 6, 3) := by decide +kernel
theorem dX5_fadingChannels_22 : decode cX5_fadingChannels 22 = .ok (.iinc 1 1, 3) := by decide +kernel
theorem dX5_fadingChannels_25 : decode cX5_fadingChannels 25 = .ok (.iinc 2 1, 3) := by decide +kernel
theorem dX5_fadingChannels_28 : decode cX5_fadingChannels 28 = .ok (.goto (-24), 3) := by decide +kernel
theorem dX5_fadingChannels_31 : decode cX5_fadingChannels 31 = .ok (.iload_n 1, 1) := by decide +kernel
theorem dX5_fadingChannels_32 : decode cX5_fadingChannels 32 = .ok (.ireturn, 1) := by decide +kernel
set_option maxRecDepth 20000 in
theorem ggX5_passTicks_X0_fadeOneTick : GoodIn wsX5_passTicks wsX0_fadeOneTick := goodIn_ca (goodIn_r _ [9, 10, 11, 12, 13, 14, 15, 16, 17, 8, 18, 19, 109, 110, 111, 112, 113, 114, 115, 116, 117] (by decide +kernel) (by decide +kernel)) (goodIn_sub (fun _ h => List.mem_cons_of_mem _ (List.mem_append_right _ h)) (by decide +kernel))
set_option maxRecDepth 20000 in
theorem gX5_passTicks_X0_fadeOneTick : GoodIn wsX5_passTicks (wsV RX5 323 RX0 yX0_fadeOneTick wsX0_fadeOneTick) := goodIn_app (goodIn_of _ (by decide +kernel)) ggX5_passTicks_X0_fadeOneTick
set_option maxRecDepth 20000 in
theorem ggX5_passTicks_X5_fillLevelRow : GoodIn wsX5_passTicks wsX5_fillLevelRow := goodIn_ca (goodIn_ca (goodIn_r _ [24, 4, 25, 26, 27, 28, 29, 30, 23, 31, 2, 32, 33, 34, 35, 36, 37, 38, 39, 40, 41, 42, 43, 44, 45, 46, 47, 48, 49, 50, 51, 52, 53, 54, 55, 56, 57, 58, 59, 60, 61, 62, 63, 64, 65, 66, 67, 68, 69, 70, 71, 72, 73, 74, 75, 76, 77, 78, 1, 79, 80, 81, 82, 83, 84, 85, 86, 87, 88, 89, 90, 91, 92, 93, 94, 95, 96, 97, 98, 99, 100, 101, 102, 103, 104, 105, 106, 107, 108, 118, 119, 120, 121, 122, 123, 124, 109, 110, 111, 112, 113, 114, 115, 116, 117, 125, 126, 127, 128, 129] (by decide +kernel) (by decide +kernel)) (goodIn_sub (fun _ h => List.mem_cons_of_mem _ (List.mem_append_left _ (List.mem_append_right _ h))) (by decide +kernel))) (goodIn_sub (fun _ h => List.mem_cons_of_mem _ (List.mem_append_right _ h)) (by decide +kernel))
set_option maxRecDepth 20000 in
theorem gX5_passTicks_X5_fillLevelRow : GoodIn wsX5_passTicks (wsV RX5 247 RX5 yX5_fillLevelRow wsX5_fillLevelRow) := goodIn_app (goodIn_of _ (by decide +kernel)) ggX5_passTicks_X5_fillLevelRow
theorem dX5_passTicks_0 : decode cX5_passTicks 0 = .ok (.iconst 0, 1) := by decide +kernel
theorem dX5_passTicks_1 : decode cX5_passTicks 1 = .ok (.istore_n 2, 1) := by decide +kernel
theorem dX5_passTicks_2 : decode cX5_passTicks 2 = .ok (.iload_n 2, 1) := by decide +kernel
theorem dX5_passTicks_3 : decode cX5_passTicks 3 = .ok (.iload_n 1, 1) := by decide +kernel
theorem dX5_passTicks_4 : decode cX5_passTicks 4 = .ok (.if_icmp .ge 76, 3) := by decide +kernel
theorem dX5_passTicks_7 : decode cX5_passTicks 7 = .ok (.aload_n 0, 1) := by decide +kernel
theorem dX5_passTicks_8 : decode cX5_passTicks 8 = .ok (.dup, 1) := by decide +kernel
theorem dX5_passTicks_9 : decode cX5_passTicks 9 = .ok (.getfield 20, 3) := by decide +kernel
theorem dX5_passTicks_12 : decode cX5_passTicks 12 = .ok (.iconst 1, 1) := by decide +kernel
theorem dX5_passTicks_13 : decode cX5_passTicks 13 = .ok (.iadd, 1) := by decide +kernel
theorem dX5_passTicks_14 : decode cX5_passTicks 14 = .ok (.putfield 20, 3) := by decide +kernel
theorem dX5_passTicks_17 : decode cX5_passTicks 17 = .ok (.iconst 0, 1) := by decide +kernel
theorem dX5_passTicks_18 : decode cX5_passTicks 18 = .ok (.istore_n 3, 1) := by decide +kernel
theorem dX5_passTicks_19 : decode cX5_passTicks 19 = .ok (.iload_n 3, 1) := by decide +kernel
theorem dX5_passTicks_20 : decode cX5_passTicks 20 = .ok (.bipush 12, 2) := by decide +kernel
theorem dX5_passTicks_22 : decode cX5_passTicks 22 = .ok (.if_icmp .ge 18, 3) := by decide +kernel
theorem dX5_passTicks_25 : decode cX5_passTicks 25 = .ok (.aload_n 0, 1) := by decide +kernel
theorem dX5_passTicks_26 : decode cX5_passTicks 26 = .ok (.getfield 25, 3) := by decide +kernel
theorem dX5_passTicks_29 : decode cX5_passTicks 29 = .ok (.iload_n 3, 1) := by decide +kernel
theorem dX5_passTicks_30 : decode cX5_passTicks 30 = .ok (.aaload, 1) := by decide +kernel
theorem dX5_passTicks_31 : decode cX5_passTicks 31 = .ok (.invokevirtual 323, 3) := by decide +kernel
theorem dX5_passTicks_34 : decode cX5_passTicks 34 = .ok (.iinc 3 1, 3) := by decide +kernel
theorem dX5_passTicks_37 : decode cX5_passTicks 37 = .ok (.goto (-18), 3) := by decide +kernel
theorem dX5_passTicks_40 : decode cX5_passTicks 40 = .ok (.aload_n 0, 1) := by decide +kernel
theorem dX5_passTicks_41 : decode cX5_passTicks 41 = .ok (.invokevirtual 247, 3) := by decide +kernel
theorem dX5_passTicks_44 : decode cX5_passTicks 44 = .ok (.iconst 0, 1) := by decide +kernel
theorem dX5_passTicks_45 : decode cX5_passTicks 45 = .ok (.istore_n 3, 1) := by decide +kernel
theorem dX5_passTicks_46 : decode cX5_passTicks 46 = .ok (.iload_n 3, 1) := by decide +kernel
theorem dX5_passTicks_47 : decode cX5_passTicks 47 = .ok (.bipush 12, 2) := by decide +kernel
theorem dX5_passTicks_49 : decode cX5_passTicks 49 = .ok (.if_icmp .ge 25, 3) := by decide +kernel
theorem dX5_passTicks_52 : decode cX5_passTicks 52 = .ok (.aload_n 0, 1) := by decide +kernel
theorem dX5_passTicks_53 : decode cX5_passTicks 53 = .ok (.dup, 1) := by decide +kernel
theorem dX5_passTicks_54 : decode cX5_passTicks 54 = .ok (.getfield 42, 3) := by decide +kernel
theorem dX5_passTicks_57 : decode cX5_passTicks 57 = .ok (.aload_n 0, 1) := by decide +kernel
theorem dX5_passTicks_58 : decode cX5_passTicks 58 = .ok (.getfield 38, 3) := by decide +kernel
theorem dX5_passTicks_61 : decode cX5_passTicks 61 = .ok (.iload_n 3, 1) := by decide +kernel
theorem dX5_passTicks_62 : decode cX5_passTicks 62 = .ok (.iaload, 1) := by decide +kernel
theorem dX5_passTicks_63 : decode cX5_passTicks 63 = .ok (.i2l, 1) := by decide +kernel
theorem dX5_passTicks_64 : decode cX5_passTicks 64 = .ok (.ladd, 1) := by decide +kernel
theorem dX5_passTicks_65 : decode cX5_passTicks 65 = .ok (.putfield 42, 3) := by decide +kernel
theorem dX5_passTicks_68 : decode cX5_passTicks 68 = .ok (.iinc 3 1, 3) := by decide +kernel
theorem dX5_passTicks_71 : decode cX5_passTicks 71 = .ok (.goto (-25), 3) := by decide +kernel
theorem dX5_passTicks_74 : decode cX5_passTicks 74 = .ok (.iinc 2 1, 3) := by decide +kernel
theorem dX5_passTicks_77 : decode cX5_passTicks 77 = .ok (.goto (-75), 3) := by decide +kernel
theorem dX5_passTicks_80 : decode cX5_passTicks 80 = .ok (.return_, 1) := by decide +kernel
set_option maxRecDepth 20000 in
theorem ggX5_moveFader_Jx4a65c_get_915e3 : GoodIn wsX5_moveFader wsJx4a65c_get_915e3 := goodIn_r _ [11, 12, 13, 14, 15, 16, 17, 18, 19, 20, 21, 22, 23, 10, 24, 25, 48, 49, 50] (by decide +kernel) (by decide +kernel)
set_option maxRecDepth 20000 in
theorem gX5_moveFader_Jx4a65c_get_915e3 : GoodIn wsX5_moveFader (wsV RX5 114 RJx4a65c yJx4a65c_get_915e3 wsJx4a65c_get_915e3) := goodIn_app (goodIn_of _ (by decide +kernel)) ggX5_moveFader_Jx4a65c_get_915e3
theorem dX5_moveFader_0 : decode cX5_moveFader 0 = .ok (.aload_n 0, 1) := by decide +kernel
theorem dX5_moveFader_1 : decode cX5_moveFader 1 = .ok (.getfield 29, 3) := by decide +kernel
theorem dX5_moveFader_4 : decode cX5_moveFader 4 = .ok (.iload_n 1, 1) := by decide +kernel
theorem dX5_moveFader_5 : decode cX5_moveFader 5 = .ok (.invokevirtual 114, 3) := by decide +kernel
theorem dX5_moveFader_8 : decode cX5_moveFader 8 = .ok (.checkcast 177, 3) := by decide +kernel
theorem dX5_moveFader_11 : decode cX5_moveFader 11 = .ok (.astore_n 3, 1) := by decide +kernel
theorem dX5_moveFader_12 : decode cX5_moveFader 12 = .ok (.iconst 0, 1) := by decide +kernel
theorem dX5_moveFader_13 : decode cX5_moveFader 13 = .ok (.istore 4, 2) := by decide +kernel
theorem dX5_moveFader_15 : decode cX5_moveFader 15 = .ok (.iload 4, 2) := by decide +kernel
theorem dX5_moveFader_17 : decode cX5_moveFader 17 = .ok (.bipush 12, 2) := by decide +kernel
theorem dX5_moveFader_19 : decode cX5_moveFader 19 = .ok (.if_icmp .ge 30, 3) := by decide +kernel
theorem dX5_moveFader_22 : decode cX5_moveFader 22 = .ok (.aload_n 3, 1) := by decide +kernel
theorem dX5_moveFader_23 : decode cX5_moveFader 23 = .ok (.getfield 186, 3) := by decide +kernel
theorem dX5_moveFader_26 : decode cX5_moveFader 26 = .ok (.iload 4, 2) := by decide +kernel
theorem dX5_moveFader_28 : decode cX5_moveFader 28 = .ok (.baload, 1) := by decide +kernel
theorem dX5_moveFader_29 : decode cX5_moveFader 29 = .ok (.ifCond .eq 14, 3) := by decide +kernel
theorem dX5_moveFader_32 : decode cX5_moveFader 32 = .ok (.aload_n 0, 1) := by decide +kernel
theorem dX5_moveFader_33 : decode cX5_moveFader 33 = .ok (.getfield 25, 3) := by decide +kernel
theorem dX5_moveFader_36 : decode cX5_moveFader 36 = .ok (.iload 4, 2) := by decide +kernel
theorem dX5_moveFader_38 : decode cX5_moveFader 38 = .ok (.aaload, 1) := by decide +kernel
theorem dX5_moveFader_39 : decode cX5_moveFader 39 = .ok (.iload_n 1, 1) := by decide +kernel
theorem dX5_moveFader_40 : decode cX5_moveFader 40 = .ok (.putfield 196, 3) := by decide +kernel
theorem dX5_moveFader_43 : decode cX5_moveFader 43 = .ok (.iinc 4 1, 3) := by decide +kernel
theorem dX5_moveFader_46 : decode cX5_moveFader 46 = .ok (.goto (-31), 3) := by decide +kernel
theorem dX5_moveFader_49 : decode cX5_moveFader 49 = .ok (.aload_n 3, 1) := by decide +kernel
theorem dX5_moveFader_50 : decode cX5_moveFader 50 = .ok (.getfield 326, 3) := by decide +kernel
theorem dX5_moveFader_53 : decode cX5_moveFader 53 = .ok (.istore 4, 2) := by decide +kernel
theorem dX5_moveFader_55 : decode cX5_moveFader 55 = .ok (.aload_n 3, 1) := by decide +kernel
theorem dX5_moveFader_56 : decode cX5_moveFader 56 = .ok (.iload_n 2, 1) := by decide +kernel
theorem dX5_moveFader_57 : decode cX5_moveFader 57 = .ok (.putfield 326, 3) := by decide +kernel
theorem dX5_moveFader_60 : decode cX5_moveFader 60 = .ok (.iload 4, 2) := by decide +kernel
theorem dX5_moveFader_62 : decode cX5_moveFader 62 = .ok (.ireturn, 1) := by decide +kernel
theorem dX5_moveMaster_0 : decode cX5_moveMaster 0 = .ok (.aload_n 0, 1) := by decide +kernel
theorem dX5_moveMaster_1 : decode cX5_moveMaster 1 = .ok (.getfield 35, 3) := by decide +kernel
theorem dX5_moveMaster_4 : decode cX5_moveMaster 4 = .ok (.istore_n 2, 1) := by decide +kernel
theorem dX5_moveMaster_5 : decode cX5_moveMaster 5 = .ok (.aload_n 0, 1) := by decide +kernel
theorem dX5_moveMaster_6 : decode cX5_moveMaster 6 = .ok (.iload_n 1, 1) := by decide +kernel
theorem dX5_moveMaster_7 : decode cX5_moveMaster 7 = .ok (.putfield 35, 3) := by decide +kernel
theorem dX5_moveMaster_10 : decode cX5_moveMaster 10 = .ok (.iload_n 2, 1) := by decide +kernel
theorem dX5_moveMaster_11 : decode cX5_moveMaster 11 = .ok (.ireturn, 1) := by decide +kernel
theorem dX5_parkAt_0 : decode cX5_parkAt 0 = .ok (.aload_n 0, 1) := by decide +kernel
theorem dX5_parkAt_1 : decode cX5_parkAt 1 = .ok (.getfield 25, 3) := by decide +kernel
theorem dX5_parkAt_4 : decode cX5_parkAt 4 = .ok (.iload_n 1, 1) := by decide +kernel
theorem dX5_parkAt_5 : decode cX5_parkAt 5 = .ok (.aaload, 1) := by decide +kernel
theorem dX5_parkAt_6 : decode cX5_parkAt 6 = .ok (.getfield 239, 3) := by decide +kernel
theorem dX5_parkAt_9 : decode cX5_parkAt 9 = .ok (.istore_n 3, 1) := by decide +kernel
theorem dX5_parkAt_10 : decode cX5_parkAt 10 = .ok (.aload_n 0, 1) := by decide +kernel
theorem dX5_parkAt_11 : decode cX5_parkAt 11 = .ok (.getfield 25, 3) := by decide +kernel
theorem dX5_parkAt_14 : decode cX5_parkAt 14 = .ok (.iload_n 1, 1) := by decide +kernel
theorem dX5_parkAt_15 : decode cX5_parkAt 15 = .ok (.aaload, 1) := by decide +kernel
theorem dX5_parkAt_16 : decode cX5_parkAt 16 = .ok (.iload_n 2, 1) := by decide +kernel
theorem dX5_parkAt_17 : decode cX5_parkAt 17 = .ok (.putfield 239, 3) := by decide +kernel
theorem dX5_parkAt_20 : decode cX5_parkAt 20 = .ok (.iload_n 3, 1) := by decide +kernel
theorem dX5_parkAt_21 : decode cX5_parkAt 21 = .ok (.ireturn, 1) := by decide +kernel
set_option maxRecDepth 20000 in
theorem ggX5_baseOf_X5_latestLevel : GoodIn wsX5_baseOf wsX5_latestLevel := goodIn_ca (goodIn_r _ [7, 1, 8, 9, 10, 11, 12, 13, 14, 15, 16, 17, 18, 19, 20, 21, 22, 23, 24, 25, 26, 27, 28, 29, 30, 31, 32, 33, 34, 35, 36, 45, 46, 47, 48, 49, 50, 51, 52, 53, 54, 55, 56, 57, 58, 59, 60, 61, 62, 63, 64, 65, 66, 67, 68, 69] (by decide +kernel) (by decide +kernel)) (goodIn_sub (fun _ h => List.mem_cons_of_mem _ (List.mem_append_right _ h)) (by decide +kernel))
set_option maxRecDepth 20000 in
theorem gX5_baseOf_X5_latestLevel : GoodIn wsX5_baseOf (wsV RX5 329 RX5 yX5_latestLevel wsX5_latestLevel) := goodIn_app (goodIn_of _ (by decide +kernel)) ggX5_baseOf_X5_latestLevel
set_option maxRecDepth 20000 in
theorem ggX5_baseOf_X5_highestLevel : GoodIn wsX5_baseOf wsX5_highestLevel := goodIn_ca (goodIn_r _ [40, 1, 13, 9, 10, 11, 12, 41, 42, 43, 44, 14, 15, 16, 17, 18, 19, 20, 21, 22, 23, 24, 25, 26, 27, 28, 29, 30, 31, 32, 33, 34, 35, 36, 45, 46, 47, 48, 49, 50, 51, 52, 53, 54, 55, 56, 57, 58, 59, 60, 61, 62, 63, 64, 65, 66, 67, 68, 69] (by decide +kernel) (by decide +kernel)) (goodIn_sub (fun _ h => List.mem_cons_of_mem _ (List.mem_append_right _ h)) (by decide +kernel))
set_option maxRecDepth 20000 in
theorem gX5_baseOf_X5_highestLevel : GoodIn wsX5_baseOf (wsV RX5 332 RX5 yX5_highestLevel wsX5_highestLevel) := goodIn_app (goodIn_of _ (by decide +kernel)) ggX5_baseOf_X5_highestLevel
theorem dX5_baseOf_0 : decode cX5_baseOf 0 = .ok (.aload_n 0, 1) := by decide +kernel
theorem dX5_baseOf_1 : decode cX5_baseOf 1 = .ok (.getfield 25, 3) := by decide +kernel
theorem dX5_baseOf_4 : decode cX5_baseOf 4 = .ok (.iload_n 1, 1) := by decide +kernel
theorem dX5_baseOf_5 : decode cX5_baseOf 5 = .ok (.aaload, 1) := by decide +kernel
theorem dX5_baseOf_6 : decode cX5_baseOf 6 = .ok (.getfield 193, 3) := by decide +kernel
theorem dX5_baseOf_9 : decode cX5_baseOf 9 = .ok (.ifCond .eq 11, 3) := by decide +kernel
theorem dX5_baseOf_12 : decode cX5_baseOf 12 = .ok (.aload_n 0, 1) := by decide +kernel
theorem dX5_baseOf_13 : decode cX5_baseOf 13 = .ok (.iload_n 1, 1) := by decide +kernel
theorem dX5_baseOf_14 : decode cX5_baseOf 14 = .ok (.invokevirtual 329, 3) := by decide +kernel
theorem dX5_baseOf_17 : decode cX5_baseOf 17 = .ok (.goto 8, 3) := by decide +kernel
theorem dX5_baseOf_20 : decode cX5_baseOf 20 = .ok (.aload_n 0, 1) := by decide +kernel
theorem dX5_baseOf_21 : decode cX5_baseOf 21 = .ok (.iload_n 1, 1) := by decide +kernel
theorem dX5_baseOf_22 : decode cX5_baseOf 22 = .ok (.invokevirtual 332, 3) := by decide +kernel
theorem dX5_baseOf_25 : decode cX5_baseOf 25 = .ok (.ireturn, 1) := by decide +kernel
set_option maxRecDepth 20000 in
theorem ggX5_latestLevel_Jx4a65c_size_8abf5 : GoodIn wsX5_latestLevel wsJx4a65c_size_8abf5 := goodIn_r _ [12, 13, 53, 54, 55] (by decide +kernel) (by decide +kernel)
set_option maxRecDepth 20000 in
theorem gX5_latestLevel_Jx4a65c_size_8abf5 : GoodIn wsX5_latestLevel (wsV RX5 78 RJx4a65c yJx4a65c_size_8abf5 wsJx4a65c_size_8abf5) := goodIn_app (goodIn_of _ (by decide +kernel)) ggX5_latestLevel_Jx4a65c_size_8abf5
set_option maxRecDepth 20000 in
theorem ggX5_latestLevel_Jx4a65c_get_915e3 : GoodIn wsX5_latestLevel wsJx4a65c_get_915e3 := goodIn_r _ [17, 13, 18, 19, 20, 21, 22, 23, 24, 25, 26, 27, 28, 11, 29, 30, 53, 54, 55] (by decide +kernel) (by decide +kernel)
set_option maxRecDepth 20000 in
theorem gX5_latestLevel_Jx4a65c_get_915e3 : GoodIn wsX5_latestLevel (wsV RX5 114 RJx4a65c yJx4a65c_get_915e3 wsJx4a65c_get_915e3) := goodIn_app (goodIn_of _ (by decide +kernel)) ggX5_latestLevel_Jx4a65c_get_915e3
theorem dX5_latestLevel_0 : decode cX5_latestLevel 0 = .ok (.aload_n 0, 1) := by decide +kernel
theorem dX5_latestLevel_1 : decode cX5_latestLevel 1 = .ok (.getfield 25, 3) := by decide +kernel
theorem dX5_latestLevel_4 : decode cX5_latestLevel 4 = .ok (.iload_n 1, 1) := by decide +kernel
theorem dX5_latestLevel_5 : decode cX5_latestLevel 5 = .ok (.aaload, 1) := by decide +kernel
theorem dX5_latestLevel_6 : decode cX5_latestLevel 6 = .ok (.getfield 196, 3) := by decide +kernel
theorem dX5_latestLevel_9 : decode cX5_latestLevel 9 = .ok (.istore_n 2, 1) := by decide +kernel
theorem dX5_latestLevel_10 : decode cX5_latestLevel 10 = .ok (.iload_n 2, 1) := by decide +kernel
theorem dX5_latestLevel_11 : decode cX5_latestLevel 11 = .ok (.ifCond .lt 48, 3) := by decide +kernel
theorem dX5_latestLevel_14 : decode cX5_latestLevel 14 = .ok (.iload_n 2, 1) := by decide +kernel
theorem dX5_latestLevel_15 : decode cX5_latestLevel 15 = .ok (.aload_n 0, 1) := by decide +kernel
theorem dX5_latestLevel_16 : decode cX5_latestLevel 16 = .ok (.getfield 29, 3) := by decide +kernel
theorem dX5_latestLevel_19 : decode cX5_latestLevel 19 = .ok (.invokevirtual 78, 3) := by decide +kernel
theorem dX5_latestLevel_22 : decode cX5_latestLevel 22 = .ok (.if_icmp .ge 37, 3) := by decide +kernel
theorem dX5_latestLevel_25 : decode cX5_latestLevel 25 = .ok (.aload_n 0, 1) := by decide +kernel
theorem dX5_latestLevel_26 : decode cX5_latestLevel 26 = .ok (.getfield 29, 3) := by decide +kernel
theorem dX5_latestLevel_29 : decode cX5_latestLevel 29 = .ok (.iload_n 2, 1) := by decide +kernel
theorem dX5_latestLevel_30 : decode cX5_latestLevel 30 = .ok (.invokevirtual 114, 3) := by decide +kernel
theorem dX5_latestLevel_33 : decode cX5_latestLevel 33 = .ok (.checkcast 177, 3) := by decide +kernel
theorem dX5_latestLevel_36 : decode cX5_latestLevel 36 = .ok (.getfield 186, 3) := by decide +kernel
theorem dX5_latestLevel_39 : decode cX5_latestLevel 39 = .ok (.iload_n 1, 1) := by decide +kernel
theorem dX5_latestLevel_40 : decode cX5_latestLevel 40 = .ok (.baload, 1) := by decide +kernel
theorem dX5_latestLevel_41 : decode cX5_latestLevel 41 = .ok (.ifCond .eq 18, 3) := by decide +kernel
theorem dX5_latestLevel_44 : decode cX5_latestLevel 44 = .ok (.aload_n 0, 1) := by decide +kernel
theorem dX5_latestLevel_45 : decode cX5_latestLevel 45 = .ok (.getfield 29, 3) := by decide +kernel
theorem dX5_latestLevel_48 : decode cX5_latestLevel 48 = .ok (.iload_n 2, 1) := by decide +kernel
theorem dX5_latestLevel_49 : decode cX5_latestLevel 49 = .ok (.invokevirtual 114, 3) := by decide +kernel
theorem dX5_latestLevel_52 : decode cX5_latestLevel 52 = .ok (.checkcast 177, 3) := by decide +kernel
theorem dX5_latestLevel_55 : decode cX5_latestLevel 55 = .ok (.getfield 326, 3) := by decide +kernel
theorem dX5_latestLevel_58 : decode cX5_latestLevel 58 = .ok (.ireturn, 1) := by decide +kernel
theorem dX5_latestLevel_59 : decode cX5_latestLevel 59 = .ok (.aload_n 0, 1) := by decide +kernel
theorem dX5_latestLevel_60 : decode cX5_latestLevel 60 = .ok (.getfield 25, 3) := by decide +kernel
theorem dX5_latestLevel_63 : decode cX5_latestLevel 63 = .ok (.iload_n 1, 1) := by decide +kernel
theorem dX5_latestLevel_64 : decode cX5_latestLevel 64 = .ok (.aaload, 1) := by decide +kernel
theorem dX5_latestLevel_65 : decode cX5_latestLevel 65 = .ok (.getfield 164, 3) := by decide +kernel
theorem dX5_latestLevel_68 : decode cX5_latestLevel 68 = .ok (.ireturn, 1) := by decide +kernel
set_option maxRecDepth 20000 in
theorem ggX5_highestLevel_Jx4a65c_size_8abf5 : GoodIn wsX5_highestLevel wsJx4a65c_size_8abf5 := goodIn_r _ [15, 16, 56, 57, 58] (by decide +kernel) (by decide +kernel)
set_option maxRecDepth 20000 in
theorem gX5_highestLevel_Jx4a65c_size_8abf5 : GoodIn wsX5_highestLevel (wsV RX5 78 RJx4a65c yJx4a65c_size_8abf5 wsJx4a65c_size_8abf5) := goodIn_app (goodIn_of _ (by decide +kernel)) ggX5_highestLevel_Jx4a65c_size_8abf5
set_option maxRecDepth 20000 in
theorem ggX5_highestLevel_Jx4a65c_get_915e3 : GoodIn wsX5_highestLevel wsJx4a65c_get_915e3 := goodIn_r _ [20, 16, 21, 22, 23, 24, 25, 26, 27, 28, 29, 30, 31, 14, 32, 33, 56, 57, 58] (by decide +kernel) (by decide +kernel)
set_option maxRecDepth 20000 in
theorem gX5_highestLevel_Jx4a65c_get_915e3 : GoodIn wsX5_highestLevel (wsV RX5 114 RJx4a65c yJx4a65c_get_915e3 wsJx4a65c_get_915e3) := goodIn_app (goodIn_of _ (by decide +kernel)) ggX5_highestLevel_Jx4a65c_get_915e3
theorem dX5_highestLevel_0 : decode cX5_highestLevel 0 = .ok (.aload_n 0, 1) := by decide +kernel
theorem dX5_highestLevel_1 : decode cX5_highestLevel 1 = .ok (.getfield 25, 3) := by decide +kernel
theorem dX5_highestLevel_4 : decode cX5_highestLevel 4 = .ok (.iload_n 1, 1) := by decide +kernel
theorem dX5_highestLevel_5 : decode cX5_highestLevel 5 = .ok (.aaload, 1) := by decide +kernel
theorem dX5_highestLevel_6 : decode cX5_highestLevel 6 = .ok (.getfield 164, 3) := by decide +kernel
theorem dX5_highestLevel_9 : decode cX5_highestLevel 9 = .ok (.istore_n 2, 1) := by decide +kernel
theorem dX5_highestLevel_10 : decode cX5_highestLevel 10 = .ok (.iconst 0, 1) := by decide +kernel
theorem dX5_highestLevel_11 : decode cX5_highestLevel 11 = .ok (.istore_n 3, 1) := by decide +kernel
theorem dX5_highestLevel_12 : decode cX5_highestLevel 12 = .ok (.iload_n 3, 1) := by decide +kernel
theorem dX5_highestLevel_13 : decode cX5_highestLevel 13 = .ok (.aload_n 0, 1) := by decide +kernel
theorem dX5_highestLevel_14 : decode cX5_highestLevel 14 = .ok (.getfield 29, 3) := by decide +kernel
theorem dX5_highestLevel_17 : decode cX5_highestLevel 17 = .ok (.invokevirtual 78, 3) := by decide +kernel
theorem dX5_highestLevel_20 : decode cX5_highestLevel 20 = .ok (.if_icmp .ge 47, 3) := by decide +kernel
theorem dX5_highestLevel_23 : decode cX5_highestLevel 23 = .ok (.aload_n 0, 1) := by decide +kernel
theorem dX5_highestLevel_24 : decode cX5_highestLevel 24 = .ok (.getfield 29, 3) := by decide +kernel
theorem dX5_highestLevel_27 : decode cX5_highestLevel 27 = .ok (.iload_n 3, 1) := by decide +kernel
theorem dX5_highestLevel_28 : decode cX5_highestLevel 28 = .ok (.invokevirtual 114, 3) := by decide +kernel
theorem dX5_highestLevel_31 : decode cX5_highestLevel 31 = .ok (.checkcast 177, 3) := by decide +kernel
theorem dX5_highestLevel_34 : decode cX5_highestLevel 34 = .ok (.getfield 186, 3) := by decide +kernel
theorem dX5_highestLevel_37 : decode cX5_highestLevel 37 = .ok (.iload_n 1, 1) := by decide +kernel
theorem dX5_highestLevel_38 : decode cX5_highestLevel 38 = .ok (.baload, 1) := by decide +kernel
theorem dX5_highestLevel_39 : decode cX5_highestLevel 39 = .ok (.ifCond .eq 22, 3) := by decide +kernel
theorem dX5_highestLevel_42 : decode cX5_highestLevel 42 = .ok (.iload_n 2, 1) := by decide +kernel
theorem dX5_highestLevel_43 : decode cX5_highestLevel 43 = .ok (.aload_n 0, 1) := by decide +kernel
theorem dX5_highestLevel_44 : decode cX5_highestLevel 44 = .ok (.getfield 29, 3) := by decide +kernel
theorem dX5_highestLevel_47 : decode cX5_highestLevel 47 = .ok (.iload_n 3, 1) := by decide +kernel
theorem dX5_highestLevel_48 : decode cX5_highestLevel 48 = .ok (.invokevirtual 114, 3) := by decide +kernel
theorem dX5_highestLevel_51 : decode cX5_highestLevel 51 = .ok (.checkcast 177, 3) := by decide +kernel
theorem dX5_highestLevel_54 : decode cX5_highestLevel 54 = .ok (.getfield 326, 3) := by decide +kernel
theorem dX5_highestLevel_57 : decode cX5_highestLevel 57 = .ok (.invokestatic 170, 3) := by decide +kernel
theorem dX5_highestLevel_60 : decode cX5_highestLevel 60 = .ok (.istore_n 2, 1) := by decide +kernel
theorem dX5_highestLevel_61 : decode cX5_highestLevel 61 = .ok (.iinc 3 1, 3) := by decide +kernel
theorem dX5_highestLevel_64 : decode cX5_highestLevel 64 = .ok (.goto (-52), 3) := by decide +kernel
theorem dX5_highestLevel_67 : decode cX5_highestLevel 67 = .ok (.iload_n 2, 1) := by decide +kernel
theorem dX5_highestLevel_68 : decode cX5_highestLevel 68 = .ok (.ireturn, 1) := by decide +kernel
set_option maxRecDepth 20000 in
theorem ggX5_runningEffects_Jx4a65c_size_8abf5 : GoodIn wsX5_runningEffects wsJx4a65c_size_8abf5 := goodIn_r _ [8, 9, 45, 46, 47] (by decide +kernel) (by decide +kernel)
set_option maxRecDepth 20000 in
theorem gX5_runningEffects_Jx4a65c_size_8abf5 : GoodIn wsX5_runningEffects (wsV RX5 78 RJx4a65c yJx4a65c_size_8abf5 wsJx4a65c_size_8abf5) := goodIn_app (goodIn_of _ (by decide +kernel)) ggX5_runningEffects_Jx4a65c_size_8abf5
set_option maxRecDepth 20000 in
theorem ggX5_runningEffects_Jx4a65c_get_915e3 : GoodIn wsX5_runningEffects wsJx4a65c_get_915e3 := goodIn_r _ [13, 9, 14, 15, 16, 17, 18, 19, 20, 21, 22, 23, 24, 7, 25, 26, 45, 46, 47] (by decide +kernel) (by decide +kernel)
set_option maxRecDepth 20000 in
theorem gX5_runningEffects_Jx4a65c_get_915e3 : GoodIn wsX5_runningEffects (wsV RX5 114 RJx4a65c yJx4a65c_get_915e3 wsJx4a65c_get_915e3) := goodIn_app (goodIn_of _ (by decide +kernel)) ggX5_runningEffects_Jx4a65c_get_915e3
theorem dX5_runningEffects_0 : decode cX5_runningEffects 0 = .ok (.iconst 0, 1) := by decide +kernel
theorem dX5_runningEffects_1 : decode cX5_runningEffects 1 = .ok (.istore_n 1, 1) := by decide +kernel
theorem dX5_runningEffects_2 : decode cX5_runningEffects 2 = .ok (.iconst 0, 1) := by decide +kernel
theorem dX5_runningEffects_3 : decode cX5_runningEffects 3 = .ok (.istore_n 2, 1) := by decide +kernel
theorem dX5_runningEffects_4 : decode cX5_runningEffects 4 = .ok (.iload_n 2, 1) := by decide +kernel
theorem dX5_runningEffects_5 : decode cX5_runningEffects 5 = .ok (.aload_n 0, 1) := by decide +kernel
theorem dX5_runningEffects_6 : decode cX5_runningEffects 6 = .ok (.getfield 32, 3) := by decide +kernel
theorem dX5_runningEffects_9 : decode cX5_runningEffects 9 = .ok (.invokevirtual 78, 3) := by decide +kernel
theorem dX5_runningEffects_12 : decode cX5_runningEffects 12 = .ok (.if_icmp .ge 29, 3) := by decide +kernel
theorem dX5_runningEffects_15 : decode cX5_runningEffects 15 = .ok (.aload_n 0, 1) := by decide +kernel
theorem dX5_runningEffects_16 : decode cX5_runningEffects 16 = .ok (.getfield 32, 3) := by decide +kernel
theorem dX5_runningEffects_19 : decode cX5_runningEffects 19 = .ok (.iload_n 2, 1) := by decide +kernel
theorem dX5_runningEffects_20 : decode cX5_runningEffects 20 = .ok (.invokevirtual 114, 3) := by decide +kernel
theorem dX5_runningEffects_23 : decode cX5_runningEffects 23 = .ok (.checkcast 211, 3) := by decide +kernel
theorem dX5_runningEffects_26 : decode cX5_runningEffects 26 = .ok (.getfield 219, 3) := by decide +kernel
theorem dX5_runningEffects_29 : decode cX5_runningEffects 29 = .ok (.ifCond .eq 6, 3) := by decide +kernel
theorem dX5_runningEffects_32 : decode cX5_runningEffects 32 = .ok (.iinc 1 1, 3) := by decide +kernel
theorem dX5_runningEffects_35 : decode cX5_runningEffects 35 = .ok (.iinc 2 1, 3) := by decide +kernel
theorem dX5_runningEffects_38 : decode cX5_runningEffects 38 = .ok (.goto (-34), 3) := by decide +kernel
theorem dX5_runningEffects_41 : decode cX5_runningEffects 41 = .ok (.iload_n 1, 1) := by decide +kernel
theorem dX5_runningEffects_42 : decode cX5_runningEffects 42 = .ok (.ireturn, 1) := by decide +kernel
set_option maxRecDepth 20000 in
theorem ggX5_givenBy_X3_membersBelow : GoodIn wsX5_givenBy wsX3_membersBelow := goodIn_ca (goodIn_r _ [10, 11, 28, 29] (by decide +kernel) (by decide +kernel)) (goodIn_sub (fun _ h => List.mem_cons_of_mem _ (List.mem_append_left _ (List.mem_append_right _ h))) (by decide +kernel))
set_option maxRecDepth 20000 in
theorem gX5_givenBy_X3_membersBelow : GoodIn wsX5_givenBy (wsV RX5 339 RX3 yX3_membersBelow wsX3_membersBelow) := goodIn_app (goodIn_of _ (by decide +kernel)) ggX5_givenBy_X3_membersBelow
set_option maxRecDepth 20000 in
theorem ggX5_givenBy_X2_valueAt : GoodIn wsX5_givenBy wsX2_valueAt := goodIn_ca (goodIn_r _ [16, 17, 18, 19, 20, 21, 22, 23, 24, 25, 26, 27] (by decide +kernel) (by decide +kernel)) (goodIn_sub (fun _ h => List.mem_cons_of_mem _ (List.mem_append_right _ h)) (by decide +kernel))
set_option maxRecDepth 20000 in
theorem gX5_givenBy_X2_valueAt : GoodIn wsX5_givenBy (wsV RX5 342 RX2 yX2_valueAt wsX2_valueAt) := goodIn_app (goodIn_of _ (by decide +kernel)) ggX5_givenBy_X2_valueAt
theorem dX5_givenBy_0 : decode cX5_givenBy 0 = .ok (.aload_n 1, 1) := by decide +kernel
theorem dX5_givenBy_1 : decode cX5_givenBy 1 = .ok (.getfield 219, 3) := by decide +kernel
theorem dX5_givenBy_4 : decode cX5_givenBy 4 = .ok (.ifCond .eq 15, 3) := by decide +kernel
theorem dX5_givenBy_7 : decode cX5_givenBy 7 = .ok (.aload_n 1, 1) := by decide +kernel
theorem dX5_givenBy_8 : decode cX5_givenBy 8 = .ok (.getfield 335, 3) := by decide +kernel
theorem dX5_givenBy_11 : decode cX5_givenBy 11 = .ok (.getfield 186, 3) := by decide +kernel
theorem dX5_givenBy_14 : decode cX5_givenBy 14 = .ok (.iload_n 2, 1) := by decide +kernel
theorem dX5_givenBy_15 : decode cX5_givenBy 15 = .ok (.baload, 1) := by decide +kernel
theorem dX5_givenBy_16 : decode cX5_givenBy 16 = .ok (.ifCond .ne 5, 3) := by decide +kernel
theorem dX5_givenBy_19 : decode cX5_givenBy 19 = .ok (.iconst 0, 1) := by decide +kernel
theorem dX5_givenBy_20 : decode cX5_givenBy 20 = .ok (.ireturn, 1) := by decide +kernel
theorem dX5_givenBy_21 : decode cX5_givenBy 21 = .ok (.aload_n 1, 1) := by decide +kernel
theorem dX5_givenBy_22 : decode cX5_givenBy 22 = .ok (.aload_n 0, 1) := by decide +kernel
theorem dX5_givenBy_23 : decode cX5_givenBy 23 = .ok (.getfield 20, 3) := by decide +kernel
theorem dX5_givenBy_26 : decode cX5_givenBy 26 = .ok (.aload_n 1, 1) := by decide +kernel
theorem dX5_givenBy_27 : decode cX5_givenBy 27 = .ok (.getfield 224, 3) := by decide +kernel
theorem dX5_givenBy_30 : decode cX5_givenBy 30 = .ok (.isub, 1) := by decide +kernel
theorem dX5_givenBy_31 : decode cX5_givenBy 31 = .ok (.aload_n 1, 1) := by decide +kernel
theorem dX5_givenBy_32 : decode cX5_givenBy 32 = .ok (.getfield 335, 3) := by decide +kernel
theorem dX5_givenBy_35 : decode cX5_givenBy 35 = .ok (.iload_n 2, 1) := by decide +kernel
theorem dX5_givenBy_36 : decode cX5_givenBy 36 = .ok (.invokevirtual 339, 3) := by decide +kernel
theorem dX5_givenBy_39 : decode cX5_givenBy 39 = .ok (.invokevirtual 342, 3) := by decide +kernel
theorem dX5_givenBy_42 : decode cX5_givenBy 42 = .ok (.ireturn, 1) := by decide +kernel
theorem dX5_outputOf_0 : decode cX5_outputOf 0 = .ok (.aload_n 0, 1) := by decide +kernel
theorem dX5_outputOf_1 : decode cX5_outputOf 1 = .ok (.getfield 25, 3) := by decide +kernel
theorem dX5_outputOf_4 : decode cX5_outputOf 4 = .ok (.iload_n 1, 1) := by decide +kernel
theorem dX5_outputOf_5 : decode cX5_outputOf 5 = .ok (.aaload, 1) := by decide +kernel
theorem dX5_outputOf_6 : decode cX5_outputOf 6 = .ok (.getfield 239, 3) := by decide +kernel
theorem dX5_outputOf_9 : decode cX5_outputOf 9 = .ok (.iconst (-1), 1) := by decide +kernel
theorem dX5_outputOf_10 : decode cX5_outputOf 10 = .ok (.if_icmp .eq 13, 3) := by decide +kernel
theorem dX5_outputOf_13 : decode cX5_outputOf 13 = .ok (.aload_n 0, 1) := by decide +kernel
theorem dX5_outputOf_14 : decode cX5_outputOf 14 = .ok (.getfield 25, 3) := by decide +kernel
theorem dX5_outputOf_17 : decode cX5_outputOf 17 = .ok (.iload_n 1, 1) := by decide +kernel
theorem dX5_outputOf_18 : decode cX5_outputOf 18 = .ok (.aaload, 1) := by decide +kernel
theorem dX5_outputOf_19 : decode cX5_outputOf 19 = .ok (.getfield 239, 3) := by decide +kernel
theorem dX5_outputOf_22 : decode cX5_outputOf 22 = .ok (.ireturn, 1) := by decide +kernel
theorem dX5_outputOf_23 : decode cX5_outputOf 23 = .ok (.iload_n 2, 1) := by decide +kernel
theorem dX5_outputOf_24 : decode cX5_outputOf 24 = .ok (.sipush 255, 3) := by decide +kernel
theorem dX5_outputOf_27 : decode cX5_outputOf 27 = .ok (.invokestatic 345, 3) := by decide +kernel
theorem dX5_outputOf_30 : decode cX5_outputOf 30 = .ok (.aload_n 0, 1) := by decide +kernel
theorem dX5_outputOf_31 : decode cX5_outputOf 31 = .ok (.getfield 35, 3) := by decide +kernel
theorem dX5_outputOf_34 : decode cX5_outputOf 34 = .ok (.imul, 1) := by decide +kernel
theorem dX5_outputOf_35 : decode cX5_outputOf 35 = .ok (.sipush 255, 3) := by decide +kernel
theorem dX5_outputOf_38 : decode cX5_outputOf 38 = .ok (.idiv, 1) := by decide +kernel
theorem dX5_outputOf_39 : decode cX5_outputOf 39 = .ok (.ireturn, 1) := by decide +kernel
set_option maxRecDepth 20000 in
theorem ggX5_fillLevelRow_X5_baseOf : GoodIn wsX5_fillLevelRow wsX5_baseOf := goodIn_ca (goodIn_r _ [9, 10, 11, 12, 13, 14, 8, 15, 16, 17, 18, 19, 20, 21, 22, 23, 24, 25, 26, 27, 28, 29, 30, 31, 32, 33, 34, 35, 36, 37, 38, 39, 40, 41, 42, 43, 44, 45, 46, 47, 48, 49, 50, 51, 52, 78, 79, 80, 81, 82, 83, 84, 85, 86, 87, 88, 96, 97, 98, 99, 100, 101, 102, 103, 104, 105, 106, 107, 108, 109] (by decide +kernel) (by decide +kernel)) (goodIn_sub (fun _ h => List.mem_cons_of_mem _ (List.mem_append_left _ (List.mem_append_right _ h))) (by decide +kernel))
set_option maxRecDepth 20000 in
theorem gX5_fillLevelRow_X5_baseOf : GoodIn wsX5_fillLevelRow (wsV RX5 201 RX5 yX5_baseOf wsX5_baseOf) := goodIn_app (goodIn_of _ (by decide +kernel)) ggX5_fillLevelRow_X5_baseOf
set_option maxRecDepth 20000 in
theorem ggX5_fillLevelRow_Jx4a65c_size_8abf5 : GoodIn wsX5_fillLevelRow wsJx4a65c_size_8abf5 := goodIn_r _ [26, 27, 107, 108, 109] (by decide +kernel) (by decide +kernel)
set_option maxRecDepth 20000 in
theorem gX5_fillLevelRow_Jx4a65c_size_8abf5 : GoodIn wsX5_fillLevelRow (wsV RX5 78 RJx4a65c yJx4a65c_size_8abf5 wsJx4a65c_size_8abf5) := goodIn_app (goodIn_of _ (by decide +kernel)) ggX5_fillLevelRow_Jx4a65c_size_8abf5
set_option maxRecDepth 20000 in
theorem ggX5_fillLevelRow_Jx4a65c_get_915e3 : GoodIn wsX5_fillLevelRow wsJx4a65c_get_915e3 := goodIn_r _ [31, 27, 32, 33, 34, 35, 36, 37, 38, 39, 40, 41, 42, 25, 43, 44, 107, 108, 109] (by decide +kernel) (by decide +kernel)
set_option maxRecDepth 20000 in
theorem gX5_fillLevelRow_Jx4a65c_get_915e3 : GoodIn wsX5_fillLevelRow (wsV RX5 114 RJx4a65c yJx4a65c_get_915e3 wsJx4a65c_get_915e3) := goodIn_app (goodIn_of _ (by decide +kernel)) ggX5_fillLevelRow_Jx4a65c_get_915e3
set_option maxRecDepth 20000 in
theorem ggX5_fillLevelRow_X5_addToLevelRow : GoodIn wsX5_fillLevelRow wsX5_addToLevelRow := goodIn_ca (goodIn_ca (goodIn_r _ [56, 57, 19, 1, 58, 59, 60, 61, 62, 63, 64, 65, 66, 67, 68, 89, 90, 91, 92, 93, 94, 95, 105, 106, 78, 79, 80, 81, 82, 83, 84, 85, 86, 87, 88] (by decide +kernel) (by decide +kernel)) (goodIn_sub (fun _ h => List.mem_cons_of_mem _ (List.mem_append_left _ (List.mem_append_right _ h))) (by decide +kernel))) (goodIn_sub (fun _ h => List.mem_cons_of_mem _ (List.mem_append_right _ h)) (by decide +kernel))
set_option maxRecDepth 20000 in
theorem gX5_fillLevelRow_X5_addToLevelRow : GoodIn wsX5_fillLevelRow (wsV RX5 348 RX5 yX5_addToLevelRow wsX5_addToLevelRow) := goodIn_app (goodIn_of _ (by decide +kernel)) ggX5_fillLevelRow_X5_addToLevelRow
set_option maxRecDepth 20000 in
theorem ggX5_fillLevelRow_X5_outputOf : GoodIn wsX5_fillLevelRow wsX5_outputOf := goodIn_r _ [72, 10, 73, 74, 75, 51, 76, 77, 78, 79, 80, 81, 82, 83, 84, 85, 86, 87, 88, 96, 97, 98, 99, 100, 101, 102, 103, 104] (by decide +kernel) (by decide +kernel)
set_option maxRecDepth 20000 in
theorem gX5_fillLevelRow_X5_outputOf : GoodIn wsX5_fillLevelRow (wsV RX5 250 RX5 yX5_outputOf wsX5_outputOf) := goodIn_app (goodIn_of _ (by decide +kernel)) ggX5_fillLevelRow_X5_outputOf
theorem dX5_fillLevelRow_0 : decode cX5_fillLevelRow 0 = .ok (.iconst 0, 1) := by decide +kernel
theorem dX5_fillLevelRow_1 : decode cX5_fillLevelRow 1 = .ok (.istore_n 1, 1) := by decide +kernel
theorem dX5_fillLevelRow_2 : decode cX5_fillLevelRow 2 = .ok (.iload_n 1, 1) := by decide +kernel
theorem dX5_fillLevelRow_3 : decode cX5_fillLevelRow 3 = .ok (.bipush 12, 2) := by decide +kernel
theorem dX5_fillLevelRow_5 : decode cX5_fillLevelRow 5 = .ok (.if_icmp .ge 20, 3) := by decide +kernel
theorem dX5_fillLevelRow_8 : decode cX5_fillLevelRow 8 = .ok (.aload_n 0, 1) := by decide +kernel
theorem dX5_fillLevelRow_9 : decode cX5_fillLevelRow 9 = .ok (.getfield 38, 3) := by decide +kernel
theorem dX5_fillLevelRow_12 : decode cX5_fillLevelRow 12 = .ok (.iload_n 1, 1) := by decide +kernel
theorem dX5_fillLevelRow_13 : decode cX5_fillLevelRow 13 = .ok (.aload_n 0, 1) := by decide +kernel
theorem dX5_fillLevelRow_14 : decode cX5_fillLevelRow 14 = .ok (.iload_n 1, 1) := by decide +kernel
theorem dX5_fillLevelRow_15 : decode cX5_fillLevelRow 15 = .ok (.invokevirtual 201, 3) := by decide +kernel
theorem dX5_fillLevelRow_18 : decode cX5_fillLevelRow 18 = .ok (.iastore, 1) := by decide +kernel
theorem dX5_fillLevelRow_19 : decode cX5_fillLevelRow 19 = .ok (.iinc 1 1, 3) := by decide +kernel
theorem dX5_fillLevelRow_22 : decode cX5_fillLevelRow 22 = .ok (.goto (-20), 3) := by decide +kernel
theorem dX5_fillLevelRow_25 : decode cX5_fillLevelRow 25 = .ok (.iconst 0, 1) := by decide +kernel
theorem dX5_fillLevelRow_26 : decode cX5_fillLevelRow 26 = .ok (.istore_n 1, 1) := by decide +kernel
theorem dX5_fillLevelRow_27 : decode cX5_fillLevelRow 27 = .ok (.iload_n 1, 1) := by decide +kernel
theorem dX5_fillLevelRow_28 : decode cX5_fillLevelRow 28 = .ok (.aload_n 0, 1) := by decide +kernel
theorem dX5_fillLevelRow_29 : decode cX5_fillLevelRow 29 = .ok (.getfield 32, 3) := by decide +kernel
theorem dX5_fillLevelRow_32 : decode cX5_fillLevelRow 32 = .ok (.invokevirtual 78, 3) := by decide +kernel
theorem dX5_fillLevelRow_35 : decode cX5_fillLevelRow 35 = .ok (.if_icmp .ge 41, 3) := by decide +kernel
theorem dX5_fillLevelRow_38 : decode cX5_fillLevelRow 38 = .ok (.aload_n 0, 1) := by decide +kernel
theorem dX5_fillLevelRow_39 : decode cX5_fillLevelRow 39 = .ok (.getfield 32, 3) := by decide +kernel
theorem dX5_fillLevelRow_42 : decode cX5_fillLevelRow 42 = .ok (.iload_n 1, 1) := by decide +kernel
theorem dX5_fillLevelRow_43 : decode cX5_fillLevelRow 43 = .ok (.invokevirtual 114, 3) := by decide +kernel
theorem dX5_fillLevelRow_46 : decode cX5_fillLevelRow 46 = .ok (.checkcast 211, 3) := by decide +kernel
theorem dX5_fillLevelRow_49 : decode cX5_fillLevelRow 49 = .ok (.getfield 219, 3) := by decide +kernel
theorem dX5_fillLevelRow_52 : decode cX5_fillLevelRow 52 = .ok (.ifCond .eq 18, 3) := by decide +kernel
theorem dX5_fillLevelRow_55 : decode cX5_fillLevelRow 55 = .ok (.aload_n 0, 1) := by decide +kernel
theorem dX5_fillLevelRow_56 : decode cX5_fillLevelRow 56 = .ok (.aload_n 0, 1) := by decide +kernel
theorem dX5_fillLevelRow_57 : decode cX5_fillLevelRow 57 = .ok (.getfield 32, 3) := by decide +kernel
theorem dX5_fillLevelRow_60 : decode cX5_fillLevelRow 60 = .ok (.iload_n 1, 1) := by decide +kernel
theorem dX5_fillLevelRow_61 : decode cX5_fillLevelRow 61 = .ok (.invokevirtual 114, 3) := by decide +kernel
theorem dX5_fillLevelRow_64 : decode cX5_fillLevelRow 64 = .ok (.checkcast 211, 3) := by decide +kernel
theorem dX5_fillLevelRow_67 : decode cX5_fillLevelRow 67 = .ok (.invokevirtual 348, 3) := by decide +kernel
theorem dX5_fillLevelRow_70 : decode cX5_fillLevelRow 70 = .ok (.iinc 1 1, 3) := by decide +kernel
theorem dX5_fillLevelRow_73 : decode cX5_fillLevelRow 73 = .ok (.goto (-46), 3) := by decide +kernel
theorem dX5_fillLevelRow_76 : decode cX5_fillLevelRow 76 = .ok (.iconst 0, 1) := by decide +kernel
theorem dX5_fillLevelRow_77 : decode cX5_fillLevelRow 77 = .ok (.istore_n 1, 1) := by decide +kernel
theorem dX5_fillLevelRow_78 : decode cX5_fillLevelRow 78 = .ok (.iload_n 1, 1) := by decide +kernel
theorem dX5_fillLevelRow_79 : decode cX5_fillLevelRow 79 = .ok (.bipush 12, 2) := by decide +kernel
theorem dX5_fillLevelRow_81 : decode cX5_fillLevelRow 81 = .ok (.if_icmp .ge 26, 3) := by decide +kernel
theorem dX5_fillLevelRow_84 : decode cX5_fillLevelRow 84 = .ok (.aload_n 0, 1) := by decide +kernel
theorem dX5_fillLevelRow_85 : decode cX5_fillLevelRow 85 = .ok (.getfield 38, 3) := by decide +kernel
theorem dX5_fillLevelRow_88 : decode cX5_fillLevelRow 88 = .ok (.iload_n 1, 1) := by decide +kernel
theorem dX5_fillLevelRow_89 : decode cX5_fillLevelRow 89 = .ok (.aload_n 0, 1) := by decide +kernel
theorem dX5_fillLevelRow_90 : decode cX5_fillLevelRow 90 = .ok (.iload_n 1, 1) := by decide +kernel
theorem dX5_fillLevelRow_91 : decode cX5_fillLevelRow 91 = .ok (.aload_n 0, 1) := by decide +kernel
theorem dX5_fillLevelRow_92 : decode cX5_fillLevelRow 92 = .ok (.getfield 38, 3) := by decide +kernel
theorem dX5_fillLevelRow_95 : decode cX5_fillLevelRow 95 = .ok (.iload_n 1, 1) := by decide +kernel
theorem dX5_fillLevelRow_96 : decode cX5_fillLevelRow 96 = .ok (.iaload, 1) := by decide +kernel
theorem dX5_fillLevelRow_97 : decode cX5_fillLevelRow 97 = .ok (.invokevirtual 250, 3) := by decide +kernel
theorem dX5_fillLevelRow_100 : decode cX5_fillLevelRow 100 = .ok (.iastore, 1) := by decide +kernel
theorem dX5_fillLevelRow_101 : decode cX5_fillLevelRow 101 = .ok (.iinc 1 1, 3) := by decide +kernel
theorem dX5_fillLevelRow_104 : decode cX5_fillLevelRow 104 = .ok (.goto (-26), 3) := by decide +kernel
theorem dX5_fillLevelRow_107 : decode cX5_fillLevelRow 107 = .ok (.return_, 1) := by decide +kernel
set_option maxRecDepth 20000 in
theorem ggX5_addToLevelRow_X2_valueAt : GoodIn wsX5_addToLevelRow wsX2_valueAt := goodIn_ca (goodIn_r _ [10, 11, 12, 13, 14, 15, 16, 17, 18, 19, 20, 21] (by decide +kernel) (by decide +kernel)) (goodIn_sub (fun _ h => List.mem_cons_of_mem _ (List.mem_append_right _ h)) (by decide +kernel))
set_option maxRecDepth 20000 in
theorem gX5_addToLevelRow_X2_valueAt : GoodIn wsX5_addToLevelRow (wsV RX5 342 RX2 yX2_valueAt wsX2_valueAt) := goodIn_app (goodIn_of _ (by decide +kernel)) ggX5_addToLevelRow_X2_valueAt
theorem dX5_addToLevelRow_0 : decode cX5_addToLevelRow 0 = .ok (.iconst 0, 1) := by decide +kernel
theorem dX5_addToLevelRow_1 : decode cX5_addToLevelRow 1 = .ok (.istore_n 2, 1) := by decide +kernel
theorem dX5_addToLevelRow_2 : decode cX5_addToLevelRow 2 = .ok (.iconst 0, 1) := by decide +kernel
theorem dX5_addToLevelRow_3 : decode cX5_addToLevelRow 3 = .ok (.istore_n 3, 1) := by decide +kernel
theorem dX5_addToLevelRow_4 : decode cX5_addToLevelRow 4 = .ok (.iload_n 3, 1) := by decide +kernel
theorem dX5_addToLevelRow_5 : decode cX5_addToLevelRow 5 = .ok (.bipush 12, 2) := by decide +kernel
theorem dX5_addToLevelRow_7 : decode cX5_addToLevelRow 7 = .ok (.if_icmp .ge 47, 3) := by decide +kernel
theorem dX5_addToLevelRow_10 : decode cX5_addToLevelRow 10 = .ok (.aload_n 1, 1) := by decide +kernel
theorem dX5_addToLevelRow_11 : decode cX5_addToLevelRow 11 = .ok (.getfield 335, 3) := by decide +kernel
theorem dX5_addToLevelRow_14 : decode cX5_addToLevelRow 14 = .ok (.getfield 186, 3) := by decide +kernel
theorem dX5_addToLevelRow_17 : decode cX5_addToLevelRow 17 = .ok (.iload_n 3, 1) := by decide +kernel
theorem dX5_addToLevelRow_18 : decode cX5_addToLevelRow 18 = .ok (.baload, 1) := by decide +kernel
theorem dX5_addToLevelRow_19 : decode cX5_addToLevelRow 19 = .ok (.ifCond .eq 29, 3) := by decide +kernel
theorem dX5_addToLevelRow_22 : decode cX5_addToLevelRow 22 = .ok (.aload_n 0, 1) := by decide +kernel
theorem dX5_addToLevelRow_23 : decode cX5_addToLevelRow 23 = .ok (.getfield 38, 3) := by decide +kernel
theorem dX5_addToLevelRow_26 : decode cX5_addToLevelRow 26 = .ok (.iload_n 3, 1) := by decide +kernel
theorem dX5_addToLevelRow_27 : decode cX5_addToLevelRow 27 = .ok (.dup2, 1) := by decide +kernel
theorem dX5_addToLevelRow_28 : decode cX5_addToLevelRow 28 = .ok (.iaload, 1) := by decide +kernel
theorem dX5_addToLevelRow_29 : decode cX5_addToLevelRow 29 = .ok (.aload_n 1, 1) := by decide +kernel
theorem dX5_addToLevelRow_30 : decode cX5_addToLevelRow 30 = .ok (.aload_n 0, 1) := by decide +kernel
theorem dX5_addToLevelRow_31 : decode cX5_addToLevelRow 31 = .ok (.getfield 20, 3) := by decide +kernel
theorem dX5_addToLevelRow_34 : decode cX5_addToLevelRow 34 = .ok (.aload_n 1, 1) := by decide +kernel
theorem dX5_addToLevelRow_35 : decode cX5_addToLevelRow 35 = .ok (.getfield 224, 3) := by decide +kernel
theorem dX5_addToLevelRow_38 : decode cX5_addToLevelRow 38 = .ok (.isub, 1) := by decide +kernel
theorem dX5_addToLevelRow_39 : decode cX5_addToLevelRow 39 = .ok (.iload_n 2, 1) := by decide +kernel
theorem dX5_addToLevelRow_40 : decode cX5_addToLevelRow 40 = .ok (.invokevirtual 342, 3) := by decide +kernel
theorem dX5_addToLevelRow_43 : decode cX5_addToLevelRow 43 = .ok (.iadd, 1) := by decide +kernel
theorem dX5_addToLevelRow_44 : decode cX5_addToLevelRow 44 = .ok (.iastore, 1) := by decide +kernel
theorem dX5_addToLevelRow_45 : decode cX5_addToLevelRow 45 = .ok (.iinc 2 1, 3) := by decide +kernel
theorem dX5_addToLevelRow_48 : decode cX5_addToLevelRow 48 = .ok (.iinc 3 1, 3) := by decide +kernel
theorem dX5_addToLevelRow_51 : decode cX5_addToLevelRow 51 = .ok (.goto (-47), 3) := by decide +kernel
theorem dX5_addToLevelRow_54 : decode cX5_addToLevelRow 54 = .ok (.return_, 1) := by decide +kernel
theorem dX5_rankInRow_0 : decode cX5_rankInRow 0 = .ok (.iconst 0, 1) := by decide +kernel
theorem dX5_rankInRow_1 : decode cX5_rankInRow 1 = .ok (.istore_n 2, 1) := by decide +kernel
theorem dX5_rankInRow_2 : decode cX5_rankInRow 2 = .ok (.iconst 0, 1) := by decide +kernel
theorem dX5_rankInRow_3 : decode cX5_rankInRow 3 = .ok (.istore_n 3, 1) := by decide +kernel
theorem dX5_rankInRow_4 : decode cX5_rankInRow 4 = .ok (.iload_n 3, 1) := by decide +kernel
theorem dX5_rankInRow_5 : decode cX5_rankInRow 5 = .ok (.bipush 12, 2) := by decide +kernel
theorem dX5_rankInRow_7 : decode cX5_rankInRow 7 = .ok (.if_icmp .ge 47, 3) := by decide +kernel
theorem dX5_rankInRow_10 : decode cX5_rankInRow 10 = .ok (.aload_n 0, 1) := by decide +kernel
theorem dX5_rankInRow_11 : decode cX5_rankInRow 11 = .ok (.getfield 38, 3) := by decide +kernel
theorem dX5_rankInRow_14 : decode cX5_rankInRow 14 = .ok (.iload_n 3, 1) := by decide +kernel
theorem dX5_rankInRow_15 : decode cX5_rankInRow 15 = .ok (.iaload, 1) := by decide +kernel
theorem dX5_rankInRow_16 : decode cX5_rankInRow 16 = .ok (.aload_n 0, 1) := by decide +kernel
theorem dX5_rankInRow_17 : decode cX5_rankInRow 17 = .ok (.getfield 38, 3) := by decide +kernel
theorem dX5_rankInRow_20 : decode cX5_rankInRow 20 = .ok (.iload_n 1, 1) := by decide +kernel
theorem dX5_rankInRow_21 : decode cX5_rankInRow 21 = .ok (.iaload, 1) := by decide +kernel
theorem dX5_rankInRow_22 : decode cX5_rankInRow 22 = .ok (.if_icmp .gt 23, 3) := by decide +kernel
theorem dX5_rankInRow_25 : decode cX5_rankInRow 25 = .ok (.aload_n 0, 1) := by decide +kernel
theorem dX5_rankInRow_26 : decode cX5_rankInRow 26 = .ok (.getfield 38, 3) := by decide +kernel
theorem dX5_rankInRow_29 : decode cX5_rankInRow 29 = .ok (.iload_n 3, 1) := by decide +kernel
theorem dX5_rankInRow_30 : decode cX5_rankInRow 30 = .ok (.iaload, 1) := by decide +kernel
theorem dX5_rankInRow_31 : decode cX5_rankInRow 31 = .ok (.aload_n 0, 1) := by decide +kernel
theorem dX5_rankInRow_32 : decode cX5_rankInRow 32 = .ok (.getfield 38, 3) := by decide +kernel
theorem dX5_rankInRow_35 : decode cX5_rankInRow 35 = .ok (.iload_n 1, 1) := by decide +kernel
theorem dX5_rankInRow_36 : decode cX5_rankInRow 36 = .ok (.iaload, 1) := by decide +kernel
theorem dX5_rankInRow_37 : decode cX5_rankInRow 37 = .ok (.if_icmp .ne 11, 3) := by decide +kernel
theorem dX5_rankInRow_40 : decode cX5_rankInRow 40 = .ok (.iload_n 3, 1) := by decide +kernel
theorem dX5_rankInRow_41 : decode cX5_rankInRow 41 = .ok (.iload_n 1, 1) := by decide +kernel
theorem dX5_rankInRow_42 : decode cX5_rankInRow 42 = .ok (.if_icmp .ge 6, 3) := by decide +kernel
theorem dX5_rankInRow_45 : decode cX5_rankInRow 45 = .ok (.iinc 2 1, 3) := by decide +kernel
theorem dX5_rankInRow_48 : decode cX5_rankInRow 48 = .ok (.iinc 3 1, 3) := by decide +kernel
theorem dX5_rankInRow_51 : decode cX5_rankInRow 51 = .ok (.goto (-47), 3) := by decide +kernel
theorem dX5_rankInRow_54 : decode cX5_rankInRow 54 = .ok (.iload_n 2, 1) := by decide +kernel
theorem dX5_rankInRow_55 : decode cX5_rankInRow 55 = .ok (.ireturn, 1) := by decide +kernel
set_option maxRecDepth 20000 in
theorem ggX5_faultOf_X5_hasCueAbove : GoodIn wsX5_faultOf wsX5_hasCueAbove := goodIn_r _ [8, 9, 10, 11, 12, 7, 13, 14, 15, 16, 17, 18, 19, 20, 21, 22, 23, 24, 25, 26, 27, 28, 29, 30, 31, 32, 33, 34, 35, 36, 37, 38, 39, 40, 41, 42, 43, 79, 80, 81, 82, 83, 84, 85, 86, 87, 88, 89, 90, 91, 92, 93, 94, 95, 96, 97] (by decide +kernel) (by decide +kernel)
set_option maxRecDepth 20000 in
theorem gX5_faultOf_X5_hasCueAbove : GoodIn wsX5_faultOf (wsV RX5 133 RX5 yX5_hasCueAbove wsX5_hasCueAbove) := goodIn_app (goodIn_of _ (by decide +kernel)) ggX5_faultOf_X5_hasCueAbove
set_option maxRecDepth 20000 in
theorem ggX5_faultOf_X5_hasCueBelow : GoodIn wsX5_faultOf wsX5_hasCueBelow := goodIn_r _ [47, 48, 49, 50, 7, 51, 14, 15, 16, 17, 18, 9, 19, 20, 21, 22, 23, 24, 25, 26, 27, 28, 29, 30, 31, 32, 33, 34, 35, 36, 37, 38, 39, 40, 41, 42, 43, 79, 80, 81, 82, 83, 84, 85, 86, 87, 88, 89, 90, 91, 92, 93, 94, 95, 96, 97] (by decide +kernel) (by decide +kernel)
set_option maxRecDepth 20000 in
theorem gX5_faultOf_X5_hasCueBelow : GoodIn wsX5_faultOf (wsV RX5 145 RX5 yX5_hasCueBelow wsX5_hasCueBelow) := goodIn_app (goodIn_of _ (by decide +kernel)) ggX5_faultOf_X5_hasCueBelow
set_option maxRecDepth 20000 in
theorem ggX5_faultOf_X5_hasCue : GoodIn wsX5_faultOf wsX5_hasCue := goodIn_r _ [55, 9, 19, 20, 15, 16, 17, 7, 18, 21, 22, 23, 24, 25, 26, 27, 28, 29, 30, 31, 32, 33, 34, 35, 36, 37, 38, 39, 40, 41, 42, 43, 79, 80, 81, 82, 83, 84, 85, 86, 87, 88, 89, 90, 91, 92, 93, 94, 95, 96, 97] (by decide +kernel) (by decide +kernel)
set_option maxRecDepth 20000 in
theorem gX5_faultOf_X5_hasCue : GoodIn wsX5_faultOf (wsV RX5 69 RX5 yX5_hasCue wsX5_hasCue) := goodIn_app (goodIn_of _ (by decide +kernel)) ggX5_faultOf_X5_hasCue
set_option maxRecDepth 20000 in
theorem ggX5_faultOf_X5_isGroup : GoodIn wsX5_faultOf wsX5_isGroup := goodIn_r _ [59, 60, 21, 22, 23, 24, 25, 26, 61, 62, 7, 63, 79, 80, 81, 82, 83, 84, 85, 86, 87, 88, 89, 95, 96, 97] (by decide +kernel) (by decide +kernel)
set_option maxRecDepth 20000 in
theorem gX5_faultOf_X5_isGroup : GoodIn wsX5_faultOf (wsV RX5 302 RX5 yX5_isGroup wsX5_isGroup) := goodIn_app (goodIn_of _ (by decide +kernel)) ggX5_faultOf_X5_isGroup
set_option maxRecDepth 20000 in
theorem ggX5_faultOf_X5_faultOfLevel : GoodIn wsX5_faultOf wsX5_faultOfLevel := goodIn_r _ [66, 67, 68, 7, 69, 61, 62, 63] (by decide +kernel) (by decide +kernel)
set_option maxRecDepth 20000 in
theorem gX5_faultOf_X5_faultOfLevel : GoodIn wsX5_faultOf (va_wsS RX5 361 yX5_faultOfLevel wsX5_faultOfLevel) := goodIn_app (goodIn_of _ (by decide +kernel)) ggX5_faultOf_X5_faultOfLevel
set_option maxRecDepth 20000 in
theorem ggX5_faultOf_X5_isChannel : GoodIn wsX5_faultOf wsX5_isChannel := goodIn_r _ [72, 61, 62, 7, 63] (by decide +kernel) (by decide +kernel)
set_option maxRecDepth 20000 in
theorem gX5_faultOf_X5_isChannel : GoodIn wsX5_faultOf (va_wsS RX5 292 yX5_isChannel wsX5_isChannel) := goodIn_app (goodIn_of _ (by decide +kernel)) ggX5_faultOf_X5_isChannel
set_option maxRecDepth 20000 in
theorem ggX5_faultOf_X5_isLevel : GoodIn wsX5_faultOf wsX5_isLevel := goodIn_r _ [69, 61, 62, 7, 63] (by decide +kernel) (by decide +kernel)
set_option maxRecDepth 20000 in
theorem gX5_faultOf_X5_isLevel : GoodIn wsX5_faultOf (va_wsS RX5 297 yX5_isLevel wsX5_isLevel) := goodIn_app (goodIn_of _ (by decide +kernel)) ggX5_faultOf_X5_isLevel
set_option maxRecDepth 20000 in
theorem ggX5_faultOf_X5_isPassing : GoodIn wsX5_faultOf wsX5_isPassing := goodIn_r _ [75, 61, 62, 7, 63] (by decide +kernel) (by decide +kernel)
set_option maxRecDepth 20000 in
theorem gX5_faultOf_X5_isPassing : GoodIn wsX5_faultOf (va_wsS RX5 156 yX5_isPassing wsX5_isPassing) := goodIn_app (goodIn_of _ (by decide +kernel)) ggX5_faultOf_X5_isPassing
theorem dX5_faultOf_0 : decode cX5_faultOf 0 = .ok (.aload_n 1, 1) := by decide +kernel
theorem dX5_faultOf_1 : decode cX5_faultOf 1 = .ok (.getfield 352, 3) := by decide +kernel
theorem dX5_faultOf_4 : decode cX5_faultOf 4 = .ok (.tableswitch 190 98 116 #[107, 190, 190, 190, 141, 92, 190, 190, 190, 190, 190, 172, 190, 190, 157, 190, 190, 190, 122], 92) := by decide +kernel
theorem dX5_faultOf_96 : decode cX5_faultOf 96 = .ok (.aload_n 0, 1) := by decide +kernel
theorem dX5_faultOf_97 : decode cX5_faultOf 97 = .ok (.invokevirtual 133, 3) := by decide +kernel
theorem dX5_faultOf_100 : decode cX5_faultOf 100 = .ok (.ifCond .eq 8, 3) := by decide +kernel
theorem dX5_faultOf_103 : decode cX5_faultOf 103 = .ok (.bipush 110, 2) := by decide +kernel
theorem dX5_faultOf_105 : decode cX5_faultOf 105 = .ok (.goto 5, 3) := by decide +kernel
theorem dX5_faultOf_108 : decode cX5_faultOf 108 = .ok (.bipush 101, 2) := by decide +kernel
theorem dX5_faultOf_110 : decode cX5_faultOf 110 = .ok (.ireturn, 1) := by decide +kernel
theorem dX5_faultOf_111 : decode cX5_faultOf 111 = .ok (.aload_n 0, 1) := by decide +kernel
theorem dX5_faultOf_112 : decode cX5_faultOf 112 = .ok (.invokevirtual 145, 3) := by decide +kernel
theorem dX5_faultOf_115 : decode cX5_faultOf 115 = .ok (.ifCond .eq 8, 3) := by decide +kernel
theorem dX5_faultOf_118 : decode cX5_faultOf 118 = .ok (.bipush 110, 2) := by decide +kernel
theorem dX5_faultOf_120 : decode cX5_faultOf 120 = .ok (.goto 5, 3) := by decide +kernel
theorem dX5_faultOf_123 : decode cX5_faultOf 123 = .ok (.bipush 101, 2) := by decide +kernel
theorem dX5_faultOf_125 : decode cX5_faultOf 125 = .ok (.ireturn, 1) := by decide +kernel
theorem dX5_faultOf_126 : decode cX5_faultOf 126 = .ok (.aload_n 0, 1) := by decide +kernel
theorem dX5_faultOf_127 : decode cX5_faultOf 127 = .ok (.aload_n 1, 1) := by decide +kernel
theorem dX5_faultOf_128 : decode cX5_faultOf 128 = .ok (.getfield 355, 3) := by decide +kernel
theorem dX5_faultOf_131 : decode cX5_faultOf 131 = .ok (.invokevirtual 69, 3) := by decide +kernel
theorem dX5_faultOf_134 : decode cX5_faultOf 134 = .ok (.ifCond .eq 8, 3) := by decide +kernel
theorem dX5_faultOf_137 : decode cX5_faultOf 137 = .ok (.bipush 110, 2) := by decide +kernel
theorem dX5_faultOf_139 : decode cX5_faultOf 139 = .ok (.goto 5, 3) := by decide +kernel
theorem dX5_faultOf_142 : decode cX5_faultOf 142 = .ok (.bipush 101, 2) := by decide +kernel
theorem dX5_faultOf_144 : decode cX5_faultOf 144 = .ok (.ireturn, 1) := by decide +kernel
theorem dX5_faultOf_145 : decode cX5_faultOf 145 = .ok (.aload_n 0, 1) := by decide +kernel
theorem dX5_faultOf_146 : decode cX5_faultOf 146 = .ok (.aload_n 1, 1) := by decide +kernel
theorem dX5_faultOf_147 : decode cX5_faultOf 147 = .ok (.getfield 355, 3) := by decide +kernel
theorem dX5_faultOf_150 : decode cX5_faultOf 150 = .ok (.invokevirtual 302, 3) := by decide +kernel
theorem dX5_faultOf_153 : decode cX5_faultOf 153 = .ok (.aload_n 1, 1) := by decide +kernel
theorem dX5_faultOf_154 : decode cX5_faultOf 154 = .ok (.getfield 358, 3) := by decide +kernel
theorem dX5_faultOf_157 : decode cX5_faultOf 157 = .ok (.invokestatic 361, 3) := by decide +kernel
theorem dX5_faultOf_160 : decode cX5_faultOf 160 = .ok (.ireturn, 1) := by decide +kernel
theorem dX5_faultOf_161 : decode cX5_faultOf 161 = .ok (.aload_n 1, 1) := by decide +kernel
theorem dX5_faultOf_162 : decode cX5_faultOf 162 = .ok (.getfield 355, 3) := by decide +kernel
theorem dX5_faultOf_165 : decode cX5_faultOf 165 = .ok (.invokestatic 292, 3) := by decide +kernel
theorem dX5_faultOf_168 : decode cX5_faultOf 168 = .ok (.aload_n 1, 1) := by decide +kernel
theorem dX5_faultOf_169 : decode cX5_faultOf 169 = .ok (.getfield 358, 3) := by decide +kernel
theorem dX5_faultOf_172 : decode cX5_faultOf 172 = .ok (.invokestatic 361, 3) := by decide +kernel
theorem dX5_faultOf_175 : decode cX5_faultOf 175 = .ok (.ireturn, 1) := by decide +kernel
theorem dX5_faultOf_176 : decode cX5_faultOf 176 = .ok (.aload_n 1, 1) := by decide +kernel
theorem dX5_faultOf_177 : decode cX5_faultOf 177 = .ok (.getfield 355, 3) := by decide +kernel
theorem dX5_faultOf_180 : decode cX5_faultOf 180 = .ok (.invokestatic 297, 3) := by decide +kernel
theorem dX5_faultOf_183 : decode cX5_faultOf 183 = .ok (.ifCond .eq 8, 3) := by decide +kernel
theorem dX5_faultOf_186 : decode cX5_faultOf 186 = .ok (.bipush 110, 2) := by decide +kernel
theorem dX5_faultOf_188 : decode cX5_faultOf 188 = .ok (.goto 5, 3) := by decide +kernel
theorem dX5_faultOf_191 : decode cX5_faultOf 191 = .ok (.bipush 97, 2) := by decide +kernel
theorem dX5_faultOf_193 : decode cX5_faultOf 193 = .ok (.ireturn, 1) := by decide +kernel
theorem dX5_faultOf_194 : decode cX5_faultOf 194 = .ok (.aload_n 1, 1) := by decide +kernel
theorem dX5_faultOf_195 : decode cX5_faultOf 195 = .ok (.getfield 355, 3) := by decide +kernel
theorem dX5_faultOf_198 : decode cX5_faultOf 198 = .ok (.invokestatic 156, 3) := by decide +kernel
theorem dX5_faultOf_201 : decode cX5_faultOf 201 = .ok (.ifCond .eq 8, 3) := by decide +kernel
theorem dX5_faultOf_204 : decode cX5_faultOf 204 = .ok (.bipush 110, 2) := by decide +kernel
theorem dX5_faultOf_206 : decode cX5_faultOf 206 = .ok (.goto 5, 3) := by decide +kernel
theorem dX5_faultOf_209 : decode cX5_faultOf 209 = .ok (.bipush 97, 2) := by decide +kernel
theorem dX5_faultOf_211 : decode cX5_faultOf 211 = .ok (.ireturn, 1) := by decide +kernel
set_option maxRecDepth 20000 in
theorem ggX5_faultOfLevel_X5_isLevel : GoodIn wsX5_faultOfLevel wsX5_isLevel := goodIn_r _ [4, 5, 6, 3, 7] (by decide +kernel) (by decide +kernel)
set_option maxRecDepth 20000 in
theorem gX5_faultOfLevel_X5_isLevel : GoodIn wsX5_faultOfLevel (va_wsS RX5 297 yX5_isLevel wsX5_isLevel) := goodIn_app (goodIn_of _ (by decide +kernel)) ggX5_faultOfLevel_X5_isLevel
theorem dX5_faultOfLevel_0 : decode cX5_faultOfLevel 0 = .ok (.iload_n 0, 1) := by decide +kernel
theorem dX5_faultOfLevel_1 : decode cX5_faultOfLevel 1 = .ok (.ifCond .ne 6, 3) := by decide +kernel
theorem dX5_faultOfLevel_4 : decode cX5_faultOfLevel 4 = .ok (.bipush 105, 2) := by decide +kernel
theorem dX5_faultOfLevel_6 : decode cX5_faultOfLevel 6 = .ok (.ireturn, 1) := by decide +kernel
theorem dX5_faultOfLevel_7 : decode cX5_faultOfLevel 7 = .ok (.iload_n 1, 1) := by decide +kernel
theorem dX5_faultOfLevel_8 : decode cX5_faultOfLevel 8 = .ok (.invokestatic 297, 3) := by decide +kernel
theorem dX5_faultOfLevel_11 : decode cX5_faultOfLevel 11 = .ok (.ifCond .eq 8, 3) := by decide +kernel
theorem dX5_faultOfLevel_14 : decode cX5_faultOfLevel 14 = .ok (.bipush 110, 2) := by decide +kernel
theorem dX5_faultOfLevel_16 : decode cX5_faultOfLevel 16 = .ok (.goto 5, 3) := by decide +kernel
theorem dX5_faultOfLevel_19 : decode cX5_faultOfLevel 19 = .ok (.bipush 97, 2) := by decide +kernel
theorem dX5_faultOfLevel_21 : decode cX5_faultOfLevel 21 = .ok (.ireturn, 1) := by decide +kernel
set_option maxRecDepth 20000 in
theorem ggX5_doStep_X5_placeAbove : GoodIn wsX5_doStep wsX5_placeAbove := goodIn_r _ [8, 9, 10, 11, 12, 7, 13, 14, 15, 16, 17, 18, 19, 20, 21, 22, 23, 24, 25, 26, 27, 28, 29, 30, 31, 32, 33, 34, 35, 36, 37, 38, 39, 153, 154, 155, 156, 157, 158, 159, 160, 161, 162, 163, 164, 165, 166, 167, 168, 169, 170, 171] (by decide +kernel) (by decide +kernel)
set_option maxRecDepth 20000 in
theorem gX5_doStep_X5_placeAbove : GoodIn wsX5_doStep (wsV RX5 139 RX5 yX5_placeAbove wsX5_placeAbove) := goodIn_app (goodIn_of _ (by decide +kernel)) ggX5_doStep_X5_placeAbove
set_option maxRecDepth 20000 in
theorem ggX5_doStep_X5_playPlace : GoodIn wsX5_doStep wsX5_playPlace := goodIn_ca (goodIn_r _ [43, 14, 15, 44, 45, 46, 16, 9, 23, 24, 25, 20, 26, 22, 27, 28, 29, 30, 31, 32, 33, 34, 35, 36, 37, 38, 39, 47, 48, 49, 7, 50, 51, 52, 53, 54, 55, 56, 57, 58, 59, 60, 61, 62, 63, 64, 153, 154, 155, 156, 157, 158, 159, 160, 161, 162, 163, 164, 165, 166, 167, 168, 169, 170, 171, 172, 173, 174, 175, 176, 177, 178, 179, 180] (by decide +kernel) (by decide +kernel)) (goodIn_sub (fun _ h => List.mem_cons_of_mem _ (List.mem_append_left _ (List.mem_append_right _ h))) (by decide +kernel))
set_option maxRecDepth 20000 in
theorem gX5_doStep_X5_playPlace : GoodIn wsX5_doStep (wsV RX5 142 RX5 yX5_playPlace wsX5_playPlace) := goodIn_app (goodIn_of _ (by decide +kernel)) ggX5_doStep_X5_playPlace
set_option maxRecDepth 20000 in
theorem ggX5_doStep_X5_placeBelow : GoodIn wsX5_doStep wsX5_placeBelow := goodIn_r _ [68, 9, 10, 11, 12, 7, 13, 14, 15, 16, 17, 18, 19, 20, 21, 22, 23, 24, 25, 26, 27, 28, 29, 30, 31, 32, 33, 34, 35, 36, 37, 38, 39, 153, 154, 155, 156, 157, 158, 159, 160, 161, 162, 163, 164, 165, 166, 167, 168, 169, 170, 171] (by decide +kernel) (by decide +kernel)
set_option maxRecDepth 20000 in
theorem gX5_doStep_X5_placeBelow : GoodIn wsX5_doStep (wsV RX5 150 RX5 yX5_placeBelow wsX5_placeBelow) := goodIn_app (goodIn_of _ (by decide +kernel)) ggX5_doStep_X5_placeBelow
set_option maxRecDepth 20000 in
theorem ggX5_doStep_X5_placeOf : GoodIn wsX5_doStep wsX5_placeOf := goodIn_r _ [13, 14, 15, 16, 17, 18, 19, 20, 21, 22, 23, 24, 25, 26, 27, 28, 29, 30, 31, 32, 33, 34, 35, 36, 37, 38, 39, 153, 154, 155, 156, 157, 158, 159, 160, 161, 162, 163, 164, 165, 166, 167, 168, 169, 170, 171] (by decide +kernel) (by decide +kernel)
set_option maxRecDepth 20000 in
theorem gX5_doStep_X5_placeOf : GoodIn wsX5_doStep (wsV RX5 87 RX5 yX5_placeOf wsX5_placeOf) := goodIn_app (goodIn_of _ (by decide +kernel)) ggX5_doStep_X5_placeOf
set_option maxRecDepth 20000 in
theorem ggX5_doStep_X5_moveFader : GoodIn wsX5_doStep wsX5_moveFader := goodIn_ca (goodIn_r _ [72, 73, 74, 75, 44, 76, 77, 23, 24, 25, 20, 26, 22, 27, 28, 29, 30, 31, 32, 33, 34, 35, 36, 37, 38, 39, 153, 154, 155, 156, 157, 158, 159, 160, 161, 162, 163, 181, 182, 172, 173, 174, 175, 176, 177, 178, 179, 180, 169, 170, 171] (by decide +kernel) (by decide +kernel)) (goodIn_sub (fun _ h => List.mem_cons_of_mem _ (List.mem_append_left _ (List.mem_append_right _ h))) (by decide +kernel))
set_option maxRecDepth 20000 in
theorem gX5_doStep_X5_moveFader : GoodIn wsX5_doStep (wsV RX5 190 RX5 yX5_moveFader wsX5_moveFader) := goodIn_app (goodIn_of _ (by decide +kernel)) ggX5_doStep_X5_moveFader
set_option maxRecDepth 20000 in
theorem ggX5_doStep_X5_parkAt : GoodIn wsX5_doStep wsX5_parkAt := goodIn_r _ [81, 44, 82, 153, 154, 155, 156, 157, 158, 159, 160, 161, 162, 163, 172, 173, 174, 175, 176, 177, 178, 179, 180] (by decide +kernel) (by decide +kernel)
set_option maxRecDepth 20000 in
theorem gX5_doStep_X5_parkAt : GoodIn wsX5_doStep (wsV RX5 236 RX5 yX5_parkAt wsX5_parkAt) := goodIn_app (goodIn_of _ (by decide +kernel)) ggX5_doStep_X5_parkAt
set_option maxRecDepth 20000 in
theorem ggX5_doStep_X5_moveMaster : GoodIn wsX5_doStep wsX5_moveMaster := goodIn_r _ [86, 87, 153, 154, 155, 156, 157, 158, 159, 160, 161, 162, 163] (by decide +kernel) (by decide +kernel)
set_option maxRecDepth 20000 in
theorem gX5_doStep_X5_moveMaster : GoodIn wsX5_doStep (wsV RX5 244 RX5 yX5_moveMaster wsX5_moveMaster) := goodIn_app (goodIn_of _ (by decide +kernel)) ggX5_doStep_X5_moveMaster
set_option maxRecDepth 20000 in
theorem ggX5_doStep_X5_passTicks : GoodIn wsX5_doStep wsX5_passTicks := goodIn_ca (goodIn_ca (goodIn_r _ [91, 92, 44, 93, 94, 95, 96, 97, 56, 98, 59, 58, 62, 63, 60, 99, 100, 101, 102, 64, 103, 104, 105, 7, 106, 107, 108, 109, 110, 111, 112, 113, 114, 115, 116, 117, 118, 76, 73, 74, 75, 77, 119, 17, 18, 19, 20, 21, 22, 23, 24, 25, 26, 27, 28, 29, 30, 31, 32, 33, 34, 35, 36, 37, 38, 39, 120, 121, 122, 123, 124, 125, 126, 127, 128, 129, 130, 131, 132, 133, 134, 135, 136, 137, 138, 139, 140, 141, 142, 143, 144, 145, 146, 82, 147, 148, 149, 87, 153, 154, 155, 156, 157, 158, 159, 160, 161, 162, 163, 172, 173, 174, 175, 176, 177, 178, 179, 180, 183, 184, 185, 186, 187, 188, 189, 181, 182, 169, 170, 171] (by decide +kernel) (by decide +kernel)) (goodIn_sub (fun _ h => List.mem_cons_of_mem _ (List.mem_append_left _ (List.mem_append_right _ h))) (by decide +kernel))) (goodIn_sub (fun _ h => List.mem_cons_of_mem _ (List.mem_append_right _ h)) (by decide +kernel))
set_option maxRecDepth 20000 in
theorem gX5_doStep_X5_passTicks : GoodIn wsX5_doStep (wsV RX5 161 RX5 yX5_passTicks wsX5_passTicks) := goodIn_app (goodIn_of _ (by decide +kernel)) ggX5_doStep_X5_passTicks
theorem dX5_doStep_0 : decode cX5_doStep 0 = .ok (.aload_n 1, 1) := by decide +kernel
theorem dX5_doStep_1 : decode cX5_doStep 1 = .ok (.getfield 352, 3) := by decide +kernel
theorem dX5_doStep_4 : decode cX5_doStep 4 = .ok (.tableswitch 173 98 116 #[103, 173, 173, 173, 129, 92, 173, 173, 173, 173, 173, 161, 173, 173, 145, 173, 173, 173, 114], 92) := by decide +kernel
theorem dX5_doStep_96 : decode cX5_doStep 96 = .ok (.aload_n 0, 1) := by decide +kernel
theorem dX5_doStep_97 : decode cX5_doStep 97 = .ok (.aload_n 0, 1) := by decide +kernel
theorem dX5_doStep_98 : decode cX5_doStep 98 = .ok (.invokevirtual 139, 3) := by decide +kernel
theorem dX5_doStep_101 : decode cX5_doStep 101 = .ok (.invokevirtual 142, 3) := by decide +kernel
theorem dX5_doStep_104 : decode cX5_doStep 104 = .ok (.goto 81, 3) := by decide +kernel
theorem dX5_doStep_107 : decode cX5_doStep 107 = .ok (.aload_n 0, 1) := by decide +kernel
theorem dX5_doStep_108 : decode cX5_doStep 108 = .ok (.aload_n 0, 1) := by decide +kernel
theorem dX5_doStep_109 : decode cX5_doStep 109 = .ok (.invokevirtual 150, 3) := by decide +kernel
theorem dX5_doStep_112 : decode cX5_doStep 112 = .ok (.invokevirtual 142, 3) := by decide +kernel
theorem dX5_doStep_115 : decode cX5_doStep 115 = .ok (.goto 70, 3) := by decide +kernel
theorem dX5_doStep_118 : decode cX5_doStep 118 = .ok (.aload_n 0, 1) := by decide +kernel
theorem dX5_doStep_119 : decode cX5_doStep 119 = .ok (.aload_n 0, 1) := by decide +kernel
theorem dX5_doStep_120 : decode cX5_doStep 120 = .ok (.aload_n 1, 1) := by decide +kernel
theorem dX5_doStep_121 : decode cX5_doStep 121 = .ok (.getfield 355, 3) := by decide +kernel
theorem dX5_doStep_124 : decode cX5_doStep 124 = .ok (.invokevirtual 87, 3) := by decide +kernel
theorem dX5_doStep_127 : decode cX5_doStep 127 = .ok (.invokevirtual 142, 3) := by decide +kernel
theorem dX5_doStep_130 : decode cX5_doStep 130 = .ok (.goto 55, 3) := by decide +kernel
theorem dX5_doStep_133 : decode cX5_doStep 133 = .ok (.aload_n 0, 1) := by decide +kernel
theorem dX5_doStep_134 : decode cX5_doStep 134 = .ok (.aload_n 1, 1) := by decide +kernel
theorem dX5_doStep_135 : decode cX5_doStep 135 = .ok (.getfield 355, 3) := by decide +kernel
theorem dX5_doStep_138 : decode cX5_doStep 138 = .ok (.aload_n 1, 1) := by decide +kernel
theorem dX5_doStep_139 : decode cX5_doStep 139 = .ok (.getfield 358, 3) := by decide +kernel
theorem dX5_doStep_142 : decode cX5_doStep 142 = .ok (.invokevirtual 190, 3) := by decide +kernel
theorem dX5_doStep_145 : decode cX5_doStep 145 = .ok (.pop, 1) := by decide +kernel
theorem dX5_doStep_146 : decode cX5_doStep 146 = .ok (.goto 39, 3) := by decide +kernel
theorem dX5_doStep_149 : decode cX5_doStep 149 = .ok (.aload_n 0, 1) := by decide +kernel
theorem dX5_doStep_150 : decode cX5_doStep 150 = .ok (.aload_n 1, 1) := by decide +kernel
theorem dX5_doStep_151 : decode cX5_doStep 151 = .ok (.getfield 355, 3) := by decide +kernel
theorem dX5_doStep_154 : decode cX5_doStep 154 = .ok (.aload_n 1, 1) := by decide +kernel
theorem dX5_doStep_155 : decode cX5_doStep 155 = .ok (.getfield 358, 3) := by decide +kernel
theorem dX5_doStep_158 : decode cX5_doStep 158 = .ok (.invokevirtual 236, 3) := by decide +kernel
theorem dX5_doStep_161 : decode cX5_doStep 161 = .ok (.pop, 1) := by decide +kernel
theorem dX5_doStep_162 : decode cX5_doStep 162 = .ok (.goto 23, 3) := by decide +kernel
theorem dX5_doStep_165 : decode cX5_doStep 165 = .ok (.aload_n 0, 1) := by decide +kernel
theorem dX5_doStep_166 : decode cX5_doStep 166 = .ok (.aload_n 1, 1) := by decide +kernel
theorem dX5_doStep_167 : decode cX5_doStep 167 = .ok (.getfield 355, 3) := by decide +kernel
theorem dX5_doStep_170 : decode cX5_doStep 170 = .ok (.invokevirtual 244, 3) := by decide +kernel
theorem dX5_doStep_173 : decode cX5_doStep 173 = .ok (.pop, 1) := by decide +kernel
theorem dX5_doStep_174 : decode cX5_doStep 174 = .ok (.goto 11, 3) := by decide +kernel
theorem dX5_doStep_177 : decode cX5_doStep 177 = .ok (.aload_n 0, 1) := by decide +kernel
theorem dX5_doStep_178 : decode cX5_doStep 178 = .ok (.aload_n 1, 1) := by decide +kernel
theorem dX5_doStep_179 : decode cX5_doStep 179 = .ok (.getfield 355, 3) := by decide +kernel
theorem dX5_doStep_182 : decode cX5_doStep 182 = .ok (.invokevirtual 161, 3) := by decide +kernel
theorem dX5_doStep_185 : decode cX5_doStep 185 = .ok (.return_, 1) := by decide +kernel
