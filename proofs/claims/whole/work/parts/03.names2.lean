theorem dX0_init_15 : decode cX0_init 15 = .ok (.bipush 20, 2) := by decide +kernel
theorem dX0_init_17 : decode cX0_init 17 = .ok (.if_icmp .ge 19, 3) := by decide +kernel
theorem dX0_init_20 : decode cX0_init 20 = .ok (.aload_n 0, 1) := by decide +kernel
theorem dX0_init_21 : decode cX0_init 21 = .ok (.getfield 9, 3) := by decide +kernel
theorem dX0_init_24 : decode cX0_init 24 = .ok (.iload_n 1, 1) := by decide +kernel
theorem dX0_init_25 : decode cX0_init 25 = .ok (.iload_n 1, 1) := by decide +kernel
theorem dX0_init_26 : decode cX0_init 26 = .ok (.invokestatic 13, 3) := by decide +kernel
theorem dX0_init_29 : decode cX0_init 29 = .ok (.iastore, 1) := by decide +kernel
theorem dX0_init_30 : decode cX0_init 30 = .ok (.iinc 1 1, 3) := by decide +kernel
theorem dX0_init_33 : decode cX0_init 33 = .ok (.goto (-19), 3) := by decide +kernel
theorem dX0_init_36 : decode cX0_init 36 = .ok (.aload_n 0, 1) := by decide +kernel
theorem dX0_init_37 : decode cX0_init 37 = .ok (.bipush 20, 2) := by decide +kernel
theorem dX0_init_39 : decode cX0_init 39 = .ok (.putfield 17, 3) := by decide +kernel
theorem dX0_init_42 : decode cX0_init 42 = .ok (.aload_n 0, 1) := by decide +kernel
theorem dX0_init_43 : decode cX0_init 43 = .ok (.bipush 20, 2) := by decide +kernel
theorem dX0_init_45 : decode cX0_init 45 = .ok (.newarray .int, 2) := by decide +kernel
theorem dX0_init_47 : decode cX0_init 47 = .ok (.putfield 21, 3) := by decide +kernel
theorem dX0_init_50 : decode cX0_init 50 = .ok (.aload_n 0, 1) := by decide +kernel
theorem dX0_init_51 : decode cX0_init 51 = .ok (.iconst 0, 1) := by decide +kernel
theorem dX0_init_52 : decode cX0_init 52 = .ok (.putfield 24, 3) := by decide +kernel
theorem dX0_init_55 : decode cX0_init 55 = .ok (.aload_n 0, 1) := by decide +kernel
theorem dX0_init_56 : decode cX0_init 56 = .ok (.sipush 300, 3) := by decide +kernel
theorem dX0_init_59 : decode cX0_init 59 = .ok (.newarray .long, 2) := by decide +kernel
theorem dX0_init_61 : decode cX0_init 61 = .ok (.putfield 27, 3) := by decide +kernel
theorem dX0_init_64 : decode cX0_init 64 = .ok (.aload_n 0, 1) := by decide +kernel
theorem dX0_init_65 : decode cX0_init 65 = .ok (.iconst 0, 1) := by decide +kernel
theorem dX0_init_66 : decode cX0_init 66 = .ok (.putfield 31, 3) := by decide +kernel
theorem dX0_init_69 : decode cX0_init 69 = .ok (.aload_n 0, 1) := by decide +kernel
theorem dX0_init_70 : decode cX0_init 70 = .ok (.iconst 0, 1) := by decide +kernel
theorem dX0_init_71 : decode cX0_init 71 = .ok (.putfield 34, 3) := by decide +kernel
theorem dX0_init_74 : decode cX0_init 74 = .ok (.aload_n 0, 1) := by decide +kernel
theorem dX0_init_75 : decode cX0_init 75 = .ok (.lconst 0, 1) := by decide +kernel
theorem dX0_init_76 : decode cX0_init 76 = .ok (.putfield 37, 3) := by decide +kernel
theorem dX0_init_79 : decode cX0_init 79 = .ok (.return_, 1) := by decide +kernel
set_option maxRecDepth 20000 in
theorem ggX0_newClass_X0_mayBeParent : GoodIn wsX0_newClass wsX0_mayBeParent := goodIn_r _ [7, 8, 9, 10, 6, 11, 1, 12, 13, 14, 15, 16, 17, 18, 19] (by decide +kernel) (by decide +kernel)
set_option maxRecDepth 20000 in
theorem gX0_newClass_X0_mayBeParent : GoodIn wsX0_newClass (wsV RX0 41 RX0 yX0_mayBeParent wsX0_mayBeParent) := goodIn_app (goodIn_of _ (by decide +kernel)) ggX0_newClass_X0_mayBeParent
theorem dX0_newClass_0 : decode cX0_newClass 0 = .ok (.aload_n 0, 1) := by decide +kernel
theorem dX0_newClass_1 : decode cX0_newClass 1 = .ok (.getfield 17, 3) := by decide +kernel
theorem dX0_newClass_4 : decode cX0_newClass 4 = .ok (.bipush 32, 2) := by decide +kernel
theorem dX0_newClass_6 : decode cX0_newClass 6 = .ok (.if_icmp .ge 11, 3) := by decide +kernel
theorem dX0_newClass_9 : decode cX0_newClass 9 = .ok (.aload_n 0, 1) := by decide +kernel
theorem dX0_newClass_10 : decode cX0_newClass 10 = .ok (.iload_n 1, 1) := by decide +kernel
theorem dX0_newClass_11 : decode cX0_newClass 11 = .ok (.invokevirtual 41, 3) := by decide +kernel
theorem dX0_newClass_14 : decode cX0_newClass 14 = .ok (.ifCond .ne 5, 3) := by decide +kernel
theorem dX0_newClass_17 : decode cX0_newClass 17 = .ok (.iconst (-1), 1) := by decide +kernel
theorem dX0_newClass_18 : decode cX0_newClass 18 = .ok (.ireturn, 1) := by decide +kernel
theorem dX0_newClass_19 : decode cX0_newClass 19 = .ok (.aload_n 0, 1) := by decide +kernel
theorem dX0_newClass_20 : decode cX0_newClass 20 = .ok (.getfield 17, 3) := by decide +kernel
theorem dX0_newClass_23 : decode cX0_newClass 23 = .ok (.istore_n 2, 1) := by decide +kernel
theorem dX0_newClass_24 : decode cX0_newClass 24 = .ok (.aload_n 0, 1) := by decide +kernel
theorem dX0_newClass_25 : decode cX0_newClass 25 = .ok (.getfield 9, 3) := by decide +kernel
theorem dX0_newClass_28 : decode cX0_newClass 28 = .ok (.iload_n 2, 1) := by decide +kernel
theorem dX0_newClass_29 : decode cX0_newClass 29 = .ok (.aload_n 0, 1) := by decide +kernel
theorem dX0_newClass_30 : decode cX0_newClass 30 = .ok (.getfield 9, 3) := by decide +kernel
theorem dX0_newClass_33 : decode cX0_newClass 33 = .ok (.iload_n 1, 1) := by decide +kernel
theorem dX0_newClass_34 : decode cX0_newClass 34 = .ok (.iaload, 1) := by decide +kernel
theorem dX0_newClass_35 : decode cX0_newClass 35 = .ok (.iconst 1, 1) := by decide +kernel
theorem dX0_newClass_36 : decode cX0_newClass 36 = .ok (.iload_n 2, 1) := by decide +kernel
theorem dX0_newClass_37 : decode cX0_newClass 37 = .ok (.ishl, 1) := by decide +kernel
theorem dX0_newClass_38 : decode cX0_newClass 38 = .ok (.ior, 1) := by decide +kernel
theorem dX0_newClass_39 : decode cX0_newClass 39 = .ok (.iastore, 1) := by decide +kernel
theorem dX0_newClass_40 : decode cX0_newClass 40 = .ok (.aload_n 0, 1) := by decide +kernel
theorem dX0_newClass_41 : decode cX0_newClass 41 = .ok (.dup, 1) := by decide +kernel
theorem dX0_newClass_42 : decode cX0_newClass 42 = .ok (.getfield 17, 3) := by decide +kernel
theorem dX0_newClass_45 : decode cX0_newClass 45 = .ok (.iconst 1, 1) := by decide +kernel
theorem dX0_newClass_46 : decode cX0_newClass 46 = .ok (.iadd, 1) := by decide +kernel
theorem dX0_newClass_47 : decode cX0_newClass 47 = .ok (.putfield 17, 3) := by decide +kernel
theorem dX0_newClass_50 : decode cX0_newClass 50 = .ok (.iload_n 2, 1) := by decide +kernel
theorem dX0_newClass_51 : decode cX0_newClass 51 = .ok (.ireturn, 1) := by decide +kernel
set_option maxRecDepth 20000 in
theorem ggX0_below_X0_isKind : GoodIn wsX0_below wsX0_isKind := goodIn_r _ [5, 6, 12, 13, 14, 15, 16, 17, 18, 19] (by decide +kernel) (by decide +kernel)
set_option maxRecDepth 20000 in
theorem gX0_below_X0_isKind : GoodIn wsX0_below (wsV RX0 45 RX0 yX0_isKind wsX0_isKind) := goodIn_app (goodIn_of _ (by decide +kernel)) ggX0_below_X0_isKind
set_option maxRecDepth 20000 in
theorem ggX0_below_X0_isBelow : GoodIn wsX0_below wsX0_isBelow := goodIn_r _ [10, 11, 12, 13, 14, 15, 16, 17, 18, 19] (by decide +kernel) (by decide +kernel)
set_option maxRecDepth 20000 in
theorem gX0_below_X0_isBelow : GoodIn wsX0_below (wsV RX0 48 RX0 yX0_isBelow wsX0_isBelow) := goodIn_app (goodIn_of _ (by decide +kernel)) ggX0_below_X0_isBelow
theorem dX0_below_0 : decode cX0_below 0 = .ok (.aload_n 0, 1) := by decide +kernel
theorem dX0_below_1 : decode cX0_below 1 = .ok (.iload_n 1, 1) := by decide +kernel
theorem dX0_below_2 : decode cX0_below 2 = .ok (.invokevirtual 45, 3) := by decide +kernel
theorem dX0_below_5 : decode cX0_below 5 = .ok (.ifCond .eq 24, 3) := by decide +kernel
theorem dX0_below_8 : decode cX0_below 8 = .ok (.aload_n 0, 1) := by decide +kernel
theorem dX0_below_9 : decode cX0_below 9 = .ok (.iload_n 2, 1) := by decide +kernel
theorem dX0_below_10 : decode cX0_below 10 = .ok (.invokevirtual 45, 3) := by decide +kernel
theorem dX0_below_13 : decode cX0_below 13 = .ok (.ifCond .eq 16, 3) := by decide +kernel
theorem dX0_below_16 : decode cX0_below 16 = .ok (.aload_n 0, 1) := by decide +kernel
theorem dX0_below_17 : decode cX0_below 17 = .ok (.iload_n 1, 1) := by decide +kernel
theorem dX0_below_18 : decode cX0_below 18 = .ok (.iload_n 2, 1) := by decide +kernel
theorem dX0_below_19 : decode cX0_below 19 = .ok (.invokevirtual 48, 3) := by decide +kernel
theorem dX0_below_22 : decode cX0_below 22 = .ok (.ifCond .eq 7, 3) := by decide +kernel
theorem dX0_below_25 : decode cX0_below 25 = .ok (.iconst 1, 1) := by decide +kernel
theorem dX0_below_26 : decode cX0_below 26 = .ok (.goto 4, 3) := by decide +kernel
theorem dX0_below_29 : decode cX0_below 29 = .ok (.iconst 0, 1) := by decide +kernel
theorem dX0_below_30 : decode cX0_below 30 = .ok (.ireturn, 1) := by decide +kernel
set_option maxRecDepth 20000 in
theorem ggX0_meet_X0_isKind : GoodIn wsX0_meet wsX0_isKind := goodIn_r _ [7, 2, 8, 9, 10, 11, 12, 13, 14, 15] (by decide +kernel) (by decide +kernel)
set_option maxRecDepth 20000 in
theorem gX0_meet_X0_isKind : GoodIn wsX0_meet (wsV RX0 45 RX0 yX0_isKind wsX0_isKind) := goodIn_app (goodIn_of _ (by decide +kernel)) ggX0_meet_X0_isKind
theorem dX0_meet_0 : decode cX0_meet 0 = .ok (.aload_n 0, 1) := by decide +kernel
theorem dX0_meet_1 : decode cX0_meet 1 = .ok (.iload_n 1, 1) := by decide +kernel
theorem dX0_meet_2 : decode cX0_meet 2 = .ok (.invokevirtual 45, 3) := by decide +kernel
theorem dX0_meet_5 : decode cX0_meet 5 = .ok (.ifCond .eq 11, 3) := by decide +kernel
theorem dX0_meet_8 : decode cX0_meet 8 = .ok (.aload_n 0, 1) := by decide +kernel
theorem dX0_meet_9 : decode cX0_meet 9 = .ok (.iload_n 2, 1) := by decide +kernel
theorem dX0_meet_10 : decode cX0_meet 10 = .ok (.invokevirtual 45, 3) := by decide +kernel
theorem dX0_meet_13 : decode cX0_meet 13 = .ok (.ifCond .ne 5, 3) := by decide +kernel
theorem dX0_meet_16 : decode cX0_meet 16 = .ok (.iconst (-1), 1) := by decide +kernel
theorem dX0_meet_17 : decode cX0_meet 17 = .ok (.ireturn, 1) := by decide +kernel
theorem dX0_meet_18 : decode cX0_meet 18 = .ok (.aload_n 0, 1) := by decide +kernel
theorem dX0_meet_19 : decode cX0_meet 19 = .ok (.getfield 9, 3) := by decide +kernel
theorem dX0_meet_22 : decode cX0_meet 22 = .ok (.iload_n 1, 1) := by decide +kernel
theorem dX0_meet_23 : decode cX0_meet 23 = .ok (.iaload, 1) := by decide +kernel
theorem dX0_meet_24 : decode cX0_meet 24 = .ok (.aload_n 0, 1) := by decide +kernel
theorem dX0_meet_25 : decode cX0_meet 25 = .ok (.getfield 9, 3) := by decide +kernel
theorem dX0_meet_28 : decode cX0_meet 28 = .ok (.iload_n 2, 1) := by decide +kernel
theorem dX0_meet_29 : decode cX0_meet 29 = .ok (.iaload, 1) := by decide +kernel
theorem dX0_meet_30 : decode cX0_meet 30 = .ok (.iand, 1) := by decide +kernel
theorem dX0_meet_31 : decode cX0_meet 31 = .ok (.istore_n 3, 1) := by decide +kernel
theorem dX0_meet_32 : decode cX0_meet 32 = .ok (.aload_n 0, 1) := by decide +kernel
theorem dX0_meet_33 : decode cX0_meet 33 = .ok (.getfield 17, 3) := by decide +kernel
theorem dX0_meet_36 : decode cX0_meet 36 = .ok (.iconst 1, 1) := by decide +kernel
theorem dX0_meet_37 : decode cX0_meet 37 = .ok (.isub, 1) := by decide +kernel
theorem dX0_meet_38 : decode cX0_meet 38 = .ok (.istore 4, 2) := by decide +kernel
theorem dX0_meet_40 : decode cX0_meet 40 = .ok (.iload 4, 2) := by decide +kernel
theorem dX0_meet_42 : decode cX0_meet 42 = .ok (.ifCond .lt 21, 3) := by decide +kernel
theorem dX0_meet_45 : decode cX0_meet 45 = .ok (.iload_n 3, 1) := by decide +kernel
theorem dX0_meet_46 : decode cX0_meet 46 = .ok (.iload 4, 2) := by decide +kernel
theorem dX0_meet_48 : decode cX0_meet 48 = .ok (.iushr, 1) := by decide +kernel
theorem dX0_meet_49 : decode cX0_meet 49 = .ok (.iconst 1, 1) := by decide +kernel
theorem dX0_meet_50 : decode cX0_meet 50 = .ok (.iand, 1) := by decide +kernel
theorem dX0_meet_51 : decode cX0_meet 51 = .ok (.ifCond .eq 6, 3) := by decide +kernel
theorem dX0_meet_54 : decode cX0_meet 54 = .ok (.iload 4, 2) := by decide +kernel
theorem dX0_meet_56 : decode cX0_meet 56 = .ok (.ireturn, 1) := by decide +kernel
theorem dX0_meet_57 : decode cX0_meet 57 = .ok (.iinc 4 (-1), 3) := by decide +kernel
theorem dX0_meet_60 : decode cX0_meet 60 = .ok (.goto (-20), 3) := by decide +kernel
theorem dX0_meet_63 : decode cX0_meet 63 = .ok (.iconst (-1), 1) := by decide +kernel
theorem dX0_meet_64 : decode cX0_meet 64 = .ok (.ireturn, 1) := by decide +kernel
set_option maxRecDepth 20000 in
theorem ggX0_may_X0_isKind : GoodIn wsX0_may wsX0_isKind := goodIn_r _ [5, 6, 31, 32, 33, 34, 35, 36, 37, 38] (by decide +kernel) (by decide +kernel)
set_option maxRecDepth 20000 in
theorem gX0_may_X0_isKind : GoodIn wsX0_may (wsV RX0 45 RX0 yX0_isKind wsX0_isKind) := goodIn_app (goodIn_of _ (by decide +kernel)) ggX0_may_X0_isKind
set_option maxRecDepth 20000 in
theorem ggX0_may_X0_mayPass : GoodIn wsX0_may wsX0_mayPass := goodIn_r _ [10, 11, 12, 4, 13, 14, 15, 16, 17, 18, 19, 20, 21, 22, 23, 24, 25, 26, 27, 28, 29, 30, 31, 32, 33, 34, 35, 36, 37, 38] (by decide +kernel) (by decide +kernel)
set_option maxRecDepth 20000 in
theorem gX0_may_X0_mayPass : GoodIn wsX0_may (wsV RX0 52 RX0 yX0_mayPass wsX0_mayPass) := goodIn_app (goodIn_of _ (by decide +kernel)) ggX0_may_X0_mayPass
theorem dX0_may_0 : decode cX0_may 0 = .ok (.aload_n 0, 1) := by decide +kernel
theorem dX0_may_1 : decode cX0_may 1 = .ok (.iload_n 1, 1) := by decide +kernel
theorem dX0_may_2 : decode cX0_may 2 = .ok (.invokevirtual 45, 3) := by decide +kernel
theorem dX0_may_5 : decode cX0_may 5 = .ok (.ifCond .eq 11, 3) := by decide +kernel
theorem dX0_may_8 : decode cX0_may 8 = .ok (.aload_n 0, 1) := by decide +kernel
theorem dX0_may_9 : decode cX0_may 9 = .ok (.iload_n 2, 1) := by decide +kernel
theorem dX0_may_10 : decode cX0_may 10 = .ok (.invokevirtual 45, 3) := by decide +kernel
theorem dX0_may_13 : decode cX0_may 13 = .ok (.ifCond .ne 5, 3) := by decide +kernel
theorem dX0_may_16 : decode cX0_may 16 = .ok (.iconst 0, 1) := by decide +kernel
theorem dX0_may_17 : decode cX0_may 17 = .ok (.ireturn, 1) := by decide +kernel
theorem dX0_may_18 : decode cX0_may 18 = .ok (.iload_n 1, 1) := by decide +kernel
theorem dX0_may_19 : decode cX0_may 19 = .ok (.ifCond .eq 7, 3) := by decide +kernel
theorem dX0_may_22 : decode cX0_may 22 = .ok (.iload_n 2, 1) := by decide +kernel
theorem dX0_may_23 : decode cX0_may 23 = .ok (.ifCond .ne 6, 3) := by decide +kernel
theorem dX0_may_26 : decode cX0_may 26 = .ok (.iload 4, 2) := by decide +kernel
theorem dX0_may_28 : decode cX0_may 28 = .ok (.ireturn, 1) := by decide +kernel
theorem dX0_may_29 : decode cX0_may 29 = .ok (.aload_n 0, 1) := by decide +kernel
theorem dX0_may_30 : decode cX0_may 30 = .ok (.iload_n 1, 1) := by decide +kernel
theorem dX0_may_31 : decode cX0_may 31 = .ok (.iload_n 2, 1) := by decide +kernel
theorem dX0_may_32 : decode cX0_may 32 = .ok (.iload_n 3, 1) := by decide +kernel
theorem dX0_may_33 : decode cX0_may 33 = .ok (.invokevirtual 52, 3) := by decide +kernel
theorem dX0_may_36 : decode cX0_may 36 = .ok (.ireturn, 1) := by decide +kernel
set_option maxRecDepth 20000 in
theorem ggX0_pass_X0_may : GoodIn wsX0_pass wsX0_may := goodIn_r _ [5, 6, 7, 8, 4, 9, 10, 11, 12, 13, 14, 15, 16, 17, 18, 19, 20, 21, 22, 23, 24, 25, 26, 27, 28, 29, 30, 31, 32, 33, 34, 67, 68, 69, 70, 71, 72, 73, 74] (by decide +kernel) (by decide +kernel)
set_option maxRecDepth 20000 in
theorem gX0_pass_X0_may : GoodIn wsX0_pass (wsV RX0 56 RX0 yX0_may wsX0_may) := goodIn_app (goodIn_of _ (by decide +kernel)) ggX0_pass_X0_may
set_option maxRecDepth 20000 in
theorem ggX0_pass_X0_isPlain : GoodIn wsX0_pass wsX0_isPlain := goodIn_r _ [17] (by decide +kernel) (by decide +kernel)
set_option maxRecDepth 20000 in
theorem gX0_pass_X0_isPlain : GoodIn wsX0_pass (va_wsS RX0 60 yX0_isPlain wsX0_isPlain) := goodIn_app (goodIn_of _ (by decide +kernel)) ggX0_pass_X0_isPlain
set_option maxRecDepth 20000 in
theorem ggX0_pass_X0_fits : GoodIn wsX0_pass wsX0_fits := goodIn_r _ [37, 38, 39, 4, 40] (by decide +kernel) (by decide +kernel)
set_option maxRecDepth 20000 in
theorem gX0_pass_X0_fits : GoodIn wsX0_pass (va_wsS RX0 63 yX0_fits wsX0_fits) := goodIn_app (goodIn_of _ (by decide +kernel)) ggX0_pass_X0_fits
set_option maxRecDepth 20000 in
theorem ggX0_pass_X0_passPlain : GoodIn wsX0_pass wsX0_passPlain := goodIn_r _ [44, 15, 16, 4, 17, 38, 39, 40, 45, 46, 47, 48, 49, 50, 67, 68, 69, 70, 71, 72, 73, 74] (by decide +kernel) (by decide +kernel)
set_option maxRecDepth 20000 in
theorem gX0_pass_X0_passPlain : GoodIn wsX0_pass (wsV RX0 67 RX0 yX0_passPlain wsX0_passPlain) := goodIn_app (goodIn_of _ (by decide +kernel)) ggX0_pass_X0_passPlain
set_option maxRecDepth 20000 in
theorem ggX0_pass_X0_passNull : GoodIn wsX0_pass wsX0_passNull := goodIn_r _ [54, 15, 16, 4, 17, 45, 46, 47, 48, 49, 50, 67, 68, 69, 70, 71, 72, 73, 74] (by decide +kernel) (by decide +kernel)
set_option maxRecDepth 20000 in
theorem gX0_pass_X0_passNull : GoodIn wsX0_pass (wsV RX0 71 RX0 yX0_passNull wsX0_passNull) := goodIn_app (goodIn_of _ (by decide +kernel)) ggX0_pass_X0_passNull
set_option maxRecDepth 20000 in
theorem ggX0_pass_X0_isObject : GoodIn wsX0_pass wsX0_isObject := goodIn_r _ [58, 6, 7, 8, 4, 9, 10, 26, 27, 28, 35, 36, 37, 38, 39, 40, 67, 68, 69, 70, 71, 72, 73, 74] (by decide +kernel) (by decide +kernel)
set_option maxRecDepth 20000 in
theorem gX0_pass_X0_isObject : GoodIn wsX0_pass (wsV RX0 75 RX0 yX0_isObject wsX0_isObject) := goodIn_app (goodIn_of _ (by decide +kernel)) ggX0_pass_X0_isObject
set_option maxRecDepth 20000 in
theorem ggX0_pass_X0_isBelow : GoodIn wsX0_pass wsX0_isBelow := goodIn_r _ [24, 25, 67, 68, 69, 70, 71, 72, 73, 74] (by decide +kernel) (by decide +kernel)
set_option maxRecDepth 20000 in
theorem gX0_pass_X0_isBelow : GoodIn wsX0_pass (wsV RX0 48 RX0 yX0_isBelow wsX0_isBelow) := goodIn_app (goodIn_of _ (by decide +kernel)) ggX0_pass_X0_isBelow
set_option maxRecDepth 20000 in
theorem ggX0_pass_X0_passAsPlain : GoodIn wsX0_pass wsX0_passAsPlain := goodIn_r _ [62, 26, 27, 4, 28, 18, 19, 20, 38, 39, 40, 45, 46, 47, 48, 49, 50, 67, 68, 69, 70, 71, 72, 73, 74] (by decide +kernel) (by decide +kernel)
set_option maxRecDepth 20000 in
theorem gX0_pass_X0_passAsPlain : GoodIn wsX0_pass (wsV RX0 78 RX0 yX0_passAsPlain wsX0_passAsPlain) := goodIn_app (goodIn_of _ (by decide +kernel)) ggX0_pass_X0_passAsPlain
set_option maxRecDepth 20000 in
theorem ggX0_pass_X0_passAsReference : GoodIn wsX0_pass wsX0_passAsReference := goodIn_r _ [66, 21, 22, 23, 4, 24, 25, 45, 46, 47, 48, 49, 50, 67, 68, 69, 70, 71, 72, 73, 74] (by decide +kernel) (by decide +kernel)
set_option maxRecDepth 20000 in
theorem gX0_pass_X0_passAsReference : GoodIn wsX0_pass (wsV RX0 82 RX0 yX0_passAsReference wsX0_passAsReference) := goodIn_app (goodIn_of _ (by decide +kernel)) ggX0_pass_X0_passAsReference
theorem dX0_pass_0 : decode cX0_pass 0 = .ok (.aload_n 0, 1) := by decide +kernel
theorem dX0_pass_1 : decode cX0_pass 1 = .ok (.iload_n 1, 1) := by decide +kernel
theorem dX0_pass_2 : decode cX0_pass 2 = .ok (.iload_n 2, 1) := by decide +kernel
theorem dX0_pass_3 : decode cX0_pass 3 = .ok (.iload_n 3, 1) := by decide +kernel
theorem dX0_pass_4 : decode cX0_pass 4 = .ok (.iconst 0, 1) := by decide +kernel
theorem dX0_pass_5 : decode cX0_pass 5 = .ok (.invokevirtual 56, 3) := by decide +kernel
theorem dX0_pass_8 : decode cX0_pass 8 = .ok (.ifCond .ne 5, 3) := by decide +kernel
theorem dX0_pass_11 : decode cX0_pass 11 = .ok (.iconst (-1), 1) := by decide +kernel
theorem dX0_pass_12 : decode cX0_pass 12 = .ok (.ireturn, 1) := by decide +kernel
theorem dX0_pass_13 : decode cX0_pass 13 = .ok (.iload_n 1, 1) := by decide +kernel
theorem dX0_pass_14 : decode cX0_pass 14 = .ok (.invokestatic 60, 3) := by decide +kernel
theorem dX0_pass_17 : decode cX0_pass 17 = .ok (.ifCond .eq 25, 3) := by decide +kernel
theorem dX0_pass_20 : decode cX0_pass 20 = .ok (.iload_n 1, 1) := by decide +kernel
theorem dX0_pass_21 : decode cX0_pass 21 = .ok (.lload 5, 2) := by decide +kernel
theorem dX0_pass_23 : decode cX0_pass 23 = .ok (.invokestatic 63, 3) := by decide +kernel
theorem dX0_pass_26 : decode cX0_pass 26 = .ok (.ifCond .eq 14, 3) := by decide +kernel
theorem dX0_pass_29 : decode cX0_pass 29 = .ok (.aload_n 0, 1) := by decide +kernel
theorem dX0_pass_30 : decode cX0_pass 30 = .ok (.iload_n 1, 1) := by decide +kernel
theorem dX0_pass_31 : decode cX0_pass 31 = .ok (.iload_n 2, 1) := by decide +kernel
theorem dX0_pass_32 : decode cX0_pass 32 = .ok (.lload 5, 2) := by decide +kernel
theorem dX0_pass_34 : decode cX0_pass 34 = .ok (.invokevirtual 67, 3) := by decide +kernel
theorem dX0_pass_37 : decode cX0_pass 37 = .ok (.goto 4, 3) := by decide +kernel
theorem dX0_pass_40 : decode cX0_pass 40 = .ok (.iconst (-1), 1) := by decide +kernel
theorem dX0_pass_41 : decode cX0_pass 41 = .ok (.ireturn, 1) := by decide +kernel
theorem dX0_pass_42 : decode cX0_pass 42 = .ok (.iload 4, 2) := by decide +kernel
theorem dX0_pass_44 : decode cX0_pass 44 = .ok (.ifCond .ne 10, 3) := by decide +kernel
theorem dX0_pass_47 : decode cX0_pass 47 = .ok (.aload_n 0, 1) := by decide +kernel
theorem dX0_pass_48 : decode cX0_pass 48 = .ok (.iload_n 2, 1) := by decide +kernel
theorem dX0_pass_49 : decode cX0_pass 49 = .ok (.iload_n 3, 1) := by decide +kernel
theorem dX0_pass_50 : decode cX0_pass 50 = .ok (.invokevirtual 71, 3) := by decide +kernel
theorem dX0_pass_53 : decode cX0_pass 53 = .ok (.ireturn, 1) := by decide +kernel
theorem dX0_pass_54 : decode cX0_pass 54 = .ok (.aload_n 0, 1) := by decide +kernel
theorem dX0_pass_55 : decode cX0_pass 55 = .ok (.iload 4, 2) := by decide +kernel
theorem dX0_pass_57 : decode cX0_pass 57 = .ok (.lload 5, 2) := by decide +kernel
theorem dX0_pass_59 : decode cX0_pass 59 = .ok (.invokevirtual 75, 3) := by decide +kernel
theorem dX0_pass_62 : decode cX0_pass 62 = .ok (.ifCond .eq 13, 3) := by decide +kernel
theorem dX0_pass_65 : decode cX0_pass 65 = .ok (.aload_n 0, 1) := by decide +kernel
theorem dX0_pass_66 : decode cX0_pass 66 = .ok (.iload 4, 2) := by decide +kernel
theorem dX0_pass_68 : decode cX0_pass 68 = .ok (.iload_n 1, 1) := by decide +kernel
theorem dX0_pass_69 : decode cX0_pass 69 = .ok (.invokevirtual 48, 3) := by decide +kernel
theorem dX0_pass_72 : decode cX0_pass 72 = .ok (.ifCond .ne 5, 3) := by decide +kernel
theorem dX0_pass_75 : decode cX0_pass 75 = .ok (.iconst (-1), 1) := by decide +kernel
theorem dX0_pass_76 : decode cX0_pass 76 = .ok (.ireturn, 1) := by decide +kernel
theorem dX0_pass_77 : decode cX0_pass 77 = .ok (.iload_n 2, 1) := by decide +kernel
theorem dX0_pass_78 : decode cX0_pass 78 = .ok (.invokestatic 60, 3) := by decide +kernel
theorem dX0_pass_81 : decode cX0_pass 81 = .ok (.ifCond .eq 16, 3) := by decide +kernel
theorem dX0_pass_84 : decode cX0_pass 84 = .ok (.aload_n 0, 1) := by decide +kernel
theorem dX0_pass_85 : decode cX0_pass 85 = .ok (.iload_n 2, 1) := by decide +kernel
theorem dX0_pass_86 : decode cX0_pass 86 = .ok (.iload_n 3, 1) := by decide +kernel
theorem dX0_pass_87 : decode cX0_pass 87 = .ok (.iload 4, 2) := by decide +kernel
theorem dX0_pass_89 : decode cX0_pass 89 = .ok (.lload 5, 2) := by decide +kernel
theorem dX0_pass_91 : decode cX0_pass 91 = .ok (.invokevirtual 78, 3) := by decide +kernel
theorem dX0_pass_94 : decode cX0_pass 94 = .ok (.goto 12, 3) := by decide +kernel
theorem dX0_pass_97 : decode cX0_pass 97 = .ok (.aload_n 0, 1) := by decide +kernel
theorem dX0_pass_98 : decode cX0_pass 98 = .ok (.iload_n 2, 1) := by decide +kernel
theorem dX0_pass_99 : decode cX0_pass 99 = .ok (.iload 4, 2) := by decide +kernel
theorem dX0_pass_101 : decode cX0_pass 101 = .ok (.lload 5, 2) := by decide +kernel
theorem dX0_pass_103 : decode cX0_pass 103 = .ok (.invokevirtual 82, 3) := by decide +kernel
theorem dX0_pass_106 : decode cX0_pass 106 = .ok (.ireturn, 1) := by decide +kernel
theorem dX0_kind_0 : decode cX0_kind 0 = .ok (.aload_n 0, 1) := by decide +kernel
theorem dX0_kind_1 : decode cX0_kind 1 = .ok (.getfield 34, 3) := by decide +kernel
theorem dX0_kind_4 : decode cX0_kind 4 = .ok (.ireturn, 1) := by decide +kernel
theorem dX0_number_0 : decode cX0_number 0 = .ok (.aload_n 0, 1) := by decide +kernel
theorem dX0_number_1 : decode cX0_number 1 = .ok (.getfield 37, 3) := by decide +kernel
theorem dX0_number_4 : decode cX0_number 4 = .ok (.lreturn, 1) := by decide +kernel
theorem dX0_put_0 : decode cX0_put 0 = .ok (.aload_n 0, 1) := by decide +kernel
theorem dX0_put_1 : decode cX0_put 1 = .ok (.getfield 24, 3) := by decide +kernel
theorem dX0_put_4 : decode cX0_put 4 = .ok (.bipush 20, 2) := by decide +kernel
theorem dX0_put_6 : decode cX0_put 6 = .ok (.if_icmp .lt 5, 3) := by decide +kernel
theorem dX0_put_9 : decode cX0_put 9 = .ok (.iconst 0, 1) := by decide +kernel
theorem dX0_put_10 : decode cX0_put 10 = .ok (.ireturn, 1) := by decide +kernel
theorem dX0_put_11 : decode cX0_put 11 = .ok (.aload_n 0, 1) := by decide +kernel
theorem dX0_put_12 : decode cX0_put 12 = .ok (.getfield 21, 3) := by decide +kernel
theorem dX0_put_15 : decode cX0_put 15 = .ok (.aload_n 0, 1) := by decide +kernel
theorem dX0_put_16 : decode cX0_put 16 = .ok (.getfield 24, 3) := by decide +kernel
theorem dX0_put_19 : decode cX0_put 19 = .ok (.iload_n 1, 1) := by decide +kernel
theorem dX0_put_20 : decode cX0_put 20 = .ok (.iastore, 1) := by decide +kernel
theorem dX0_put_21 : decode cX0_put 21 = .ok (.aload_n 0, 1) := by decide +kernel
theorem dX0_put_22 : decode cX0_put 22 = .ok (.dup, 1) := by decide +kernel
theorem dX0_put_23 : decode cX0_put 23 = .ok (.getfield 24, 3) := by decide +kernel
theorem dX0_put_26 : decode cX0_put 26 = .ok (.iconst 1, 1) := by decide +kernel
theorem dX0_put_27 : decode cX0_put 27 = .ok (.iadd, 1) := by decide +kernel
theorem dX0_put_28 : decode cX0_put 28 = .ok (.putfield 24, 3) := by decide +kernel
theorem dX0_put_31 : decode cX0_put 31 = .ok (.iconst 1, 1) := by decide +kernel
theorem dX0_put_32 : decode cX0_put 32 = .ok (.ireturn, 1) := by decide +kernel
set_option maxRecDepth 20000 in
theorem ggX0_type_X0_isKind : GoodIn wsX0_type wsX0_isKind := goodIn_r _ [7, 8, 26, 27, 28, 29, 30, 31, 32, 33] (by decide +kernel) (by decide +kernel)
set_option maxRecDepth 20000 in
theorem gX0_type_X0_isKind : GoodIn wsX0_type (wsV RX0 45 RX0 yX0_isKind wsX0_isKind) := goodIn_app (goodIn_of _ (by decide +kernel)) ggX0_type_X0_isKind
set_option maxRecDepth 20000 in
theorem ggX0_type_X0_withPlace : GoodIn wsX0_type wsX0_withPlace := goodIn_r _ [11, 12, 13, 14, 6, 15, 16, 17, 18, 19] (by decide +kernel) (by decide +kernel)
set_option maxRecDepth 20000 in
theorem gX0_type_X0_withPlace : GoodIn wsX0_type (va_wsS RX0 85 yX0_withPlace wsX0_withPlace) := goodIn_app (goodIn_of _ (by decide +kernel)) ggX0_type_X0_withPlace
set_option maxRecDepth 20000 in
theorem ggX0_type_X0_numberOf : GoodIn wsX0_type wsX0_numberOf := goodIn_r _ [23, 24, 25, 26, 27, 28, 29, 30, 31, 32, 33] (by decide +kernel) (by decide +kernel)
set_option maxRecDepth 20000 in
theorem gX0_type_X0_numberOf : GoodIn wsX0_type (wsV RX0 89 RX0 yX0_numberOf wsX0_numberOf) := goodIn_app (goodIn_of _ (by decide +kernel)) ggX0_type_X0_numberOf
theorem dX0_type_0 : decode cX0_type 0 = .ok (.aload_n 0, 1) := by decide +kernel
theorem dX0_type_1 : decode cX0_type 1 = .ok (.getfield 24, 3) := by decide +kernel
theorem dX0_type_4 : decode cX0_type 4 = .ok (.istore_n 2, 1) := by decide +kernel
theorem dX0_type_5 : decode cX0_type 5 = .ok (.aload_n 0, 1) := by decide +kernel
theorem dX0_type_6 : decode cX0_type 6 = .ok (.iconst 0, 1) := by decide +kernel
theorem dX0_type_7 : decode cX0_type 7 = .ok (.putfield 24, 3) := by decide +kernel
theorem dX0_type_10 : decode cX0_type 10 = .ok (.aload_n 0, 1) := by decide +kernel
theorem dX0_type_11 : decode cX0_type 11 = .ok (.iload_n 1, 1) := by decide +kernel
theorem dX0_type_12 : decode cX0_type 12 = .ok (.invokevirtual 45, 3) := by decide +kernel
theorem dX0_type_15 : decode cX0_type 15 = .ok (.ifCond .eq 9, 3) := by decide +kernel
theorem dX0_type_18 : decode cX0_type 18 = .ok (.iload_n 2, 1) := by decide +kernel
theorem dX0_type_19 : decode cX0_type 19 = .ok (.bipush 10, 2) := by decide +kernel
theorem dX0_type_21 : decode cX0_type 21 = .ok (.if_icmp .le 5, 3) := by decide +kernel
theorem dX0_type_24 : decode cX0_type 24 = .ok (.iconst (-1), 1) := by decide +kernel
theorem dX0_type_25 : decode cX0_type 25 = .ok (.ireturn, 1) := by decide +kernel
theorem dX0_type_26 : decode cX0_type 26 = .ok (.iload_n 1, 1) := by decide +kernel
theorem dX0_type_27 : decode cX0_type 27 = .ok (.i2l, 1) := by decide +kernel
theorem dX0_type_28 : decode cX0_type 28 = .ok (.lstore_n 3, 1) := by decide +kernel
theorem dX0_type_29 : decode cX0_type 29 = .ok (.iconst 0, 1) := by decide +kernel
theorem dX0_type_30 : decode cX0_type 30 = .ok (.istore 5, 2) := by decide +kernel
theorem dX0_type_32 : decode cX0_type 32 = .ok (.iload 5, 2) := by decide +kernel
theorem dX0_type_34 : decode cX0_type 34 = .ok (.iload_n 2, 1) := by decide +kernel
theorem dX0_type_35 : decode cX0_type 35 = .ok (.if_icmp .ge 47, 3) := by decide +kernel
theorem dX0_type_38 : decode cX0_type 38 = .ok (.aload_n 0, 1) := by decide +kernel
theorem dX0_type_39 : decode cX0_type 39 = .ok (.aload_n 0, 1) := by decide +kernel
theorem dX0_type_40 : decode cX0_type 40 = .ok (.getfield 21, 3) := by decide +kernel
theorem dX0_type_43 : decode cX0_type 43 = .ok (.iload 5, 2) := by decide +kernel
theorem dX0_type_45 : decode cX0_type 45 = .ok (.iaload, 1) := by decide +kernel
theorem dX0_type_46 : decode cX0_type 46 = .ok (.invokevirtual 45, 3) := by decide +kernel
theorem dX0_type_49 : decode cX0_type 49 = .ok (.ifCond .eq 13, 3) := by decide +kernel
theorem dX0_type_52 : decode cX0_type 52 = .ok (.aload_n 0, 1) := by decide +kernel
theorem dX0_type_53 : decode cX0_type 53 = .ok (.getfield 21, 3) := by decide +kernel
theorem dX0_type_56 : decode cX0_type 56 = .ok (.iload 5, 2) := by decide +kernel
theorem dX0_type_58 : decode cX0_type 58 = .ok (.iaload, 1) := by decide +kernel
theorem dX0_type_59 : decode cX0_type 59 = .ok (.ifCond .ne 5, 3) := by decide +kernel
theorem dX0_type_62 : decode cX0_type 62 = .ok (.iconst (-1), 1) := by decide +kernel
theorem dX0_type_63 : decode cX0_type 63 = .ok (.ireturn, 1) := by decide +kernel
theorem dX0_type_64 : decode cX0_type 64 = .ok (.lload_n 3, 1) := by decide +kernel
theorem dX0_type_65 : decode cX0_type 65 = .ok (.aload_n 0, 1) := by decide +kernel
theorem dX0_type_66 : decode cX0_type 66 = .ok (.getfield 21, 3) := by decide +kernel
theorem dX0_type_69 : decode cX0_type 69 = .ok (.iload 5, 2) := by decide +kernel
theorem dX0_type_71 : decode cX0_type 71 = .ok (.iaload, 1) := by decide +kernel
theorem dX0_type_72 : decode cX0_type 72 = .ok (.invokestatic 85, 3) := by decide +kernel
theorem dX0_type_75 : decode cX0_type 75 = .ok (.lstore_n 3, 1) := by decide +kernel
theorem dX0_type_76 : decode cX0_type 76 = .ok (.iinc 5 1, 3) := by decide +kernel
theorem dX0_type_79 : decode cX0_type 79 = .ok (.goto (-47), 3) := by decide +kernel
theorem dX0_type_82 : decode cX0_type 82 = .ok (.aload_n 0, 1) := by decide +kernel
theorem dX0_type_83 : decode cX0_type 83 = .ok (.lload_n 3, 1) := by decide +kernel
theorem dX0_type_84 : decode cX0_type 84 = .ok (.invokevirtual 89, 3) := by decide +kernel
theorem dX0_type_87 : decode cX0_type 87 = .ok (.ireturn, 1) := by decide +kernel
set_option maxRecDepth 20000 in
theorem ggX0_typeAbout_X0_isType : GoodIn wsX0_typeAbout wsX0_isType := goodIn_r _ [6, 7, 22, 23, 24, 25, 26, 27, 28, 29] (by decide +kernel) (by decide +kernel)
set_option maxRecDepth 20000 in
theorem gX0_typeAbout_X0_isType : GoodIn wsX0_typeAbout (wsV RX0 93 RX0 yX0_isType wsX0_isType) := goodIn_app (goodIn_of _ (by decide +kernel)) ggX0_typeAbout_X0_isType
set_option maxRecDepth 20000 in
theorem ggX0_typeAbout_X0_resultOf : GoodIn wsX0_typeAbout wsX0_resultOf := goodIn_r _ [10, 11] (by decide +kernel) (by decide +kernel)
set_option maxRecDepth 20000 in
theorem gX0_typeAbout_X0_resultOf : GoodIn wsX0_typeAbout (va_wsS RX0 96 yX0_resultOf wsX0_resultOf) := goodIn_app (goodIn_of _ (by decide +kernel)) ggX0_typeAbout_X0_resultOf
set_option maxRecDepth 20000 in
theorem ggX0_typeAbout_X0_placesOf : GoodIn wsX0_typeAbout wsX0_placesOf := goodIn_r _ [14, 15] (by decide +kernel) (by decide +kernel)
set_option maxRecDepth 20000 in
theorem gX0_typeAbout_X0_placesOf : GoodIn wsX0_typeAbout (va_wsS RX0 99 yX0_placesOf wsX0_placesOf) := goodIn_app (goodIn_of _ (by decide +kernel)) ggX0_typeAbout_X0_placesOf
set_option maxRecDepth 20000 in
theorem ggX0_typeAbout_X0_placeOf : GoodIn wsX0_typeAbout wsX0_placeOf := goodIn_r _ [18, 11, 19, 20, 5, 21] (by decide +kernel) (by decide +kernel)
set_option maxRecDepth 20000 in
theorem gX0_typeAbout_X0_placeOf : GoodIn wsX0_typeAbout (va_wsS RX0 102 yX0_placeOf wsX0_placeOf) := goodIn_app (goodIn_of _ (by decide +kernel)) ggX0_typeAbout_X0_placeOf
theorem dX0_typeAbout_0 : decode cX0_typeAbout 0 = .ok (.aload_n 0, 1) := by decide +kernel
theorem dX0_typeAbout_1 : decode cX0_typeAbout 1 = .ok (.iload_n 1, 1) := by decide +kernel
theorem dX0_typeAbout_2 : decode cX0_typeAbout 2 = .ok (.invokevirtual 93, 3) := by decide +kernel
theorem dX0_typeAbout_5 : decode cX0_typeAbout 5 = .ok (.ifCond .ne 5, 3) := by decide +kernel
theorem dX0_typeAbout_8 : decode cX0_typeAbout 8 = .ok (.iconst (-1), 1) := by decide +kernel
theorem dX0_typeAbout_9 : decode cX0_typeAbout 9 = .ok (.ireturn, 1) := by decide +kernel
theorem dX0_typeAbout_10 : decode cX0_typeAbout 10 = .ok (.aload_n 0, 1) := by decide +kernel
theorem dX0_typeAbout_11 : decode cX0_typeAbout 11 = .ok (.getfield 27, 3) := by decide +kernel
theorem dX0_typeAbout_14 : decode cX0_typeAbout 14 = .ok (.iload_n 1, 1) := by decide +kernel
theorem dX0_typeAbout_15 : decode cX0_typeAbout 15 = .ok (.laload, 1) := by decide +kernel
theorem dX0_typeAbout_16 : decode cX0_typeAbout 16 = .ok (.lstore_n 3, 1) := by decide +kernel
theorem dX0_typeAbout_17 : decode cX0_typeAbout 17 = .ok (.iload_n 2, 1) := by decide +kernel
theorem dX0_typeAbout_18 : decode cX0_typeAbout 18 = .ok (.iconst (-1), 1) := by decide +kernel
theorem dX0_typeAbout_19 : decode cX0_typeAbout 19 = .ok (.if_icmp .ne 8, 3) := by decide +kernel
theorem dX0_typeAbout_22 : decode cX0_typeAbout 22 = .ok (.lload_n 3, 1) := by decide +kernel
theorem dX0_typeAbout_23 : decode cX0_typeAbout 23 = .ok (.invokestatic 96, 3) := by decide +kernel
theorem dX0_typeAbout_26 : decode cX0_typeAbout 26 = .ok (.ireturn, 1) := by decide +kernel
theorem dX0_typeAbout_27 : decode cX0_typeAbout 27 = .ok (.iload_n 2, 1) := by decide +kernel
theorem dX0_typeAbout_28 : decode cX0_typeAbout 28 = .ok (.bipush (-2), 2) := by decide +kernel
theorem dX0_typeAbout_30 : decode cX0_typeAbout 30 = .ok (.if_icmp .ne 8, 3) := by decide +kernel
theorem dX0_typeAbout_33 : decode cX0_typeAbout 33 = .ok (.lload_n 3, 1) := by decide +kernel
theorem dX0_typeAbout_34 : decode cX0_typeAbout 34 = .ok (.invokestatic 99, 3) := by decide +kernel
theorem dX0_typeAbout_37 : decode cX0_typeAbout 37 = .ok (.ireturn, 1) := by decide +kernel
theorem dX0_typeAbout_38 : decode cX0_typeAbout 38 = .ok (.iload_n 2, 1) := by decide +kernel
theorem dX0_typeAbout_39 : decode cX0_typeAbout 39 = .ok (.ifCond .lt 19, 3) := by decide +kernel
theorem dX0_typeAbout_42 : decode cX0_typeAbout 42 = .ok (.iload_n 2, 1) := by decide +kernel
theorem dX0_typeAbout_43 : decode cX0_typeAbout 43 = .ok (.lload_n 3, 1) := by decide +kernel
theorem dX0_typeAbout_44 : decode cX0_typeAbout 44 = .ok (.invokestatic 99, 3) := by decide +kernel
theorem dX0_typeAbout_47 : decode cX0_typeAbout 47 = .ok (.if_icmp .ge 11, 3) := by decide +kernel
theorem dX0_typeAbout_50 : decode cX0_typeAbout 50 = .ok (.lload_n 3, 1) := by decide +kernel
theorem dX0_typeAbout_51 : decode cX0_typeAbout 51 = .ok (.iload_n 2, 1) := by decide +kernel
theorem dX0_typeAbout_52 : decode cX0_typeAbout 52 = .ok (.invokestatic 102, 3) := by decide +kernel
theorem dX0_typeAbout_55 : decode cX0_typeAbout 55 = .ok (.goto 4, 3) := by decide +kernel
theorem dX0_typeAbout_58 : decode cX0_typeAbout 58 = .ok (.iconst (-1), 1) := by decide +kernel
theorem dX0_typeAbout_59 : decode cX0_typeAbout 59 = .ok (.ireturn, 1) := by decide +kernel
set_option maxRecDepth 20000 in
theorem ggX0_mayBe_X0_isType : GoodIn wsX0_mayBe wsX0_isType := goodIn_r _ [6, 7, 55, 56, 57, 58, 59, 60, 61, 62] (by decide +kernel) (by decide +kernel)
set_option maxRecDepth 20000 in
theorem gX0_mayBe_X0_isType : GoodIn wsX0_mayBe (wsV RX0 93 RX0 yX0_isType wsX0_isType) := goodIn_app (goodIn_of _ (by decide +kernel)) ggX0_mayBe_X0_isType
set_option maxRecDepth 20000 in
theorem ggX0_mayBe_X0_placesOf : GoodIn wsX0_mayBe wsX0_placesOf := goodIn_r _ [10, 11] (by decide +kernel) (by decide +kernel)
set_option maxRecDepth 20000 in
theorem gX0_mayBe_X0_placesOf : GoodIn wsX0_mayBe (va_wsS RX0 99 yX0_placesOf wsX0_placesOf) := goodIn_app (goodIn_of _ (by decide +kernel)) ggX0_mayBe_X0_placesOf
set_option maxRecDepth 20000 in
theorem ggX0_mayBe_X0_resultOf : GoodIn wsX0_mayBe wsX0_resultOf := goodIn_r _ [14, 15] (by decide +kernel) (by decide +kernel)
set_option maxRecDepth 20000 in
theorem gX0_mayBe_X0_resultOf : GoodIn wsX0_mayBe (va_wsS RX0 96 yX0_resultOf wsX0_resultOf) := goodIn_app (goodIn_of _ (by decide +kernel)) ggX0_mayBe_X0_resultOf
set_option maxRecDepth 20000 in
theorem ggX0_mayBe_X0_may : GoodIn wsX0_mayBe wsX0_may := goodIn_r _ [19, 20, 21, 22, 5, 23, 24, 25, 26, 27, 28, 29, 30, 31, 32, 33, 34, 35, 36, 37, 38, 39, 40, 41, 42, 43, 44, 45, 46, 47, 48, 55, 56, 57, 58, 59, 60, 61, 62] (by decide +kernel) (by decide +kernel)
set_option maxRecDepth 20000 in
theorem gX0_mayBe_X0_may : GoodIn wsX0_mayBe (wsV RX0 56 RX0 yX0_may wsX0_may) := goodIn_app (goodIn_of _ (by decide +kernel)) ggX0_mayBe_X0_may
set_option maxRecDepth 20000 in
theorem ggX0_mayBe_X0_placeOf : GoodIn wsX0_mayBe wsX0_placeOf := goodIn_r _ [51, 15, 52, 53, 5, 54] (by decide +kernel) (by decide +kernel)
set_option maxRecDepth 20000 in
theorem gX0_mayBe_X0_placeOf : GoodIn wsX0_mayBe (va_wsS RX0 102 yX0_placeOf wsX0_placeOf) := goodIn_app (goodIn_of _ (by decide +kernel)) ggX0_mayBe_X0_placeOf
theorem dX0_mayBe_0 : decode cX0_mayBe 0 = .ok (.aload_n 0, 1) := by decide +kernel
theorem dX0_mayBe_1 : decode cX0_mayBe 1 = .ok (.iload_n 1, 1) := by decide +kernel
theorem dX0_mayBe_2 : decode cX0_mayBe 2 = .ok (.invokevirtual 93, 3) := by decide +kernel
theorem dX0_mayBe_5 : decode cX0_mayBe 5 = .ok (.ifCond .eq 11, 3) := by decide +kernel
theorem dX0_mayBe_8 : decode cX0_mayBe 8 = .ok (.aload_n 0, 1) := by decide +kernel
theorem dX0_mayBe_9 : decode cX0_mayBe 9 = .ok (.iload_n 2, 1) := by decide +kernel
theorem dX0_mayBe_10 : decode cX0_mayBe 10 = .ok (.invokevirtual 93, 3) := by decide +kernel
theorem dX0_mayBe_13 : decode cX0_mayBe 13 = .ok (.ifCond .ne 5, 3) := by decide +kernel
theorem dX0_mayBe_16 : decode cX0_mayBe 16 = .ok (.iconst 0, 1) := by decide +kernel
theorem dX0_mayBe_17 : decode cX0_mayBe 17 = .ok (.ireturn, 1) := by decide +kernel
theorem dX0_mayBe_18 : decode cX0_mayBe 18 = .ok (.aload_n 0, 1) := by decide +kernel
theorem dX0_mayBe_19 : decode cX0_mayBe 19 = .ok (.getfield 27, 3) := by decide +kernel
theorem dX0_mayBe_22 : decode cX0_mayBe 22 = .ok (.iload_n 1, 1) := by decide +kernel
theorem dX0_mayBe_23 : decode cX0_mayBe 23 = .ok (.laload, 1) := by decide +kernel
theorem dX0_mayBe_24 : decode cX0_mayBe 24 = .ok (.lstore 4, 2) := by decide +kernel
theorem dX0_mayBe_26 : decode cX0_mayBe 26 = .ok (.aload_n 0, 1) := by decide +kernel
theorem dX0_mayBe_27 : decode cX0_mayBe 27 = .ok (.getfield 27, 3) := by decide +kernel
theorem dX0_mayBe_30 : decode cX0_mayBe 30 = .ok (.iload_n 2, 1) := by decide +kernel
theorem dX0_mayBe_31 : decode cX0_mayBe 31 = .ok (.laload, 1) := by decide +kernel
theorem dX0_mayBe_32 : decode cX0_mayBe 32 = .ok (.lstore 6, 2) := by decide +kernel
theorem dX0_mayBe_34 : decode cX0_mayBe 34 = .ok (.lload 4, 2) := by decide +kernel
theorem dX0_mayBe_36 : decode cX0_mayBe 36 = .ok (.invokestatic 99, 3) := by decide +kernel
theorem dX0_mayBe_39 : decode cX0_mayBe 39 = .ok (.istore 8, 2) := by decide +kernel
theorem dX0_mayBe_41 : decode cX0_mayBe 41 = .ok (.iload 8, 2) := by decide +kernel
theorem dX0_mayBe_43 : decode cX0_mayBe 43 = .ok (.lload 6, 2) := by decide +kernel
theorem dX0_mayBe_45 : decode cX0_mayBe 45 = .ok (.invokestatic 99, 3) := by decide +kernel
theorem dX0_mayBe_48 : decode cX0_mayBe 48 = .ok (.if_icmp .ne 22, 3) := by decide +kernel
theorem dX0_mayBe_51 : decode cX0_mayBe 51 = .ok (.aload_n 0, 1) := by decide +kernel
theorem dX0_mayBe_52 : decode cX0_mayBe 52 = .ok (.lload 4, 2) := by decide +kernel
theorem dX0_mayBe_54 : decode cX0_mayBe 54 = .ok (.invokestatic 96, 3) := by decide +kernel
theorem dX0_mayBe_57 : decode cX0_mayBe 57 = .ok (.lload 6, 2) := by decide +kernel
theorem dX0_mayBe_59 : decode cX0_mayBe 59 = .ok (.invokestatic 96, 3) := by decide +kernel
theorem dX0_mayBe_62 : decode cX0_mayBe 62 = .ok (.iload_n 3, 1) := by decide +kernel
theorem dX0_mayBe_63 : decode cX0_mayBe 63 = .ok (.iconst 1, 1) := by decide +kernel
theorem dX0_mayBe_64 : decode cX0_mayBe 64 = .ok (.invokevirtual 56, 3) := by decide +kernel
theorem dX0_mayBe_67 : decode cX0_mayBe 67 = .ok (.ifCond .ne 5, 3) := by decide +kernel
theorem dX0_mayBe_70 : decode cX0_mayBe 70 = .ok (.iconst 0, 1) := by decide +kernel
theorem dX0_mayBe_71 : decode cX0_mayBe 71 = .ok (.ireturn, 1) := by decide +kernel
theorem dX0_mayBe_72 : decode cX0_mayBe 72 = .ok (.iconst 0, 1) := by decide +kernel
theorem dX0_mayBe_73 : decode cX0_mayBe 73 = .ok (.istore 9, 2) := by decide +kernel
theorem dX0_mayBe_75 : decode cX0_mayBe 75 = .ok (.iload 9, 2) := by decide +kernel
theorem dX0_mayBe_77 : decode cX0_mayBe 77 = .ok (.iload 8, 2) := by decide +kernel
theorem dX0_mayBe_79 : decode cX0_mayBe 79 = .ok (.if_icmp .ge 34, 3) := by decide +kernel
theorem dX0_mayBe_82 : decode cX0_mayBe 82 = .ok (.aload_n 0, 1) := by decide +kernel
theorem dX0_mayBe_83 : decode cX0_mayBe 83 = .ok (.lload 6, 2) := by decide +kernel
theorem dX0_mayBe_85 : decode cX0_mayBe 85 = .ok (.iload 9, 2) := by decide +kernel
theorem dX0_mayBe_87 : decode cX0_mayBe 87 = .ok (.invokestatic 102, 3) := by decide +kernel
theorem dX0_mayBe_90 : decode cX0_mayBe 90 = .ok (.lload 4, 2) := by decide +kernel
theorem dX0_mayBe_92 : decode cX0_mayBe 92 = .ok (.iload 9, 2) := by decide +kernel
theorem dX0_mayBe_94 : decode cX0_mayBe 94 = .ok (.invokestatic 102, 3) := by decide +kernel
theorem dX0_mayBe_97 : decode cX0_mayBe 97 = .ok (.iload_n 3, 1) := by decide +kernel
theorem dX0_mayBe_98 : decode cX0_mayBe 98 = .ok (.iconst 0, 1) := by decide +kernel
theorem dX0_mayBe_99 : decode cX0_mayBe 99 = .ok (.invokevirtual 56, 3) := by decide +kernel
theorem dX0_mayBe_102 : decode cX0_mayBe 102 = .ok (.ifCond .ne 5, 3) := by decide +kernel
theorem dX0_mayBe_105 : decode cX0_mayBe 105 = .ok (.iconst 0, 1) := by decide +kernel
theorem dX0_mayBe_106 : decode cX0_mayBe 106 = .ok (.ireturn, 1) := by decide +kernel
theorem dX0_mayBe_107 : decode cX0_mayBe 107 = .ok (.iinc 9 1, 3) := by decide +kernel
theorem dX0_mayBe_110 : decode cX0_mayBe 110 = .ok (.goto (-35), 3) := by decide +kernel
theorem dX0_mayBe_113 : decode cX0_mayBe 113 = .ok (.iconst 1, 1) := by decide +kernel
theorem dX0_mayBe_114 : decode cX0_mayBe 114 = .ok (.ireturn, 1) := by decide +kernel
set_option maxRecDepth 20000 in
theorem ggX0_changed_X0_isType : GoodIn wsX0_changed wsX0_isType := goodIn_r _ [6, 7, 33, 34, 35, 36, 37, 38, 39, 40] (by decide +kernel) (by decide +kernel)
set_option maxRecDepth 20000 in
theorem gX0_changed_X0_isType : GoodIn wsX0_changed (wsV RX0 93 RX0 yX0_isType wsX0_isType) := goodIn_app (goodIn_of _ (by decide +kernel)) ggX0_changed_X0_isType
set_option maxRecDepth 20000 in
theorem ggX0_changed_X0_placesOf : GoodIn wsX0_changed wsX0_placesOf := goodIn_r _ [10, 11] (by decide +kernel) (by decide +kernel)
set_option maxRecDepth 20000 in
theorem gX0_changed_X0_placesOf : GoodIn wsX0_changed (va_wsS RX0 99 yX0_placesOf wsX0_placesOf) := goodIn_app (goodIn_of _ (by decide +kernel)) ggX0_changed_X0_placesOf
set_option maxRecDepth 20000 in
theorem ggX0_changed_X0_resultOf : GoodIn wsX0_changed wsX0_resultOf := goodIn_r _ [14, 15] (by decide +kernel) (by decide +kernel)
set_option maxRecDepth 20000 in
theorem gX0_changed_X0_resultOf : GoodIn wsX0_changed (va_wsS RX0 96 yX0_resultOf wsX0_resultOf) := goodIn_app (goodIn_of _ (by decide +kernel)) ggX0_changed_X0_resultOf
set_option maxRecDepth 20000 in
theorem ggX0_changed_X0_withPlacesOf : GoodIn wsX0_changed wsX0_withPlacesOf := goodIn_r _ [18, 19, 20, 5, 21, 15, 22, 23, 24, 25, 26, 27, 28, 8, 9, 10, 11] (by decide +kernel) (by decide +kernel)
set_option maxRecDepth 20000 in
theorem gX0_changed_X0_withPlacesOf : GoodIn wsX0_changed (va_wsS RX0 106 yX0_withPlacesOf wsX0_withPlacesOf) := goodIn_app (goodIn_of _ (by decide +kernel)) ggX0_changed_X0_withPlacesOf
set_option maxRecDepth 20000 in
theorem ggX0_changed_X0_numberOf : GoodIn wsX0_changed wsX0_numberOf := goodIn_r _ [32, 7, 1, 33, 34, 35, 36, 37, 38, 39, 40] (by decide +kernel) (by decide +kernel)
set_option maxRecDepth 20000 in
theorem gX0_changed_X0_numberOf : GoodIn wsX0_changed (wsV RX0 89 RX0 yX0_numberOf wsX0_numberOf) := goodIn_app (goodIn_of _ (by decide +kernel)) ggX0_changed_X0_numberOf
theorem dX0_changed_0 : decode cX0_changed 0 = .ok (.aload_n 0, 1) := by decide +kernel
theorem dX0_changed_1 : decode cX0_changed 1 = .ok (.iload_n 1, 1) := by decide +kernel
theorem dX0_changed_2 : decode cX0_changed 2 = .ok (.invokevirtual 93, 3) := by decide +kernel
theorem dX0_changed_5 : decode cX0_changed 5 = .ok (.ifCond .eq 12, 3) := by decide +kernel
theorem dX0_changed_8 : decode cX0_changed 8 = .ok (.aload_n 0, 1) := by decide +kernel
theorem dX0_changed_9 : decode cX0_changed 9 = .ok (.iload 4, 2) := by decide +kernel
theorem dX0_changed_11 : decode cX0_changed 11 = .ok (.invokevirtual 93, 3) := by decide +kernel
theorem dX0_changed_14 : decode cX0_changed 14 = .ok (.ifCond .ne 5, 3) := by decide +kernel
theorem dX0_changed_17 : decode cX0_changed 17 = .ok (.iconst (-1), 1) := by decide +kernel
theorem dX0_changed_18 : decode cX0_changed 18 = .ok (.ireturn, 1) := by decide +kernel
theorem dX0_changed_19 : decode cX0_changed 19 = .ok (.aload_n 0, 1) := by decide +kernel
theorem dX0_changed_20 : decode cX0_changed 20 = .ok (.getfield 27, 3) := by decide +kernel
theorem dX0_changed_23 : decode cX0_changed 23 = .ok (.iload_n 1, 1) := by decide +kernel
theorem dX0_changed_24 : decode cX0_changed 24 = .ok (.laload, 1) := by decide +kernel
theorem dX0_changed_25 : decode cX0_changed 25 = .ok (.lstore 5, 2) := by decide +kernel
theorem dX0_changed_27 : decode cX0_changed 27 = .ok (.aload_n 0, 1) := by decide +kernel
theorem dX0_changed_28 : decode cX0_changed 28 = .ok (.getfield 27, 3) := by decide +kernel
theorem dX0_changed_31 : decode cX0_changed 31 = .ok (.iload 4, 2) := by decide +kernel
theorem dX0_changed_33 : decode cX0_changed 33 = .ok (.laload, 1) := by decide +kernel
theorem dX0_changed_34 : decode cX0_changed 34 = .ok (.lstore 7, 2) := by decide +kernel
theorem dX0_changed_36 : decode cX0_changed 36 = .ok (.lload 5, 2) := by decide +kernel
theorem dX0_changed_38 : decode cX0_changed 38 = .ok (.invokestatic 99, 3) := by decide +kernel
theorem dX0_changed_41 : decode cX0_changed 41 = .ok (.istore 9, 2) := by decide +kernel
theorem dX0_changed_43 : decode cX0_changed 43 = .ok (.iload_n 3, 1) := by decide +kernel
theorem dX0_changed_44 : decode cX0_changed 44 = .ok (.ifCond .lt 21, 3) := by decide +kernel
theorem dX0_changed_47 : decode cX0_changed 47 = .ok (.iload_n 3, 1) := by decide +kernel
theorem dX0_changed_48 : decode cX0_changed 48 = .ok (.iload 9, 2) := by decide +kernel
theorem dX0_changed_50 : decode cX0_changed 50 = .ok (.if_icmp .gt 15, 3) := by decide +kernel
theorem dX0_changed_53 : decode cX0_changed 53 = .ok (.iload_n 2, 1) := by decide +kernel
theorem dX0_changed_54 : decode cX0_changed 54 = .ok (.ifCond .lt 11, 3) := by decide +kernel
theorem dX0_changed_57 : decode cX0_changed 57 = .ok (.iload_n 2, 1) := by decide +kernel
theorem dX0_changed_58 : decode cX0_changed 58 = .ok (.iload 9, 2) := by decide +kernel
theorem dX0_changed_60 : decode cX0_changed 60 = .ok (.iload_n 3, 1) := by decide +kernel
theorem dX0_changed_61 : decode cX0_changed 61 = .ok (.isub, 1) := by decide +kernel
theorem dX0_changed_62 : decode cX0_changed 62 = .ok (.if_icmp .le 5, 3) := by decide +kernel
theorem dX0_changed_65 : decode cX0_changed 65 = .ok (.iconst (-1), 1) := by decide +kernel
theorem dX0_changed_66 : decode cX0_changed 66 = .ok (.ireturn, 1) := by decide +kernel
theorem dX0_changed_67 : decode cX0_changed 67 = .ok (.iload 9, 2) := by decide +kernel
theorem dX0_changed_69 : decode cX0_changed 69 = .ok (.iload_n 3, 1) := by decide +kernel
theorem dX0_changed_70 : decode cX0_changed 70 = .ok (.isub, 1) := by decide +kernel
theorem dX0_changed_71 : decode cX0_changed 71 = .ok (.lload 7, 2) := by decide +kernel
theorem dX0_changed_73 : decode cX0_changed 73 = .ok (.invokestatic 99, 3) := by decide +kernel
theorem dX0_changed_76 : decode cX0_changed 76 = .ok (.iadd, 1) := by decide +kernel
theorem dX0_changed_77 : decode cX0_changed 77 = .ok (.bipush 10, 2) := by decide +kernel
theorem dX0_changed_79 : decode cX0_changed 79 = .ok (.if_icmp .le 5, 3) := by decide +kernel
theorem dX0_changed_82 : decode cX0_changed 82 = .ok (.iconst (-1), 1) := by decide +kernel
theorem dX0_changed_83 : decode cX0_changed 83 = .ok (.ireturn, 1) := by decide +kernel
theorem dX0_changed_84 : decode cX0_changed 84 = .ok (.lload 5, 2) := by decide +kernel
theorem dX0_changed_86 : decode cX0_changed 86 = .ok (.invokestatic 96, 3) := by decide +kernel
theorem dX0_changed_89 : decode cX0_changed 89 = .ok (.i2l, 1) := by decide +kernel
theorem dX0_changed_90 : decode cX0_changed 90 = .ok (.lstore 10, 2) := by decide +kernel
theorem dX0_changed_92 : decode cX0_changed 92 = .ok (.lload 10, 2) := by decide +kernel
theorem dX0_changed_94 : decode cX0_changed 94 = .ok (.lload 5, 2) := by decide +kernel
theorem dX0_changed_96 : decode cX0_changed 96 = .ok (.iconst 0, 1) := by decide +kernel
theorem dX0_changed_97 : decode cX0_changed 97 = .ok (.iload_n 2, 1) := by decide +kernel
theorem dX0_changed_98 : decode cX0_changed 98 = .ok (.invokestatic 106, 3) := by decide +kernel
theorem dX0_changed_101 : decode cX0_changed 101 = .ok (.lstore 10, 2) := by decide +kernel
