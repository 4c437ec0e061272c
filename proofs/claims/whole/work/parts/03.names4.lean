theorem dX1_init_30 : decode cX1_init 30 = .ok (.aload_n 0, 1) := by decide +kernel
theorem dX1_init_31 : decode cX1_init 31 = .ok (.sipush 3000, 3) := by decide +kernel
theorem dX1_init_34 : decode cX1_init 34 = .ok (.newarray .int, 2) := by decide +kernel
theorem dX1_init_36 : decode cX1_init 36 = .ok (.putfield 19, 3) := by decide +kernel
theorem dX1_init_39 : decode cX1_init 39 = .ok (.aload_n 0, 1) := by decide +kernel
theorem dX1_init_40 : decode cX1_init 40 = .ok (.bipush 20, 2) := by decide +kernel
theorem dX1_init_42 : decode cX1_init 42 = .ok (.newarray .int, 2) := by decide +kernel
theorem dX1_init_44 : decode cX1_init 44 = .ok (.putfield 22, 3) := by decide +kernel
theorem dX1_init_47 : decode cX1_init 47 = .ok (.aload_n 0, 1) := by decide +kernel
theorem dX1_init_48 : decode cX1_init 48 = .ok (.bipush 32, 2) := by decide +kernel
theorem dX1_init_50 : decode cX1_init 50 = .ok (.newarray .int, 2) := by decide +kernel
theorem dX1_init_52 : decode cX1_init 52 = .ok (.putfield 25, 3) := by decide +kernel
theorem dX1_init_55 : decode cX1_init 55 = .ok (.return_, 1) := by decide +kernel
theorem dX1_isKind_0 : decode cX1_isKind 0 = .ok (.iload_n 1, 1) := by decide +kernel
theorem dX1_isKind_1 : decode cX1_isKind 1 = .ok (.ifCond .lt 18, 3) := by decide +kernel
theorem dX1_isKind_4 : decode cX1_isKind 4 = .ok (.iload_n 1, 1) := by decide +kernel
theorem dX1_isKind_5 : decode cX1_isKind 5 = .ok (.bipush 20, 2) := by decide +kernel
theorem dX1_isKind_7 : decode cX1_isKind 7 = .ok (.aload_n 0, 1) := by decide +kernel
theorem dX1_isKind_8 : decode cX1_isKind 8 = .ok (.getfield 28, 3) := by decide +kernel
theorem dX1_isKind_11 : decode cX1_isKind 11 = .ok (.iadd, 1) := by decide +kernel
theorem dX1_isKind_12 : decode cX1_isKind 12 = .ok (.if_icmp .ge 7, 3) := by decide +kernel
theorem dX1_isKind_15 : decode cX1_isKind 15 = .ok (.iconst 1, 1) := by decide +kernel
theorem dX1_isKind_16 : decode cX1_isKind 16 = .ok (.goto 4, 3) := by decide +kernel
theorem dX1_isKind_19 : decode cX1_isKind 19 = .ok (.iconst 0, 1) := by decide +kernel
theorem dX1_isKind_20 : decode cX1_isKind 20 = .ok (.ireturn, 1) := by decide +kernel
set_option maxRecDepth 20000 in
theorem ggX1_newClass_X1_isKind : GoodIn wsX1_newClass wsX1_isKind := goodIn_r _ [7, 1, 8, 9, 10, 11, 12, 13, 14, 15, 16, 17, 18, 19, 20] (by decide +kernel) (by decide +kernel)
set_option maxRecDepth 20000 in
theorem gX1_newClass_X1_isKind : GoodIn wsX1_newClass (wsV RX1 68 RX1 yX1_isKind wsX1_isKind) := goodIn_app (goodIn_of _ (by decide +kernel)) ggX1_newClass_X1_isKind
theorem dX1_newClass_0 : decode cX1_newClass 0 = .ok (.aload_n 0, 1) := by decide +kernel
theorem dX1_newClass_1 : decode cX1_newClass 1 = .ok (.getfield 28, 3) := by decide +kernel
theorem dX1_newClass_4 : decode cX1_newClass 4 = .ok (.bipush 12, 2) := by decide +kernel
theorem dX1_newClass_6 : decode cX1_newClass 6 = .ok (.if_icmp .eq 29, 3) := by decide +kernel
theorem dX1_newClass_9 : decode cX1_newClass 9 = .ok (.iload_n 1, 1) := by decide +kernel
theorem dX1_newClass_10 : decode cX1_newClass 10 = .ok (.bipush 7, 2) := by decide +kernel
theorem dX1_newClass_12 : decode cX1_newClass 12 = .ok (.if_icmp .eq 25, 3) := by decide +kernel
theorem dX1_newClass_15 : decode cX1_newClass 15 = .ok (.iload_n 1, 1) := by decide +kernel
theorem dX1_newClass_16 : decode cX1_newClass 16 = .ok (.bipush 19, 2) := by decide +kernel
theorem dX1_newClass_18 : decode cX1_newClass 18 = .ok (.if_icmp .eq 19, 3) := by decide +kernel
theorem dX1_newClass_21 : decode cX1_newClass 21 = .ok (.iload_n 1, 1) := by decide +kernel
theorem dX1_newClass_22 : decode cX1_newClass 22 = .ok (.bipush 20, 2) := by decide +kernel
theorem dX1_newClass_24 : decode cX1_newClass 24 = .ok (.if_icmp .lt 11, 3) := by decide +kernel
theorem dX1_newClass_27 : decode cX1_newClass 27 = .ok (.aload_n 0, 1) := by decide +kernel
theorem dX1_newClass_28 : decode cX1_newClass 28 = .ok (.iload_n 1, 1) := by decide +kernel
theorem dX1_newClass_29 : decode cX1_newClass 29 = .ok (.invokevirtual 68, 3) := by decide +kernel
theorem dX1_newClass_32 : decode cX1_newClass 32 = .ok (.ifCond .ne 5, 3) := by decide +kernel
theorem dX1_newClass_35 : decode cX1_newClass 35 = .ok (.iconst (-1), 1) := by decide +kernel
theorem dX1_newClass_36 : decode cX1_newClass 36 = .ok (.ireturn, 1) := by decide +kernel
theorem dX1_newClass_37 : decode cX1_newClass 37 = .ok (.aload_n 0, 1) := by decide +kernel
theorem dX1_newClass_38 : decode cX1_newClass 38 = .ok (.getfield 7, 3) := by decide +kernel
theorem dX1_newClass_41 : decode cX1_newClass 41 = .ok (.aload_n 0, 1) := by decide +kernel
theorem dX1_newClass_42 : decode cX1_newClass 42 = .ok (.getfield 28, 3) := by decide +kernel
theorem dX1_newClass_45 : decode cX1_newClass 45 = .ok (.iload_n 1, 1) := by decide +kernel
theorem dX1_newClass_46 : decode cX1_newClass 46 = .ok (.iastore, 1) := by decide +kernel
theorem dX1_newClass_47 : decode cX1_newClass 47 = .ok (.aload_n 0, 1) := by decide +kernel
theorem dX1_newClass_48 : decode cX1_newClass 48 = .ok (.dup, 1) := by decide +kernel
theorem dX1_newClass_49 : decode cX1_newClass 49 = .ok (.getfield 28, 3) := by decide +kernel
theorem dX1_newClass_52 : decode cX1_newClass 52 = .ok (.iconst 1, 1) := by decide +kernel
theorem dX1_newClass_53 : decode cX1_newClass 53 = .ok (.iadd, 1) := by decide +kernel
theorem dX1_newClass_54 : decode cX1_newClass 54 = .ok (.putfield 28, 3) := by decide +kernel
theorem dX1_newClass_57 : decode cX1_newClass 57 = .ok (.bipush 20, 2) := by decide +kernel
theorem dX1_newClass_59 : decode cX1_newClass 59 = .ok (.aload_n 0, 1) := by decide +kernel
theorem dX1_newClass_60 : decode cX1_newClass 60 = .ok (.getfield 28, 3) := by decide +kernel
theorem dX1_newClass_63 : decode cX1_newClass 63 = .ok (.iadd, 1) := by decide +kernel
theorem dX1_newClass_64 : decode cX1_newClass 64 = .ok (.iconst 1, 1) := by decide +kernel
theorem dX1_newClass_65 : decode cX1_newClass 65 = .ok (.isub, 1) := by decide +kernel
theorem dX1_newClass_66 : decode cX1_newClass 66 = .ok (.ireturn, 1) := by decide +kernel
set_option maxRecDepth 20000 in
theorem ggX1_below_X1_isKind : GoodIn wsX1_below wsX1_isKind := goodIn_r _ [5, 6, 7, 8, 9, 10, 11, 12, 13, 14, 15, 16, 17, 18, 19] (by decide +kernel) (by decide +kernel)
set_option maxRecDepth 20000 in
theorem gX1_below_X1_isKind : GoodIn wsX1_below (wsV RX1 68 RX1 yX1_isKind wsX1_isKind) := goodIn_app (goodIn_of _ (by decide +kernel)) ggX1_below_X1_isKind
theorem dX1_below_0 : decode cX1_below 0 = .ok (.aload_n 0, 1) := by decide +kernel
theorem dX1_below_1 : decode cX1_below 1 = .ok (.iload_n 1, 1) := by decide +kernel
theorem dX1_below_2 : decode cX1_below 2 = .ok (.invokevirtual 68, 3) := by decide +kernel
theorem dX1_below_5 : decode cX1_below 5 = .ok (.ifCond .eq 24, 3) := by decide +kernel
theorem dX1_below_8 : decode cX1_below 8 = .ok (.aload_n 0, 1) := by decide +kernel
theorem dX1_below_9 : decode cX1_below 9 = .ok (.iload_n 2, 1) := by decide +kernel
theorem dX1_below_10 : decode cX1_below 10 = .ok (.invokevirtual 68, 3) := by decide +kernel
theorem dX1_below_13 : decode cX1_below 13 = .ok (.ifCond .eq 16, 3) := by decide +kernel
theorem dX1_below_16 : decode cX1_below 16 = .ok (.aload_n 0, 1) := by decide +kernel
theorem dX1_below_17 : decode cX1_below 17 = .ok (.iload_n 1, 1) := by decide +kernel
theorem dX1_below_18 : decode cX1_below 18 = .ok (.iload_n 2, 1) := by decide +kernel
theorem dX1_below_19 : decode cX1_below 19 = .ok (.invokevirtual 43, 3) := by decide +kernel
theorem dX1_below_22 : decode cX1_below 22 = .ok (.ifCond .eq 7, 3) := by decide +kernel
theorem dX1_below_25 : decode cX1_below 25 = .ok (.iconst 1, 1) := by decide +kernel
theorem dX1_below_26 : decode cX1_below 26 = .ok (.goto 4, 3) := by decide +kernel
theorem dX1_below_29 : decode cX1_below 29 = .ok (.iconst 0, 1) := by decide +kernel
theorem dX1_below_30 : decode cX1_below 30 = .ok (.ireturn, 1) := by decide +kernel
set_option maxRecDepth 20000 in
theorem ggL_law_X0_init : GoodIn wsL_law wsX0_init := goodIn_r _ [8, 9, 10, 11, 12, 13, 14, 15, 16, 17, 18, 19, 20, 21, 22, 23, 2, 24, 25, 26, 27, 28, 29, 30, 187, 188, 189, 190, 191, 192, 193, 194] (by decide +kernel) (by decide +kernel)
set_option maxRecDepth 20000 in
theorem gL_law_X0_init : GoodIn wsL_law (wsX0_init) := ggL_law_X0_init
set_option maxRecDepth 20000 in
theorem ggL_law_X1_init : GoodIn wsL_law wsX1_init := goodIn_r _ [33, 34, 10, 11, 12, 35, 36, 37, 38, 39, 40, 195, 196, 197, 198, 199, 200, 201, 202, 203, 204, 205, 206, 207] (by decide +kernel) (by decide +kernel)
set_option maxRecDepth 20000 in
theorem gL_law_X1_init : GoodIn wsL_law (wsX1_init) := ggL_law_X1_init
set_option maxRecDepth 20000 in
theorem ggL_law_X0_newClass : GoodIn wsL_law wsX0_newClass := goodIn_r _ [44, 14, 13, 45, 46, 47, 2, 48, 49, 50, 51, 52, 187, 188, 189, 190, 191, 192, 193, 194] (by decide +kernel) (by decide +kernel)
set_option maxRecDepth 20000 in
theorem gL_law_X0_newClass : GoodIn wsL_law (wsV RL 13 RX0 yX0_newClass wsX0_newClass) := goodIn_app (goodIn_of _ (by decide +kernel)) ggL_law_X0_newClass
set_option maxRecDepth 20000 in
theorem ggL_law_X1_newClass : GoodIn wsL_law wsX1_newClass := goodIn_r _ [56, 57, 35, 58, 59, 60, 5, 61, 195, 196, 197, 198, 199, 200, 201, 202, 203, 204, 205, 206, 207] (by decide +kernel) (by decide +kernel)
set_option maxRecDepth 20000 in
theorem gL_law_X1_newClass : GoodIn wsL_law (wsV RL 17 RX1 yX1_newClass wsX1_newClass) := goodIn_app (goodIn_of _ (by decide +kernel)) ggL_law_X1_newClass
set_option maxRecDepth 20000 in
theorem ggL_law_X0_below : GoodIn wsL_law wsX0_below := goodIn_r _ [65, 49, 50, 51, 2, 52, 14, 66, 67, 68, 69, 13, 187, 188, 189, 190, 191, 192, 193, 194] (by decide +kernel) (by decide +kernel)
set_option maxRecDepth 20000 in
theorem gL_law_X0_below : GoodIn wsL_law (wsV RL 18 RX0 yX0_below wsX0_below) := goodIn_app (goodIn_of _ (by decide +kernel)) ggL_law_X0_below
set_option maxRecDepth 20000 in
theorem ggL_law_X1_below : GoodIn wsL_law wsX1_below := goodIn_r _ [73, 58, 59, 60, 5, 61, 57, 195, 196, 197, 198, 199, 200, 201, 202, 203, 204, 205, 206, 207] (by decide +kernel) (by decide +kernel)
set_option maxRecDepth 20000 in
theorem gL_law_X1_below : GoodIn wsL_law (wsV RL 22 RX1 yX1_below wsX1_below) := goodIn_app (goodIn_of _ (by decide +kernel)) ggL_law_X1_below
set_option maxRecDepth 20000 in
theorem ggL_law_X0_meet : GoodIn wsL_law wsX0_meet := goodIn_r _ [77, 13, 14, 49, 50, 51, 2, 52, 187, 188, 189, 190, 191, 192, 193, 194] (by decide +kernel) (by decide +kernel)
set_option maxRecDepth 20000 in
theorem gL_law_X0_meet : GoodIn wsL_law (wsV RL 23 RX0 yX0_meet wsX0_meet) := goodIn_app (goodIn_of _ (by decide +kernel)) ggL_law_X0_meet
set_option maxRecDepth 20000 in
theorem ggL_law_X0_may : GoodIn wsL_law wsX0_may := goodIn_r _ [81, 49, 50, 51, 2, 52, 14, 82, 83, 84, 85, 86, 87, 88, 89, 90, 91, 66, 67, 68, 69, 13, 25, 26, 27, 92, 93, 94, 28, 29, 30, 187, 188, 189, 190, 191, 192, 193, 194] (by decide +kernel) (by decide +kernel)
set_option maxRecDepth 20000 in
theorem gL_law_X0_may : GoodIn wsL_law (wsV RL 28 RX0 yX0_may wsX0_may) := goodIn_app (goodIn_of _ (by decide +kernel)) ggL_law_X0_may
set_option maxRecDepth 20000 in
theorem ggL_law_X0_pass : GoodIn wsL_law wsX0_pass := goodIn_r _ [98, 99, 79, 80, 2, 81, 49, 50, 51, 52, 14, 82, 83, 84, 85, 86, 87, 88, 89, 90, 91, 66, 67, 68, 69, 13, 25, 26, 27, 92, 93, 94, 28, 29, 30, 100, 101, 102, 103, 104, 105, 106, 107, 108, 109, 110, 111, 112, 113, 20, 21, 114, 115, 116, 117, 118, 119, 120, 121, 122, 123, 124, 125, 126, 127, 128, 129, 187, 188, 189, 190, 191, 192, 193, 194] (by decide +kernel) (by decide +kernel)
set_option maxRecDepth 20000 in
theorem gL_law_X0_pass : GoodIn wsL_law (wsV RL 35 RX0 yX0_pass wsX0_pass) := goodIn_app (goodIn_of _ (by decide +kernel)) ggL_law_X0_pass
set_option maxRecDepth 20000 in
theorem ggL_law_X0_kind : GoodIn wsL_law wsX0_kind := goodIn_r _ [133, 20, 187, 188, 189, 190, 191, 192, 193, 194] (by decide +kernel) (by decide +kernel)
set_option maxRecDepth 20000 in
theorem gL_law_X0_kind : GoodIn wsL_law (wsV RL 40 RX0 yX0_kind wsX0_kind) := goodIn_app (goodIn_of _ (by decide +kernel)) ggL_law_X0_kind
set_option maxRecDepth 20000 in
theorem ggL_law_X0_number : GoodIn wsL_law wsX0_number := goodIn_r _ [137, 21, 187, 188, 189, 190, 191, 192, 193, 194] (by decide +kernel) (by decide +kernel)
set_option maxRecDepth 20000 in
theorem gL_law_X0_number : GoodIn wsL_law (wsV RL 45 RX0 yX0_number wsX0_number) := goodIn_app (goodIn_of _ (by decide +kernel)) ggL_law_X0_number
set_option maxRecDepth 20000 in
theorem ggL_law_X0_put : GoodIn wsL_law wsX0_put := goodIn_r _ [141, 16, 15, 187, 188, 189, 190, 191, 192, 193, 194] (by decide +kernel) (by decide +kernel)
set_option maxRecDepth 20000 in
theorem gL_law_X0_put : GoodIn wsL_law (wsV RL 50 RX0 yX0_put wsX0_put) := goodIn_app (goodIn_of _ (by decide +kernel)) ggL_law_X0_put
set_option maxRecDepth 20000 in
theorem ggL_law_X0_type : GoodIn wsL_law wsX0_type := goodIn_r _ [145, 16, 15, 49, 50, 51, 2, 52, 14, 146, 147, 148, 149, 150, 151, 152, 153, 154, 155, 156, 157, 158, 159, 160, 19, 18, 187, 188, 189, 190, 191, 192, 193, 194] (by decide +kernel) (by decide +kernel)
set_option maxRecDepth 20000 in
theorem gL_law_X0_type : GoodIn wsL_law (wsV RL 55 RX0 yX0_type wsX0_type) := goodIn_app (goodIn_of _ (by decide +kernel)) ggL_law_X0_type
set_option maxRecDepth 20000 in
theorem ggL_law_X0_typeAbout : GoodIn wsL_law wsX0_typeAbout := goodIn_r _ [164, 18, 165, 166, 167, 2, 168, 19, 169, 170, 171, 172, 150, 151, 152, 153, 173, 174, 175, 154, 155, 156, 187, 188, 189, 190, 191, 192, 193, 194] (by decide +kernel) (by decide +kernel)
set_option maxRecDepth 20000 in
theorem gL_law_X0_typeAbout : GoodIn wsL_law (wsV RL 59 RX0 yX0_typeAbout wsX0_typeAbout) := goodIn_app (goodIn_of _ (by decide +kernel)) ggL_law_X0_typeAbout
set_option maxRecDepth 20000 in
theorem ggL_law_X0_mayBe : GoodIn wsL_law wsX0_mayBe := goodIn_r _ [179, 18, 165, 166, 167, 2, 168, 19, 150, 151, 152, 153, 169, 170, 171, 172, 99, 79, 80, 81, 49, 50, 51, 52, 14, 82, 83, 84, 85, 86, 87, 88, 89, 90, 91, 66, 67, 68, 69, 13, 25, 26, 27, 92, 93, 94, 28, 29, 30, 173, 174, 175, 154, 155, 156, 187, 188, 189, 190, 191, 192, 193, 194] (by decide +kernel) (by decide +kernel)
set_option maxRecDepth 20000 in
theorem gL_law_X0_mayBe : GoodIn wsL_law (wsV RL 63 RX0 yX0_mayBe wsX0_mayBe) := goodIn_app (goodIn_of _ (by decide +kernel)) ggL_law_X0_mayBe
set_option maxRecDepth 20000 in
theorem ggL_law_X0_changed : GoodIn wsL_law wsX0_changed := goodIn_r _ [183, 18, 165, 166, 167, 2, 168, 19, 150, 151, 152, 153, 169, 170, 171, 172, 184, 185, 186, 173, 174, 175, 154, 155, 156, 146, 147, 148, 149, 157, 158, 159, 160, 187, 188, 189, 190, 191, 192, 193, 194] (by decide +kernel) (by decide +kernel)
set_option maxRecDepth 20000 in
theorem gL_law_X0_changed : GoodIn wsL_law (wsV RL 68 RX0 yX0_changed wsX0_changed) := goodIn_app (goodIn_of _ (by decide +kernel)) ggL_law_X0_changed
theorem dL_law_0 : decode cL_law 0 = .ok (.new 7, 3) := by decide +kernel
theorem dL_law_3 : decode cL_law 3 = .ok (.dup, 1) := by decide +kernel
theorem dL_law_4 : decode cL_law 4 = .ok (.invokespecial 9, 3) := by decide +kernel
theorem dL_law_7 : decode cL_law 7 = .ok (.astore_n 1, 1) := by decide +kernel
theorem dL_law_8 : decode cL_law 8 = .ok (.new 10, 3) := by decide +kernel
theorem dL_law_11 : decode cL_law 11 = .ok (.dup, 1) := by decide +kernel
theorem dL_law_12 : decode cL_law 12 = .ok (.invokespecial 12, 3) := by decide +kernel
theorem dL_law_15 : decode cL_law 15 = .ok (.astore_n 2, 1) := by decide +kernel
theorem dL_law_16 : decode cL_law 16 = .ok (.iconst 0, 1) := by decide +kernel
theorem dL_law_17 : decode cL_law 17 = .ok (.istore_n 3, 1) := by decide +kernel
theorem dL_law_18 : decode cL_law 18 = .ok (.iload_n 3, 1) := by decide +kernel
theorem dL_law_19 : decode cL_law 19 = .ok (.aload_n 0, 1) := by decide +kernel
theorem dL_law_20 : decode cL_law 20 = .ok (.arraylength, 1) := by decide +kernel
theorem dL_law_21 : decode cL_law 21 = .ok (.bipush 7, 2) := by decide +kernel
theorem dL_law_23 : decode cL_law 23 = .ok (.isub, 1) := by decide +kernel
theorem dL_law_24 : decode cL_law 24 = .ok (.if_icmp .gt 581, 3) := by decide +kernel
theorem dL_law_27 : decode cL_law 27 = .ok (.aload_n 0, 1) := by decide +kernel
theorem dL_law_28 : decode cL_law 28 = .ok (.iload_n 3, 1) := by decide +kernel
theorem dL_law_29 : decode cL_law 29 = .ok (.iaload, 1) := by decide +kernel
theorem dL_law_30 : decode cL_law 30 = .ok (.bipush 15, 2) := by decide +kernel
theorem dL_law_32 : decode cL_law 32 = .ok (.iand, 1) := by decide +kernel
theorem dL_law_33 : decode cL_law 33 = .ok (.tableswitch 566 0 11 #[63, 86, 119, 152, 237, 348, 361, 375, 398, 421, 454, 513], 63) := by decide +kernel
theorem dL_law_96 : decode cL_law 96 = .ok (.aload_n 1, 1) := by decide +kernel
theorem dL_law_97 : decode cL_law 97 = .ok (.aload_n 0, 1) := by decide +kernel
theorem dL_law_98 : decode cL_law 98 = .ok (.iload_n 3, 1) := by decide +kernel
theorem dL_law_99 : decode cL_law 99 = .ok (.iconst 1, 1) := by decide +kernel
theorem dL_law_100 : decode cL_law 100 = .ok (.iadd, 1) := by decide +kernel
theorem dL_law_101 : decode cL_law 101 = .ok (.iaload, 1) := by decide +kernel
theorem dL_law_102 : decode cL_law 102 = .ok (.invokevirtual 13, 3) := by decide +kernel
theorem dL_law_105 : decode cL_law 105 = .ok (.aload_n 2, 1) := by decide +kernel
theorem dL_law_106 : decode cL_law 106 = .ok (.aload_n 0, 1) := by decide +kernel
theorem dL_law_107 : decode cL_law 107 = .ok (.iload_n 3, 1) := by decide +kernel
theorem dL_law_108 : decode cL_law 108 = .ok (.iconst 1, 1) := by decide +kernel
theorem dL_law_109 : decode cL_law 109 = .ok (.iadd, 1) := by decide +kernel
theorem dL_law_110 : decode cL_law 110 = .ok (.iaload, 1) := by decide +kernel
theorem dL_law_111 : decode cL_law 111 = .ok (.invokevirtual 17, 3) := by decide +kernel
theorem dL_law_114 : decode cL_law 114 = .ok (.if_icmp .eq 485, 3) := by decide +kernel
theorem dL_law_117 : decode cL_law 117 = .ok (.iconst 0, 1) := by decide +kernel
theorem dL_law_118 : decode cL_law 118 = .ok (.ireturn, 1) := by decide +kernel
theorem dL_law_119 : decode cL_law 119 = .ok (.aload_n 1, 1) := by decide +kernel
theorem dL_law_120 : decode cL_law 120 = .ok (.aload_n 0, 1) := by decide +kernel
theorem dL_law_121 : decode cL_law 121 = .ok (.iload_n 3, 1) := by decide +kernel
theorem dL_law_122 : decode cL_law 122 = .ok (.iconst 1, 1) := by decide +kernel
theorem dL_law_123 : decode cL_law 123 = .ok (.iadd, 1) := by decide +kernel
theorem dL_law_124 : decode cL_law 124 = .ok (.iaload, 1) := by decide +kernel
theorem dL_law_125 : decode cL_law 125 = .ok (.aload_n 0, 1) := by decide +kernel
theorem dL_law_126 : decode cL_law 126 = .ok (.iload_n 3, 1) := by decide +kernel
theorem dL_law_127 : decode cL_law 127 = .ok (.iconst 2, 1) := by decide +kernel
theorem dL_law_128 : decode cL_law 128 = .ok (.iadd, 1) := by decide +kernel
theorem dL_law_129 : decode cL_law 129 = .ok (.iaload, 1) := by decide +kernel
theorem dL_law_130 : decode cL_law 130 = .ok (.invokevirtual 18, 3) := by decide +kernel
theorem dL_law_133 : decode cL_law 133 = .ok (.aload_n 2, 1) := by decide +kernel
theorem dL_law_134 : decode cL_law 134 = .ok (.aload_n 0, 1) := by decide +kernel
theorem dL_law_135 : decode cL_law 135 = .ok (.iload_n 3, 1) := by decide +kernel
theorem dL_law_136 : decode cL_law 136 = .ok (.iconst 1, 1) := by decide +kernel
theorem dL_law_137 : decode cL_law 137 = .ok (.iadd, 1) := by decide +kernel
theorem dL_law_138 : decode cL_law 138 = .ok (.iaload, 1) := by decide +kernel
theorem dL_law_139 : decode cL_law 139 = .ok (.aload_n 0, 1) := by decide +kernel
theorem dL_law_140 : decode cL_law 140 = .ok (.iload_n 3, 1) := by decide +kernel
theorem dL_law_141 : decode cL_law 141 = .ok (.iconst 2, 1) := by decide +kernel
theorem dL_law_142 : decode cL_law 142 = .ok (.iadd, 1) := by decide +kernel
theorem dL_law_143 : decode cL_law 143 = .ok (.iaload, 1) := by decide +kernel
theorem dL_law_144 : decode cL_law 144 = .ok (.invokevirtual 22, 3) := by decide +kernel
theorem dL_law_147 : decode cL_law 147 = .ok (.if_icmp .eq 452, 3) := by decide +kernel
theorem dL_law_150 : decode cL_law 150 = .ok (.iconst 0, 1) := by decide +kernel
theorem dL_law_151 : decode cL_law 151 = .ok (.ireturn, 1) := by decide +kernel
theorem dL_law_152 : decode cL_law 152 = .ok (.aload_n 1, 1) := by decide +kernel
theorem dL_law_153 : decode cL_law 153 = .ok (.aload_n 0, 1) := by decide +kernel
theorem dL_law_154 : decode cL_law 154 = .ok (.iload_n 3, 1) := by decide +kernel
theorem dL_law_155 : decode cL_law 155 = .ok (.iconst 1, 1) := by decide +kernel
theorem dL_law_156 : decode cL_law 156 = .ok (.iadd, 1) := by decide +kernel
theorem dL_law_157 : decode cL_law 157 = .ok (.iaload, 1) := by decide +kernel
theorem dL_law_158 : decode cL_law 158 = .ok (.aload_n 0, 1) := by decide +kernel
theorem dL_law_159 : decode cL_law 159 = .ok (.iload_n 3, 1) := by decide +kernel
theorem dL_law_160 : decode cL_law 160 = .ok (.iconst 2, 1) := by decide +kernel
theorem dL_law_161 : decode cL_law 161 = .ok (.iadd, 1) := by decide +kernel
theorem dL_law_162 : decode cL_law 162 = .ok (.iaload, 1) := by decide +kernel
theorem dL_law_163 : decode cL_law 163 = .ok (.invokevirtual 23, 3) := by decide +kernel
theorem dL_law_166 : decode cL_law 166 = .ok (.aload_n 2, 1) := by decide +kernel
theorem dL_law_167 : decode cL_law 167 = .ok (.aload_n 0, 1) := by decide +kernel
theorem dL_law_168 : decode cL_law 168 = .ok (.iload_n 3, 1) := by decide +kernel
theorem dL_law_169 : decode cL_law 169 = .ok (.iconst 1, 1) := by decide +kernel
theorem dL_law_170 : decode cL_law 170 = .ok (.iadd, 1) := by decide +kernel
theorem dL_law_171 : decode cL_law 171 = .ok (.iaload, 1) := by decide +kernel
theorem dL_law_172 : decode cL_law 172 = .ok (.aload_n 0, 1) := by decide +kernel
theorem dL_law_173 : decode cL_law 173 = .ok (.iload_n 3, 1) := by decide +kernel
theorem dL_law_174 : decode cL_law 174 = .ok (.iconst 2, 1) := by decide +kernel
theorem dL_law_175 : decode cL_law 175 = .ok (.iadd, 1) := by decide +kernel
theorem dL_law_176 : decode cL_law 176 = .ok (.iaload, 1) := by decide +kernel
theorem dL_law_177 : decode cL_law 177 = .ok (.invokevirtual 27, 3) := by decide +kernel
theorem dL_law_180 : decode cL_law 180 = .ok (.if_icmp .eq 419, 3) := by decide +kernel
theorem dL_law_183 : decode cL_law 183 = .ok (.iconst 0, 1) := by decide +kernel
theorem dL_law_184 : decode cL_law 184 = .ok (.ireturn, 1) := by decide +kernel
theorem dL_law_185 : decode cL_law 185 = .ok (.aload_n 1, 1) := by decide +kernel
theorem dL_law_186 : decode cL_law 186 = .ok (.aload_n 0, 1) := by decide +kernel
theorem dL_law_187 : decode cL_law 187 = .ok (.iload_n 3, 1) := by decide +kernel
theorem dL_law_188 : decode cL_law 188 = .ok (.iconst 1, 1) := by decide +kernel
theorem dL_law_189 : decode cL_law 189 = .ok (.iadd, 1) := by decide +kernel
theorem dL_law_190 : decode cL_law 190 = .ok (.iaload, 1) := by decide +kernel
theorem dL_law_191 : decode cL_law 191 = .ok (.aload_n 0, 1) := by decide +kernel
theorem dL_law_192 : decode cL_law 192 = .ok (.iload_n 3, 1) := by decide +kernel
theorem dL_law_193 : decode cL_law 193 = .ok (.iconst 2, 1) := by decide +kernel
theorem dL_law_194 : decode cL_law 194 = .ok (.iadd, 1) := by decide +kernel
theorem dL_law_195 : decode cL_law 195 = .ok (.iaload, 1) := by decide +kernel
theorem dL_law_196 : decode cL_law 196 = .ok (.aload_n 0, 1) := by decide +kernel
theorem dL_law_197 : decode cL_law 197 = .ok (.iload_n 3, 1) := by decide +kernel
theorem dL_law_198 : decode cL_law 198 = .ok (.iconst 3, 1) := by decide +kernel
theorem dL_law_199 : decode cL_law 199 = .ok (.iadd, 1) := by decide +kernel
theorem dL_law_200 : decode cL_law 200 = .ok (.iaload, 1) := by decide +kernel
theorem dL_law_201 : decode cL_law 201 = .ok (.ifCond .eq 7, 3) := by decide +kernel
theorem dL_law_204 : decode cL_law 204 = .ok (.iconst 1, 1) := by decide +kernel
theorem dL_law_205 : decode cL_law 205 = .ok (.goto 4, 3) := by decide +kernel
theorem dL_law_208 : decode cL_law 208 = .ok (.iconst 0, 1) := by decide +kernel
theorem dL_law_209 : decode cL_law 209 = .ok (.aload_n 0, 1) := by decide +kernel
theorem dL_law_210 : decode cL_law 210 = .ok (.iload_n 3, 1) := by decide +kernel
theorem dL_law_211 : decode cL_law 211 = .ok (.iconst 4, 1) := by decide +kernel
theorem dL_law_212 : decode cL_law 212 = .ok (.iadd, 1) := by decide +kernel
theorem dL_law_213 : decode cL_law 213 = .ok (.iaload, 1) := by decide +kernel
theorem dL_law_214 : decode cL_law 214 = .ok (.ifCond .eq 7, 3) := by decide +kernel
theorem dL_law_217 : decode cL_law 217 = .ok (.iconst 1, 1) := by decide +kernel
theorem dL_law_218 : decode cL_law 218 = .ok (.goto 4, 3) := by decide +kernel
theorem dL_law_221 : decode cL_law 221 = .ok (.iconst 0, 1) := by decide +kernel
theorem dL_law_222 : decode cL_law 222 = .ok (.invokevirtual 28, 3) := by decide +kernel
theorem dL_law_225 : decode cL_law 225 = .ok (.aload_n 2, 1) := by decide +kernel
theorem dL_law_226 : decode cL_law 226 = .ok (.aload_n 0, 1) := by decide +kernel
theorem dL_law_227 : decode cL_law 227 = .ok (.iload_n 3, 1) := by decide +kernel
theorem dL_law_228 : decode cL_law 228 = .ok (.iconst 1, 1) := by decide +kernel
theorem dL_law_229 : decode cL_law 229 = .ok (.iadd, 1) := by decide +kernel
theorem dL_law_230 : decode cL_law 230 = .ok (.iaload, 1) := by decide +kernel
theorem dL_law_231 : decode cL_law 231 = .ok (.aload_n 0, 1) := by decide +kernel
theorem dL_law_232 : decode cL_law 232 = .ok (.iload_n 3, 1) := by decide +kernel
theorem dL_law_233 : decode cL_law 233 = .ok (.iconst 2, 1) := by decide +kernel
theorem dL_law_234 : decode cL_law 234 = .ok (.iadd, 1) := by decide +kernel
theorem dL_law_235 : decode cL_law 235 = .ok (.iaload, 1) := by decide +kernel
theorem dL_law_236 : decode cL_law 236 = .ok (.aload_n 0, 1) := by decide +kernel
theorem dL_law_237 : decode cL_law 237 = .ok (.iload_n 3, 1) := by decide +kernel
theorem dL_law_238 : decode cL_law 238 = .ok (.iconst 3, 1) := by decide +kernel
theorem dL_law_239 : decode cL_law 239 = .ok (.iadd, 1) := by decide +kernel
theorem dL_law_240 : decode cL_law 240 = .ok (.iaload, 1) := by decide +kernel
theorem dL_law_241 : decode cL_law 241 = .ok (.ifCond .eq 7, 3) := by decide +kernel
theorem dL_law_244 : decode cL_law 244 = .ok (.iconst 1, 1) := by decide +kernel
theorem dL_law_245 : decode cL_law 245 = .ok (.goto 4, 3) := by decide +kernel
theorem dL_law_248 : decode cL_law 248 = .ok (.iconst 0, 1) := by decide +kernel
theorem dL_law_249 : decode cL_law 249 = .ok (.aload_n 0, 1) := by decide +kernel
theorem dL_law_250 : decode cL_law 250 = .ok (.iload_n 3, 1) := by decide +kernel
theorem dL_law_251 : decode cL_law 251 = .ok (.iconst 4, 1) := by decide +kernel
theorem dL_law_252 : decode cL_law 252 = .ok (.iadd, 1) := by decide +kernel
theorem dL_law_253 : decode cL_law 253 = .ok (.iaload, 1) := by decide +kernel
theorem dL_law_254 : decode cL_law 254 = .ok (.ifCond .eq 7, 3) := by decide +kernel
theorem dL_law_257 : decode cL_law 257 = .ok (.iconst 1, 1) := by decide +kernel
theorem dL_law_258 : decode cL_law 258 = .ok (.goto 4, 3) := by decide +kernel
theorem dL_law_261 : decode cL_law 261 = .ok (.iconst 0, 1) := by decide +kernel
theorem dL_law_262 : decode cL_law 262 = .ok (.invokevirtual 32, 3) := by decide +kernel
theorem dL_law_265 : decode cL_law 265 = .ok (.if_icmp .eq 334, 3) := by decide +kernel
theorem dL_law_268 : decode cL_law 268 = .ok (.iconst 0, 1) := by decide +kernel
theorem dL_law_269 : decode cL_law 269 = .ok (.ireturn, 1) := by decide +kernel
theorem dL_law_270 : decode cL_law 270 = .ok (.aload_n 1, 1) := by decide +kernel
theorem dL_law_271 : decode cL_law 271 = .ok (.aload_n 0, 1) := by decide +kernel
theorem dL_law_272 : decode cL_law 272 = .ok (.iload_n 3, 1) := by decide +kernel
theorem dL_law_273 : decode cL_law 273 = .ok (.iconst 1, 1) := by decide +kernel
theorem dL_law_274 : decode cL_law 274 = .ok (.iadd, 1) := by decide +kernel
theorem dL_law_275 : decode cL_law 275 = .ok (.iaload, 1) := by decide +kernel
theorem dL_law_276 : decode cL_law 276 = .ok (.aload_n 0, 1) := by decide +kernel
theorem dL_law_277 : decode cL_law 277 = .ok (.iload_n 3, 1) := by decide +kernel
theorem dL_law_278 : decode cL_law 278 = .ok (.iconst 2, 1) := by decide +kernel
theorem dL_law_279 : decode cL_law 279 = .ok (.iadd, 1) := by decide +kernel
theorem dL_law_280 : decode cL_law 280 = .ok (.iaload, 1) := by decide +kernel
theorem dL_law_281 : decode cL_law 281 = .ok (.aload_n 0, 1) := by decide +kernel
theorem dL_law_282 : decode cL_law 282 = .ok (.iload_n 3, 1) := by decide +kernel
theorem dL_law_283 : decode cL_law 283 = .ok (.iconst 3, 1) := by decide +kernel
theorem dL_law_284 : decode cL_law 284 = .ok (.iadd, 1) := by decide +kernel
theorem dL_law_285 : decode cL_law 285 = .ok (.iaload, 1) := by decide +kernel
theorem dL_law_286 : decode cL_law 286 = .ok (.ifCond .eq 7, 3) := by decide +kernel
theorem dL_law_289 : decode cL_law 289 = .ok (.iconst 1, 1) := by decide +kernel
theorem dL_law_290 : decode cL_law 290 = .ok (.goto 4, 3) := by decide +kernel
theorem dL_law_293 : decode cL_law 293 = .ok (.iconst 0, 1) := by decide +kernel
theorem dL_law_294 : decode cL_law 294 = .ok (.aload_n 0, 1) := by decide +kernel
theorem dL_law_295 : decode cL_law 295 = .ok (.iload_n 3, 1) := by decide +kernel
theorem dL_law_296 : decode cL_law 296 = .ok (.iconst 4, 1) := by decide +kernel
theorem dL_law_297 : decode cL_law 297 = .ok (.iadd, 1) := by decide +kernel
theorem dL_law_298 : decode cL_law 298 = .ok (.iaload, 1) := by decide +kernel
theorem dL_law_299 : decode cL_law 299 = .ok (.aload_n 0, 1) := by decide +kernel
theorem dL_law_300 : decode cL_law 300 = .ok (.iload_n 3, 1) := by decide +kernel
theorem dL_law_301 : decode cL_law 301 = .ok (.iconst 5, 1) := by decide +kernel
theorem dL_law_302 : decode cL_law 302 = .ok (.iadd, 1) := by decide +kernel
theorem dL_law_303 : decode cL_law 303 = .ok (.iaload, 1) := by decide +kernel
theorem dL_law_304 : decode cL_law 304 = .ok (.i2l, 1) := by decide +kernel
theorem dL_law_305 : decode cL_law 305 = .ok (.bipush 32, 2) := by decide +kernel
theorem dL_law_307 : decode cL_law 307 = .ok (.lshl, 1) := by decide +kernel
theorem dL_law_308 : decode cL_law 308 = .ok (.aload_n 0, 1) := by decide +kernel
theorem dL_law_309 : decode cL_law 309 = .ok (.iload_n 3, 1) := by decide +kernel
theorem dL_law_310 : decode cL_law 310 = .ok (.bipush 6, 2) := by decide +kernel
theorem dL_law_312 : decode cL_law 312 = .ok (.iadd, 1) := by decide +kernel
theorem dL_law_313 : decode cL_law 313 = .ok (.iaload, 1) := by decide +kernel
theorem dL_law_314 : decode cL_law 314 = .ok (.i2l, 1) := by decide +kernel
theorem dL_law_315 : decode cL_law 315 = .ok (.ldc2_w 33, 3) := by decide +kernel
theorem dL_law_318 : decode cL_law 318 = .ok (.land, 1) := by decide +kernel
theorem dL_law_319 : decode cL_law 319 = .ok (.lor, 1) := by decide +kernel
theorem dL_law_320 : decode cL_law 320 = .ok (.invokevirtual 35, 3) := by decide +kernel
theorem dL_law_323 : decode cL_law 323 = .ok (.aload_n 2, 1) := by decide +kernel
theorem dL_law_324 : decode cL_law 324 = .ok (.aload_n 0, 1) := by decide +kernel
theorem dL_law_325 : decode cL_law 325 = .ok (.iload_n 3, 1) := by decide +kernel
theorem dL_law_326 : decode cL_law 326 = .ok (.iconst 1, 1) := by decide +kernel
theorem dL_law_327 : decode cL_law 327 = .ok (.iadd, 1) := by decide +kernel
theorem dL_law_328 : decode cL_law 328 = .ok (.iaload, 1) := by decide +kernel
theorem dL_law_329 : decode cL_law 329 = .ok (.aload_n 0, 1) := by decide +kernel
theorem dL_law_330 : decode cL_law 330 = .ok (.iload_n 3, 1) := by decide +kernel
theorem dL_law_331 : decode cL_law 331 = .ok (.iconst 2, 1) := by decide +kernel
theorem dL_law_332 : decode cL_law 332 = .ok (.iadd, 1) := by decide +kernel
theorem dL_law_333 : decode cL_law 333 = .ok (.iaload, 1) := by decide +kernel
theorem dL_law_334 : decode cL_law 334 = .ok (.aload_n 0, 1) := by decide +kernel
theorem dL_law_335 : decode cL_law 335 = .ok (.iload_n 3, 1) := by decide +kernel
theorem dL_law_336 : decode cL_law 336 = .ok (.iconst 3, 1) := by decide +kernel
theorem dL_law_337 : decode cL_law 337 = .ok (.iadd, 1) := by decide +kernel
theorem dL_law_338 : decode cL_law 338 = .ok (.iaload, 1) := by decide +kernel
theorem dL_law_339 : decode cL_law 339 = .ok (.ifCond .eq 7, 3) := by decide +kernel
theorem dL_law_342 : decode cL_law 342 = .ok (.iconst 1, 1) := by decide +kernel
theorem dL_law_343 : decode cL_law 343 = .ok (.goto 4, 3) := by decide +kernel
theorem dL_law_346 : decode cL_law 346 = .ok (.iconst 0, 1) := by decide +kernel
theorem dL_law_347 : decode cL_law 347 = .ok (.aload_n 0, 1) := by decide +kernel
theorem dL_law_348 : decode cL_law 348 = .ok (.iload_n 3, 1) := by decide +kernel
theorem dL_law_349 : decode cL_law 349 = .ok (.iconst 4, 1) := by decide +kernel
theorem dL_law_350 : decode cL_law 350 = .ok (.iadd, 1) := by decide +kernel
theorem dL_law_351 : decode cL_law 351 = .ok (.iaload, 1) := by decide +kernel
theorem dL_law_352 : decode cL_law 352 = .ok (.aload_n 0, 1) := by decide +kernel
theorem dL_law_353 : decode cL_law 353 = .ok (.iload_n 3, 1) := by decide +kernel
theorem dL_law_354 : decode cL_law 354 = .ok (.iconst 5, 1) := by decide +kernel
theorem dL_law_355 : decode cL_law 355 = .ok (.iadd, 1) := by decide +kernel
theorem dL_law_356 : decode cL_law 356 = .ok (.iaload, 1) := by decide +kernel
theorem dL_law_357 : decode cL_law 357 = .ok (.i2l, 1) := by decide +kernel
theorem dL_law_358 : decode cL_law 358 = .ok (.bipush 32, 2) := by decide +kernel
theorem dL_law_360 : decode cL_law 360 = .ok (.lshl, 1) := by decide +kernel
theorem dL_law_361 : decode cL_law 361 = .ok (.aload_n 0, 1) := by decide +kernel
theorem dL_law_362 : decode cL_law 362 = .ok (.iload_n 3, 1) := by decide +kernel
theorem dL_law_363 : decode cL_law 363 = .ok (.bipush 6, 2) := by decide +kernel
theorem dL_law_365 : decode cL_law 365 = .ok (.iadd, 1) := by decide +kernel
theorem dL_law_366 : decode cL_law 366 = .ok (.iaload, 1) := by decide +kernel
theorem dL_law_367 : decode cL_law 367 = .ok (.i2l, 1) := by decide +kernel
theorem dL_law_368 : decode cL_law 368 = .ok (.ldc2_w 33, 3) := by decide +kernel
theorem dL_law_371 : decode cL_law 371 = .ok (.land, 1) := by decide +kernel
theorem dL_law_372 : decode cL_law 372 = .ok (.lor, 1) := by decide +kernel
theorem dL_law_373 : decode cL_law 373 = .ok (.invokevirtual 39, 3) := by decide +kernel
theorem dL_law_376 : decode cL_law 376 = .ok (.if_icmp .eq 223, 3) := by decide +kernel
theorem dL_law_379 : decode cL_law 379 = .ok (.iconst 0, 1) := by decide +kernel
theorem dL_law_380 : decode cL_law 380 = .ok (.ireturn, 1) := by decide +kernel
theorem dL_law_381 : decode cL_law 381 = .ok (.aload_n 1, 1) := by decide +kernel
theorem dL_law_382 : decode cL_law 382 = .ok (.invokevirtual 40, 3) := by decide +kernel
theorem dL_law_385 : decode cL_law 385 = .ok (.aload_n 2, 1) := by decide +kernel
