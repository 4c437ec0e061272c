theorem dX0_changed_103 : decode cX0_changed 103 = .ok (.lload 10, 2) := by decide +kernel
theorem dX0_changed_105 : decode cX0_changed 105 = .ok (.lload 7, 2) := by decide +kernel
theorem dX0_changed_107 : decode cX0_changed 107 = .ok (.iconst 0, 1) := by decide +kernel
theorem dX0_changed_108 : decode cX0_changed 108 = .ok (.lload 7, 2) := by decide +kernel
theorem dX0_changed_110 : decode cX0_changed 110 = .ok (.invokestatic 99, 3) := by decide +kernel
theorem dX0_changed_113 : decode cX0_changed 113 = .ok (.invokestatic 106, 3) := by decide +kernel
theorem dX0_changed_116 : decode cX0_changed 116 = .ok (.lstore 10, 2) := by decide +kernel
theorem dX0_changed_118 : decode cX0_changed 118 = .ok (.lload 10, 2) := by decide +kernel
theorem dX0_changed_120 : decode cX0_changed 120 = .ok (.lload 5, 2) := by decide +kernel
theorem dX0_changed_122 : decode cX0_changed 122 = .ok (.iload_n 2, 1) := by decide +kernel
theorem dX0_changed_123 : decode cX0_changed 123 = .ok (.iload_n 3, 1) := by decide +kernel
theorem dX0_changed_124 : decode cX0_changed 124 = .ok (.iadd, 1) := by decide +kernel
theorem dX0_changed_125 : decode cX0_changed 125 = .ok (.iload 9, 2) := by decide +kernel
theorem dX0_changed_127 : decode cX0_changed 127 = .ok (.invokestatic 106, 3) := by decide +kernel
theorem dX0_changed_130 : decode cX0_changed 130 = .ok (.lstore 10, 2) := by decide +kernel
theorem dX0_changed_132 : decode cX0_changed 132 = .ok (.aload_n 0, 1) := by decide +kernel
theorem dX0_changed_133 : decode cX0_changed 133 = .ok (.lload 10, 2) := by decide +kernel
theorem dX0_changed_135 : decode cX0_changed 135 = .ok (.invokevirtual 89, 3) := by decide +kernel
theorem dX0_changed_138 : decode cX0_changed 138 = .ok (.ireturn, 1) := by decide +kernel
set_option maxRecDepth 20000 in
theorem ggX0_firstAbove_X0_isBox : GoodIn wsX0_firstAbove wsX0_isBox := goodIn_r _ [4] (by decide +kernel) (by decide +kernel)
set_option maxRecDepth 20000 in
theorem gX0_firstAbove_X0_isBox : GoodIn wsX0_firstAbove (va_wsS RX0 110 yX0_isBox wsX0_isBox) := goodIn_app (goodIn_of _ (by decide +kernel)) ggX0_firstAbove_X0_isBox
set_option maxRecDepth 20000 in
theorem ggX0_firstAbove_X0_isOfNumbers : GoodIn wsX0_firstAbove wsX0_isOfNumbers := goodIn_r _ [7] (by decide +kernel) (by decide +kernel)
set_option maxRecDepth 20000 in
theorem gX0_firstAbove_X0_isOfNumbers : GoodIn wsX0_firstAbove (va_wsS RX0 113 yX0_isOfNumbers wsX0_isOfNumbers) := goodIn_app (goodIn_of _ (by decide +kernel)) ggX0_firstAbove_X0_isOfNumbers
theorem dX0_firstAbove_0 : decode cX0_firstAbove 0 = .ok (.iconst 1, 1) := by decide +kernel
theorem dX0_firstAbove_1 : decode cX0_firstAbove 1 = .ok (.iload_n 0, 1) := by decide +kernel
theorem dX0_firstAbove_2 : decode cX0_firstAbove 2 = .ok (.ishl, 1) := by decide +kernel
theorem dX0_firstAbove_3 : decode cX0_firstAbove 3 = .ok (.istore_n 1, 1) := by decide +kernel
theorem dX0_firstAbove_4 : decode cX0_firstAbove 4 = .ok (.iload_n 0, 1) := by decide +kernel
theorem dX0_firstAbove_5 : decode cX0_firstAbove 5 = .ok (.bipush 7, 2) := by decide +kernel
theorem dX0_firstAbove_7 : decode cX0_firstAbove 7 = .ok (.if_icmp .le 9, 3) := by decide +kernel
theorem dX0_firstAbove_10 : decode cX0_firstAbove 10 = .ok (.iload_n 1, 1) := by decide +kernel
theorem dX0_firstAbove_11 : decode cX0_firstAbove 11 = .ok (.sipush 128, 3) := by decide +kernel
theorem dX0_firstAbove_14 : decode cX0_firstAbove 14 = .ok (.ior, 1) := by decide +kernel
theorem dX0_firstAbove_15 : decode cX0_firstAbove 15 = .ok (.istore_n 1, 1) := by decide +kernel
theorem dX0_firstAbove_16 : decode cX0_firstAbove 16 = .ok (.iload_n 0, 1) := by decide +kernel
theorem dX0_firstAbove_17 : decode cX0_firstAbove 17 = .ok (.invokestatic 110, 3) := by decide +kernel
theorem dX0_firstAbove_20 : decode cX0_firstAbove 20 = .ok (.ifCond .eq 19, 3) := by decide +kernel
theorem dX0_firstAbove_23 : decode cX0_firstAbove 23 = .ok (.iload_n 0, 1) := by decide +kernel
theorem dX0_firstAbove_24 : decode cX0_firstAbove 24 = .ok (.bipush 8, 2) := by decide +kernel
theorem dX0_firstAbove_26 : decode cX0_firstAbove 26 = .ok (.isub, 1) := by decide +kernel
theorem dX0_firstAbove_27 : decode cX0_firstAbove 27 = .ok (.invokestatic 113, 3) := by decide +kernel
theorem dX0_firstAbove_30 : decode cX0_firstAbove 30 = .ok (.ifCond .eq 9, 3) := by decide +kernel
theorem dX0_firstAbove_33 : decode cX0_firstAbove 33 = .ok (.iload_n 1, 1) := by decide +kernel
theorem dX0_firstAbove_34 : decode cX0_firstAbove 34 = .ok (.sipush 256, 3) := by decide +kernel
theorem dX0_firstAbove_37 : decode cX0_firstAbove 37 = .ok (.ior, 1) := by decide +kernel
theorem dX0_firstAbove_38 : decode cX0_firstAbove 38 = .ok (.istore_n 1, 1) := by decide +kernel
theorem dX0_firstAbove_39 : decode cX0_firstAbove 39 = .ok (.iload_n 1, 1) := by decide +kernel
theorem dX0_firstAbove_40 : decode cX0_firstAbove 40 = .ok (.ireturn, 1) := by decide +kernel
theorem dX0_isPlain_0 : decode cX0_isPlain 0 = .ok (.iload_n 0, 1) := by decide +kernel
theorem dX0_isPlain_1 : decode cX0_isPlain 1 = .ok (.iconst 1, 1) := by decide +kernel
theorem dX0_isPlain_2 : decode cX0_isPlain 2 = .ok (.if_icmp .lt 13, 3) := by decide +kernel
theorem dX0_isPlain_5 : decode cX0_isPlain 5 = .ok (.iload_n 0, 1) := by decide +kernel
theorem dX0_isPlain_6 : decode cX0_isPlain 6 = .ok (.bipush 6, 2) := by decide +kernel
theorem dX0_isPlain_8 : decode cX0_isPlain 8 = .ok (.if_icmp .gt 7, 3) := by decide +kernel
theorem dX0_isPlain_11 : decode cX0_isPlain 11 = .ok (.iconst 1, 1) := by decide +kernel
theorem dX0_isPlain_12 : decode cX0_isPlain 12 = .ok (.goto 4, 3) := by decide +kernel
theorem dX0_isPlain_15 : decode cX0_isPlain 15 = .ok (.iconst 0, 1) := by decide +kernel
theorem dX0_isPlain_16 : decode cX0_isPlain 16 = .ok (.ireturn, 1) := by decide +kernel
theorem dX0_isBox_0 : decode cX0_isBox 0 = .ok (.iload_n 0, 1) := by decide +kernel
theorem dX0_isBox_1 : decode cX0_isBox 1 = .ok (.bipush 9, 2) := by decide +kernel
theorem dX0_isBox_3 : decode cX0_isBox 3 = .ok (.if_icmp .lt 13, 3) := by decide +kernel
theorem dX0_isBox_6 : decode cX0_isBox 6 = .ok (.iload_n 0, 1) := by decide +kernel
theorem dX0_isBox_7 : decode cX0_isBox 7 = .ok (.bipush 14, 2) := by decide +kernel
theorem dX0_isBox_9 : decode cX0_isBox 9 = .ok (.if_icmp .gt 7, 3) := by decide +kernel
theorem dX0_isBox_12 : decode cX0_isBox 12 = .ok (.iconst 1, 1) := by decide +kernel
theorem dX0_isBox_13 : decode cX0_isBox 13 = .ok (.goto 4, 3) := by decide +kernel
theorem dX0_isBox_16 : decode cX0_isBox 16 = .ok (.iconst 0, 1) := by decide +kernel
theorem dX0_isBox_17 : decode cX0_isBox 17 = .ok (.ireturn, 1) := by decide +kernel
theorem dX0_isOfNumbers_0 : decode cX0_isOfNumbers 0 = .ok (.iload_n 0, 1) := by decide +kernel
theorem dX0_isOfNumbers_1 : decode cX0_isOfNumbers 1 = .ok (.iconst 2, 1) := by decide +kernel
theorem dX0_isOfNumbers_2 : decode cX0_isOfNumbers 2 = .ok (.if_icmp .eq 19, 3) := by decide +kernel
theorem dX0_isOfNumbers_5 : decode cX0_isOfNumbers 5 = .ok (.iload_n 0, 1) := by decide +kernel
theorem dX0_isOfNumbers_6 : decode cX0_isOfNumbers 6 = .ok (.iconst 3, 1) := by decide +kernel
theorem dX0_isOfNumbers_7 : decode cX0_isOfNumbers 7 = .ok (.if_icmp .eq 14, 3) := by decide +kernel
theorem dX0_isOfNumbers_10 : decode cX0_isOfNumbers 10 = .ok (.iload_n 0, 1) := by decide +kernel
theorem dX0_isOfNumbers_11 : decode cX0_isOfNumbers 11 = .ok (.iconst 5, 1) := by decide +kernel
theorem dX0_isOfNumbers_12 : decode cX0_isOfNumbers 12 = .ok (.if_icmp .eq 9, 3) := by decide +kernel
theorem dX0_isOfNumbers_15 : decode cX0_isOfNumbers 15 = .ok (.iload_n 0, 1) := by decide +kernel
theorem dX0_isOfNumbers_16 : decode cX0_isOfNumbers 16 = .ok (.bipush 6, 2) := by decide +kernel
theorem dX0_isOfNumbers_18 : decode cX0_isOfNumbers 18 = .ok (.if_icmp .ne 7, 3) := by decide +kernel
theorem dX0_isOfNumbers_21 : decode cX0_isOfNumbers 21 = .ok (.iconst 1, 1) := by decide +kernel
theorem dX0_isOfNumbers_22 : decode cX0_isOfNumbers 22 = .ok (.goto 4, 3) := by decide +kernel
theorem dX0_isOfNumbers_25 : decode cX0_isOfNumbers 25 = .ok (.iconst 0, 1) := by decide +kernel
theorem dX0_isOfNumbers_26 : decode cX0_isOfNumbers 26 = .ok (.ireturn, 1) := by decide +kernel
theorem dX0_isKind_0 : decode cX0_isKind 0 = .ok (.iload_n 1, 1) := by decide +kernel
theorem dX0_isKind_1 : decode cX0_isKind 1 = .ok (.ifCond .lt 15, 3) := by decide +kernel
theorem dX0_isKind_4 : decode cX0_isKind 4 = .ok (.iload_n 1, 1) := by decide +kernel
theorem dX0_isKind_5 : decode cX0_isKind 5 = .ok (.aload_n 0, 1) := by decide +kernel
theorem dX0_isKind_6 : decode cX0_isKind 6 = .ok (.getfield 17, 3) := by decide +kernel
theorem dX0_isKind_9 : decode cX0_isKind 9 = .ok (.if_icmp .ge 7, 3) := by decide +kernel
theorem dX0_isKind_12 : decode cX0_isKind 12 = .ok (.iconst 1, 1) := by decide +kernel
theorem dX0_isKind_13 : decode cX0_isKind 13 = .ok (.goto 4, 3) := by decide +kernel
theorem dX0_isKind_16 : decode cX0_isKind 16 = .ok (.iconst 0, 1) := by decide +kernel
theorem dX0_isKind_17 : decode cX0_isKind 17 = .ok (.ireturn, 1) := by decide +kernel
set_option maxRecDepth 20000 in
theorem ggX0_mayBeParent_X0_isKind : GoodIn wsX0_mayBeParent wsX0_isKind := goodIn_r _ [5, 6, 7, 8, 9, 10, 11, 12, 13, 14] (by decide +kernel) (by decide +kernel)
set_option maxRecDepth 20000 in
theorem gX0_mayBeParent_X0_isKind : GoodIn wsX0_mayBeParent (wsV RX0 45 RX0 yX0_isKind wsX0_isKind) := goodIn_app (goodIn_of _ (by decide +kernel)) ggX0_mayBeParent_X0_isKind
theorem dX0_mayBeParent_0 : decode cX0_mayBeParent 0 = .ok (.aload_n 0, 1) := by decide +kernel
theorem dX0_mayBeParent_1 : decode cX0_mayBeParent 1 = .ok (.iload_n 1, 1) := by decide +kernel
theorem dX0_mayBeParent_2 : decode cX0_mayBeParent 2 = .ok (.invokevirtual 45, 3) := by decide +kernel
theorem dX0_mayBeParent_5 : decode cX0_mayBeParent 5 = .ok (.ifCond .eq 25, 3) := by decide +kernel
theorem dX0_mayBeParent_8 : decode cX0_mayBeParent 8 = .ok (.iload_n 1, 1) := by decide +kernel
theorem dX0_mayBeParent_9 : decode cX0_mayBeParent 9 = .ok (.bipush 7, 2) := by decide +kernel
theorem dX0_mayBeParent_11 : decode cX0_mayBeParent 11 = .ok (.if_icmp .eq 15, 3) := by decide +kernel
theorem dX0_mayBeParent_14 : decode cX0_mayBeParent 14 = .ok (.iload_n 1, 1) := by decide +kernel
theorem dX0_mayBeParent_15 : decode cX0_mayBeParent 15 = .ok (.bipush 19, 2) := by decide +kernel
theorem dX0_mayBeParent_17 : decode cX0_mayBeParent 17 = .ok (.if_icmp .eq 9, 3) := by decide +kernel
theorem dX0_mayBeParent_20 : decode cX0_mayBeParent 20 = .ok (.iload_n 1, 1) := by decide +kernel
theorem dX0_mayBeParent_21 : decode cX0_mayBeParent 21 = .ok (.bipush 20, 2) := by decide +kernel
theorem dX0_mayBeParent_23 : decode cX0_mayBeParent 23 = .ok (.if_icmp .lt 7, 3) := by decide +kernel
theorem dX0_mayBeParent_26 : decode cX0_mayBeParent 26 = .ok (.iconst 1, 1) := by decide +kernel
theorem dX0_mayBeParent_27 : decode cX0_mayBeParent 27 = .ok (.goto 4, 3) := by decide +kernel
theorem dX0_mayBeParent_30 : decode cX0_mayBeParent 30 = .ok (.iconst 0, 1) := by decide +kernel
theorem dX0_mayBeParent_31 : decode cX0_mayBeParent 31 = .ok (.ireturn, 1) := by decide +kernel
theorem dX0_isBelow_0 : decode cX0_isBelow 0 = .ok (.aload_n 0, 1) := by decide +kernel
theorem dX0_isBelow_1 : decode cX0_isBelow 1 = .ok (.getfield 9, 3) := by decide +kernel
theorem dX0_isBelow_4 : decode cX0_isBelow 4 = .ok (.iload_n 1, 1) := by decide +kernel
theorem dX0_isBelow_5 : decode cX0_isBelow 5 = .ok (.iaload, 1) := by decide +kernel
theorem dX0_isBelow_6 : decode cX0_isBelow 6 = .ok (.iload_n 2, 1) := by decide +kernel
theorem dX0_isBelow_7 : decode cX0_isBelow 7 = .ok (.iushr, 1) := by decide +kernel
theorem dX0_isBelow_8 : decode cX0_isBelow 8 = .ok (.iconst 1, 1) := by decide +kernel
theorem dX0_isBelow_9 : decode cX0_isBelow 9 = .ok (.iand, 1) := by decide +kernel
theorem dX0_isBelow_10 : decode cX0_isBelow 10 = .ok (.ifCond .eq 7, 3) := by decide +kernel
theorem dX0_isBelow_13 : decode cX0_isBelow 13 = .ok (.iconst 1, 1) := by decide +kernel
theorem dX0_isBelow_14 : decode cX0_isBelow 14 = .ok (.goto 4, 3) := by decide +kernel
theorem dX0_isBelow_17 : decode cX0_isBelow 17 = .ok (.iconst 0, 1) := by decide +kernel
theorem dX0_isBelow_18 : decode cX0_isBelow 18 = .ok (.ireturn, 1) := by decide +kernel
set_option maxRecDepth 20000 in
theorem ggX0_isObject_X0_isKind : GoodIn wsX0_isObject wsX0_isKind := goodIn_r _ [5, 6, 16, 17, 18, 19, 20, 21, 22, 23] (by decide +kernel) (by decide +kernel)
set_option maxRecDepth 20000 in
theorem gX0_isObject_X0_isKind : GoodIn wsX0_isObject (wsV RX0 45 RX0 yX0_isKind wsX0_isKind) := goodIn_app (goodIn_of _ (by decide +kernel)) ggX0_isObject_X0_isKind
set_option maxRecDepth 20000 in
theorem ggX0_isObject_X0_isBox : GoodIn wsX0_isObject wsX0_isBox := goodIn_r _ [9] (by decide +kernel) (by decide +kernel)
set_option maxRecDepth 20000 in
theorem gX0_isObject_X0_isBox : GoodIn wsX0_isObject (va_wsS RX0 110 yX0_isBox wsX0_isBox) := goodIn_app (goodIn_of _ (by decide +kernel)) ggX0_isObject_X0_isBox
set_option maxRecDepth 20000 in
theorem ggX0_isObject_X0_fits : GoodIn wsX0_isObject wsX0_fits := goodIn_r _ [12, 13, 14, 4, 15] (by decide +kernel) (by decide +kernel)
set_option maxRecDepth 20000 in
theorem gX0_isObject_X0_fits : GoodIn wsX0_isObject (va_wsS RX0 63 yX0_fits wsX0_fits) := goodIn_app (goodIn_of _ (by decide +kernel)) ggX0_isObject_X0_fits
theorem dX0_isObject_0 : decode cX0_isObject 0 = .ok (.aload_n 0, 1) := by decide +kernel
theorem dX0_isObject_1 : decode cX0_isObject 1 = .ok (.iload_n 1, 1) := by decide +kernel
theorem dX0_isObject_2 : decode cX0_isObject 2 = .ok (.invokevirtual 45, 3) := by decide +kernel
theorem dX0_isObject_5 : decode cX0_isObject 5 = .ok (.ifCond .eq 9, 3) := by decide +kernel
theorem dX0_isObject_8 : decode cX0_isObject 8 = .ok (.iload_n 1, 1) := by decide +kernel
theorem dX0_isObject_9 : decode cX0_isObject 9 = .ok (.bipush 8, 2) := by decide +kernel
theorem dX0_isObject_11 : decode cX0_isObject 11 = .ok (.if_icmp .gt 5, 3) := by decide +kernel
theorem dX0_isObject_14 : decode cX0_isObject 14 = .ok (.iconst 0, 1) := by decide +kernel
theorem dX0_isObject_15 : decode cX0_isObject 15 = .ok (.ireturn, 1) := by decide +kernel
theorem dX0_isObject_16 : decode cX0_isObject 16 = .ok (.iload_n 1, 1) := by decide +kernel
theorem dX0_isObject_17 : decode cX0_isObject 17 = .ok (.invokestatic 110, 3) := by decide +kernel
theorem dX0_isObject_20 : decode cX0_isObject 20 = .ok (.ifCond .eq 14, 3) := by decide +kernel
theorem dX0_isObject_23 : decode cX0_isObject 23 = .ok (.iload_n 1, 1) := by decide +kernel
theorem dX0_isObject_24 : decode cX0_isObject 24 = .ok (.bipush 8, 2) := by decide +kernel
theorem dX0_isObject_26 : decode cX0_isObject 26 = .ok (.isub, 1) := by decide +kernel
theorem dX0_isObject_27 : decode cX0_isObject 27 = .ok (.lload_n 2, 1) := by decide +kernel
theorem dX0_isObject_28 : decode cX0_isObject 28 = .ok (.invokestatic 63, 3) := by decide +kernel
theorem dX0_isObject_31 : decode cX0_isObject 31 = .ok (.ifCond .eq 7, 3) := by decide +kernel
theorem dX0_isObject_34 : decode cX0_isObject 34 = .ok (.iconst 1, 1) := by decide +kernel
theorem dX0_isObject_35 : decode cX0_isObject 35 = .ok (.goto 4, 3) := by decide +kernel
theorem dX0_isObject_38 : decode cX0_isObject 38 = .ok (.iconst 0, 1) := by decide +kernel
theorem dX0_isObject_39 : decode cX0_isObject 39 = .ok (.ireturn, 1) := by decide +kernel
set_option maxRecDepth 20000 in
theorem ggX0_mayPass_X0_isPlain : GoodIn wsX0_mayPass wsX0_isPlain := goodIn_r _ [4] (by decide +kernel) (by decide +kernel)
set_option maxRecDepth 20000 in
theorem gX0_mayPass_X0_isPlain : GoodIn wsX0_mayPass (va_wsS RX0 60 yX0_isPlain wsX0_isPlain) := goodIn_app (goodIn_of _ (by decide +kernel)) ggX0_mayPass_X0_isPlain
set_option maxRecDepth 20000 in
theorem ggX0_mayPass_X0_mayWiden : GoodIn wsX0_mayPass wsX0_mayWiden := goodIn_r _ [7] (by decide +kernel) (by decide +kernel)
set_option maxRecDepth 20000 in
theorem gX0_mayPass_X0_mayWiden : GoodIn wsX0_mayPass (va_wsS RX0 116 yX0_mayWiden wsX0_mayWiden) := goodIn_app (goodIn_of _ (by decide +kernel)) ggX0_mayPass_X0_mayWiden
set_option maxRecDepth 20000 in
theorem ggX0_mayPass_X0_isBelow : GoodIn wsX0_mayPass wsX0_isBelow := goodIn_r _ [11, 12, 22, 23, 24, 25, 26, 27, 28, 29] (by decide +kernel) (by decide +kernel)
set_option maxRecDepth 20000 in
theorem gX0_mayPass_X0_isBelow : GoodIn wsX0_mayPass (wsV RX0 48 RX0 yX0_isBelow wsX0_isBelow) := goodIn_app (goodIn_of _ (by decide +kernel)) ggX0_mayPass_X0_isBelow
set_option maxRecDepth 20000 in
theorem ggX0_mayPass_X0_isBox : GoodIn wsX0_mayPass wsX0_isBox := goodIn_r _ [15] (by decide +kernel) (by decide +kernel)
set_option maxRecDepth 20000 in
theorem gX0_mayPass_X0_isBox : GoodIn wsX0_mayPass (va_wsS RX0 110 yX0_isBox wsX0_isBox) := goodIn_app (goodIn_of _ (by decide +kernel)) ggX0_mayPass_X0_isBox
set_option maxRecDepth 20000 in
theorem ggX0_mayPass_X0_mayUnbox : GoodIn wsX0_mayPass wsX0_mayUnbox := goodIn_r _ [18, 19, 20, 3, 21, 13, 14, 15, 5, 6, 7] (by decide +kernel) (by decide +kernel)
set_option maxRecDepth 20000 in
theorem gX0_mayPass_X0_mayUnbox : GoodIn wsX0_mayPass (va_wsS RX0 119 yX0_mayUnbox wsX0_mayUnbox) := goodIn_app (goodIn_of _ (by decide +kernel)) ggX0_mayPass_X0_mayUnbox
theorem dX0_mayPass_0 : decode cX0_mayPass 0 = .ok (.iload_n 1, 1) := by decide +kernel
theorem dX0_mayPass_1 : decode cX0_mayPass 1 = .ok (.invokestatic 60, 3) := by decide +kernel
theorem dX0_mayPass_4 : decode cX0_mayPass 4 = .ok (.ifCond .eq 40, 3) := by decide +kernel
theorem dX0_mayPass_7 : decode cX0_mayPass 7 = .ok (.iload_n 2, 1) := by decide +kernel
theorem dX0_mayPass_8 : decode cX0_mayPass 8 = .ok (.invokestatic 60, 3) := by decide +kernel
theorem dX0_mayPass_11 : decode cX0_mayPass 11 = .ok (.ifCond .eq 23, 3) := by decide +kernel
theorem dX0_mayPass_14 : decode cX0_mayPass 14 = .ok (.iload_n 3, 1) := by decide +kernel
theorem dX0_mayPass_15 : decode cX0_mayPass 15 = .ok (.ifCond .ne 11, 3) := by decide +kernel
theorem dX0_mayPass_18 : decode cX0_mayPass 18 = .ok (.iload_n 1, 1) := by decide +kernel
theorem dX0_mayPass_19 : decode cX0_mayPass 19 = .ok (.iload_n 2, 1) := by decide +kernel
theorem dX0_mayPass_20 : decode cX0_mayPass 20 = .ok (.invokestatic 116, 3) := by decide +kernel
theorem dX0_mayPass_23 : decode cX0_mayPass 23 = .ok (.ifCond .eq 7, 3) := by decide +kernel
theorem dX0_mayPass_26 : decode cX0_mayPass 26 = .ok (.iconst 1, 1) := by decide +kernel
theorem dX0_mayPass_27 : decode cX0_mayPass 27 = .ok (.goto 16, 3) := by decide +kernel
theorem dX0_mayPass_30 : decode cX0_mayPass 30 = .ok (.iconst 0, 1) := by decide +kernel
theorem dX0_mayPass_31 : decode cX0_mayPass 31 = .ok (.goto 12, 3) := by decide +kernel
theorem dX0_mayPass_34 : decode cX0_mayPass 34 = .ok (.aload_n 0, 1) := by decide +kernel
theorem dX0_mayPass_35 : decode cX0_mayPass 35 = .ok (.iload_n 1, 1) := by decide +kernel
theorem dX0_mayPass_36 : decode cX0_mayPass 36 = .ok (.bipush 8, 2) := by decide +kernel
theorem dX0_mayPass_38 : decode cX0_mayPass 38 = .ok (.iadd, 1) := by decide +kernel
theorem dX0_mayPass_39 : decode cX0_mayPass 39 = .ok (.iload_n 2, 1) := by decide +kernel
theorem dX0_mayPass_40 : decode cX0_mayPass 40 = .ok (.invokevirtual 48, 3) := by decide +kernel
theorem dX0_mayPass_43 : decode cX0_mayPass 43 = .ok (.ireturn, 1) := by decide +kernel
theorem dX0_mayPass_44 : decode cX0_mayPass 44 = .ok (.iload_n 2, 1) := by decide +kernel
theorem dX0_mayPass_45 : decode cX0_mayPass 45 = .ok (.invokestatic 60, 3) := by decide +kernel
theorem dX0_mayPass_48 : decode cX0_mayPass 48 = .ok (.ifCond .ne 5, 3) := by decide +kernel
theorem dX0_mayPass_51 : decode cX0_mayPass 51 = .ok (.iconst 1, 1) := by decide +kernel
theorem dX0_mayPass_52 : decode cX0_mayPass 52 = .ok (.ireturn, 1) := by decide +kernel
theorem dX0_mayPass_53 : decode cX0_mayPass 53 = .ok (.iload_n 3, 1) := by decide +kernel
theorem dX0_mayPass_54 : decode cX0_mayPass 54 = .ok (.ifCond .eq 30, 3) := by decide +kernel
theorem dX0_mayPass_57 : decode cX0_mayPass 57 = .ok (.iload_n 1, 1) := by decide +kernel
theorem dX0_mayPass_58 : decode cX0_mayPass 58 = .ok (.bipush 7, 2) := by decide +kernel
theorem dX0_mayPass_60 : decode cX0_mayPass 60 = .ok (.if_icmp .eq 16, 3) := by decide +kernel
theorem dX0_mayPass_63 : decode cX0_mayPass 63 = .ok (.iload_n 1, 1) := by decide +kernel
theorem dX0_mayPass_64 : decode cX0_mayPass 64 = .ok (.bipush 8, 2) := by decide +kernel
theorem dX0_mayPass_66 : decode cX0_mayPass 66 = .ok (.if_icmp .eq 10, 3) := by decide +kernel
theorem dX0_mayPass_69 : decode cX0_mayPass 69 = .ok (.iload_n 1, 1) := by decide +kernel
theorem dX0_mayPass_70 : decode cX0_mayPass 70 = .ok (.invokestatic 110, 3) := by decide +kernel
theorem dX0_mayPass_73 : decode cX0_mayPass 73 = .ok (.ifCond .eq 7, 3) := by decide +kernel
theorem dX0_mayPass_76 : decode cX0_mayPass 76 = .ok (.iconst 1, 1) := by decide +kernel
theorem dX0_mayPass_77 : decode cX0_mayPass 77 = .ok (.goto 12, 3) := by decide +kernel
theorem dX0_mayPass_80 : decode cX0_mayPass 80 = .ok (.iconst 0, 1) := by decide +kernel
theorem dX0_mayPass_81 : decode cX0_mayPass 81 = .ok (.goto 8, 3) := by decide +kernel
theorem dX0_mayPass_84 : decode cX0_mayPass 84 = .ok (.iload_n 1, 1) := by decide +kernel
theorem dX0_mayPass_85 : decode cX0_mayPass 85 = .ok (.iload_n 2, 1) := by decide +kernel
theorem dX0_mayPass_86 : decode cX0_mayPass 86 = .ok (.invokestatic 119, 3) := by decide +kernel
theorem dX0_mayPass_89 : decode cX0_mayPass 89 = .ok (.ireturn, 1) := by decide +kernel
theorem dX0_mayWiden_0 : decode cX0_mayWiden 0 = .ok (.iload_n 0, 1) := by decide +kernel
theorem dX0_mayWiden_1 : decode cX0_mayWiden 1 = .ok (.iload_n 1, 1) := by decide +kernel
theorem dX0_mayWiden_2 : decode cX0_mayWiden 2 = .ok (.if_icmp .ne 5, 3) := by decide +kernel
theorem dX0_mayWiden_5 : decode cX0_mayWiden 5 = .ok (.iconst 1, 1) := by decide +kernel
theorem dX0_mayWiden_6 : decode cX0_mayWiden 6 = .ok (.ireturn, 1) := by decide +kernel
theorem dX0_mayWiden_7 : decode cX0_mayWiden 7 = .ok (.iload_n 0, 1) := by decide +kernel
theorem dX0_mayWiden_8 : decode cX0_mayWiden 8 = .ok (.tableswitch 83 2 5 #[32, 54, 54, 71], 32) := by decide +kernel
theorem dX0_mayWiden_40 : decode cX0_mayWiden 40 = .ok (.iload_n 1, 1) := by decide +kernel
theorem dX0_mayWiden_41 : decode cX0_mayWiden 41 = .ok (.iconst 3, 1) := by decide +kernel
theorem dX0_mayWiden_42 : decode cX0_mayWiden 42 = .ok (.if_icmp .eq 14, 3) := by decide +kernel
theorem dX0_mayWiden_45 : decode cX0_mayWiden 45 = .ok (.iload_n 1, 1) := by decide +kernel
theorem dX0_mayWiden_46 : decode cX0_mayWiden 46 = .ok (.iconst 5, 1) := by decide +kernel
theorem dX0_mayWiden_47 : decode cX0_mayWiden 47 = .ok (.if_icmp .eq 9, 3) := by decide +kernel
theorem dX0_mayWiden_50 : decode cX0_mayWiden 50 = .ok (.iload_n 1, 1) := by decide +kernel
theorem dX0_mayWiden_51 : decode cX0_mayWiden 51 = .ok (.bipush 6, 2) := by decide +kernel
theorem dX0_mayWiden_53 : decode cX0_mayWiden 53 = .ok (.if_icmp .ne 7, 3) := by decide +kernel
theorem dX0_mayWiden_56 : decode cX0_mayWiden 56 = .ok (.iconst 1, 1) := by decide +kernel
theorem dX0_mayWiden_57 : decode cX0_mayWiden 57 = .ok (.goto 4, 3) := by decide +kernel
theorem dX0_mayWiden_60 : decode cX0_mayWiden 60 = .ok (.iconst 0, 1) := by decide +kernel
theorem dX0_mayWiden_61 : decode cX0_mayWiden 61 = .ok (.ireturn, 1) := by decide +kernel
theorem dX0_mayWiden_62 : decode cX0_mayWiden 62 = .ok (.iload_n 1, 1) := by decide +kernel
theorem dX0_mayWiden_63 : decode cX0_mayWiden 63 = .ok (.iconst 5, 1) := by decide +kernel
theorem dX0_mayWiden_64 : decode cX0_mayWiden 64 = .ok (.if_icmp .eq 9, 3) := by decide +kernel
theorem dX0_mayWiden_67 : decode cX0_mayWiden 67 = .ok (.iload_n 1, 1) := by decide +kernel
theorem dX0_mayWiden_68 : decode cX0_mayWiden 68 = .ok (.bipush 6, 2) := by decide +kernel
theorem dX0_mayWiden_70 : decode cX0_mayWiden 70 = .ok (.if_icmp .ne 7, 3) := by decide +kernel
theorem dX0_mayWiden_73 : decode cX0_mayWiden 73 = .ok (.iconst 1, 1) := by decide +kernel
theorem dX0_mayWiden_74 : decode cX0_mayWiden 74 = .ok (.goto 4, 3) := by decide +kernel
theorem dX0_mayWiden_77 : decode cX0_mayWiden 77 = .ok (.iconst 0, 1) := by decide +kernel
theorem dX0_mayWiden_78 : decode cX0_mayWiden 78 = .ok (.ireturn, 1) := by decide +kernel
theorem dX0_mayWiden_79 : decode cX0_mayWiden 79 = .ok (.iload_n 1, 1) := by decide +kernel
theorem dX0_mayWiden_80 : decode cX0_mayWiden 80 = .ok (.bipush 6, 2) := by decide +kernel
theorem dX0_mayWiden_82 : decode cX0_mayWiden 82 = .ok (.if_icmp .ne 7, 3) := by decide +kernel
theorem dX0_mayWiden_85 : decode cX0_mayWiden 85 = .ok (.iconst 1, 1) := by decide +kernel
theorem dX0_mayWiden_86 : decode cX0_mayWiden 86 = .ok (.goto 4, 3) := by decide +kernel
theorem dX0_mayWiden_89 : decode cX0_mayWiden 89 = .ok (.iconst 0, 1) := by decide +kernel
theorem dX0_mayWiden_90 : decode cX0_mayWiden 90 = .ok (.ireturn, 1) := by decide +kernel
theorem dX0_mayWiden_91 : decode cX0_mayWiden 91 = .ok (.iconst 0, 1) := by decide +kernel
theorem dX0_mayWiden_92 : decode cX0_mayWiden 92 = .ok (.ireturn, 1) := by decide +kernel
set_option maxRecDepth 20000 in
theorem ggX0_mayUnbox_X0_isOfNumbers : GoodIn wsX0_mayUnbox wsX0_isOfNumbers := goodIn_r _ [4] (by decide +kernel) (by decide +kernel)
set_option maxRecDepth 20000 in
theorem gX0_mayUnbox_X0_isOfNumbers : GoodIn wsX0_mayUnbox (va_wsS RX0 113 yX0_isOfNumbers wsX0_isOfNumbers) := goodIn_app (goodIn_of _ (by decide +kernel)) ggX0_mayUnbox_X0_isOfNumbers
set_option maxRecDepth 20000 in
theorem ggX0_mayUnbox_X0_isBox : GoodIn wsX0_mayUnbox wsX0_isBox := goodIn_r _ [7] (by decide +kernel) (by decide +kernel)
set_option maxRecDepth 20000 in
theorem gX0_mayUnbox_X0_isBox : GoodIn wsX0_mayUnbox (va_wsS RX0 110 yX0_isBox wsX0_isBox) := goodIn_app (goodIn_of _ (by decide +kernel)) ggX0_mayUnbox_X0_isBox
set_option maxRecDepth 20000 in
theorem ggX0_mayUnbox_X0_mayWiden : GoodIn wsX0_mayUnbox wsX0_mayWiden := goodIn_r _ [10] (by decide +kernel) (by decide +kernel)
set_option maxRecDepth 20000 in
theorem gX0_mayUnbox_X0_mayWiden : GoodIn wsX0_mayUnbox (va_wsS RX0 116 yX0_mayWiden wsX0_mayWiden) := goodIn_app (goodIn_of _ (by decide +kernel)) ggX0_mayUnbox_X0_mayWiden
theorem dX0_mayUnbox_0 : decode cX0_mayUnbox 0 = .ok (.iload_n 0, 1) := by decide +kernel
theorem dX0_mayUnbox_1 : decode cX0_mayUnbox 1 = .ok (.bipush 7, 2) := by decide +kernel
theorem dX0_mayUnbox_3 : decode cX0_mayUnbox 3 = .ok (.if_icmp .ne 5, 3) := by decide +kernel
theorem dX0_mayUnbox_6 : decode cX0_mayUnbox 6 = .ok (.iconst 1, 1) := by decide +kernel
theorem dX0_mayUnbox_7 : decode cX0_mayUnbox 7 = .ok (.ireturn, 1) := by decide +kernel
theorem dX0_mayUnbox_8 : decode cX0_mayUnbox 8 = .ok (.iload_n 0, 1) := by decide +kernel
theorem dX0_mayUnbox_9 : decode cX0_mayUnbox 9 = .ok (.bipush 8, 2) := by decide +kernel
theorem dX0_mayUnbox_11 : decode cX0_mayUnbox 11 = .ok (.if_icmp .ne 8, 3) := by decide +kernel
theorem dX0_mayUnbox_14 : decode cX0_mayUnbox 14 = .ok (.iload_n 1, 1) := by decide +kernel
theorem dX0_mayUnbox_15 : decode cX0_mayUnbox 15 = .ok (.invokestatic 113, 3) := by decide +kernel
theorem dX0_mayUnbox_18 : decode cX0_mayUnbox 18 = .ok (.ireturn, 1) := by decide +kernel
theorem dX0_mayUnbox_19 : decode cX0_mayUnbox 19 = .ok (.iload_n 0, 1) := by decide +kernel
theorem dX0_mayUnbox_20 : decode cX0_mayUnbox 20 = .ok (.invokestatic 110, 3) := by decide +kernel
theorem dX0_mayUnbox_23 : decode cX0_mayUnbox 23 = .ok (.ifCond .eq 18, 3) := by decide +kernel
theorem dX0_mayUnbox_26 : decode cX0_mayUnbox 26 = .ok (.iload_n 0, 1) := by decide +kernel
theorem dX0_mayUnbox_27 : decode cX0_mayUnbox 27 = .ok (.bipush 8, 2) := by decide +kernel
theorem dX0_mayUnbox_29 : decode cX0_mayUnbox 29 = .ok (.isub, 1) := by decide +kernel
theorem dX0_mayUnbox_30 : decode cX0_mayUnbox 30 = .ok (.iload_n 1, 1) := by decide +kernel
theorem dX0_mayUnbox_31 : decode cX0_mayUnbox 31 = .ok (.invokestatic 116, 3) := by decide +kernel
theorem dX0_mayUnbox_34 : decode cX0_mayUnbox 34 = .ok (.ifCond .eq 7, 3) := by decide +kernel
theorem dX0_mayUnbox_37 : decode cX0_mayUnbox 37 = .ok (.iconst 1, 1) := by decide +kernel
theorem dX0_mayUnbox_38 : decode cX0_mayUnbox 38 = .ok (.goto 4, 3) := by decide +kernel
theorem dX0_mayUnbox_41 : decode cX0_mayUnbox 41 = .ok (.iconst 0, 1) := by decide +kernel
theorem dX0_mayUnbox_42 : decode cX0_mayUnbox 42 = .ok (.ireturn, 1) := by decide +kernel
theorem dX0_lowest_0 : decode cX0_lowest 0 = .ok (.iload_n 0, 1) := by decide +kernel
theorem dX0_lowest_1 : decode cX0_lowest 1 = .ok (.tableswitch 58 1 5 #[35, 39, 44, 49, 54], 35) := by decide +kernel
theorem dX0_lowest_36 : decode cX0_lowest 36 = .ok (.lload_n 1, 1) := by decide +kernel
theorem dX0_lowest_37 : decode cX0_lowest 37 = .ok (.lconst 1, 1) := by decide +kernel
theorem dX0_lowest_38 : decode cX0_lowest 38 = .ok (.land, 1) := by decide +kernel
theorem dX0_lowest_39 : decode cX0_lowest 39 = .ok (.lreturn, 1) := by decide +kernel
theorem dX0_lowest_40 : decode cX0_lowest 40 = .ok (.lload_n 1, 1) := by decide +kernel
theorem dX0_lowest_41 : decode cX0_lowest 41 = .ok (.l2i, 1) := by decide +kernel
theorem dX0_lowest_42 : decode cX0_lowest 42 = .ok (.i2b, 1) := by decide +kernel
theorem dX0_lowest_43 : decode cX0_lowest 43 = .ok (.i2l, 1) := by decide +kernel
theorem dX0_lowest_44 : decode cX0_lowest 44 = .ok (.lreturn, 1) := by decide +kernel
theorem dX0_lowest_45 : decode cX0_lowest 45 = .ok (.lload_n 1, 1) := by decide +kernel
theorem dX0_lowest_46 : decode cX0_lowest 46 = .ok (.l2i, 1) := by decide +kernel
theorem dX0_lowest_47 : decode cX0_lowest 47 = .ok (.i2s, 1) := by decide +kernel
theorem dX0_lowest_48 : decode cX0_lowest 48 = .ok (.i2l, 1) := by decide +kernel
theorem dX0_lowest_49 : decode cX0_lowest 49 = .ok (.lreturn, 1) := by decide +kernel
theorem dX0_lowest_50 : decode cX0_lowest 50 = .ok (.lload_n 1, 1) := by decide +kernel
theorem dX0_lowest_51 : decode cX0_lowest 51 = .ok (.l2i, 1) := by decide +kernel
theorem dX0_lowest_52 : decode cX0_lowest 52 = .ok (.i2c, 1) := by decide +kernel
theorem dX0_lowest_53 : decode cX0_lowest 53 = .ok (.i2l, 1) := by decide +kernel
theorem dX0_lowest_54 : decode cX0_lowest 54 = .ok (.lreturn, 1) := by decide +kernel
theorem dX0_lowest_55 : decode cX0_lowest 55 = .ok (.lload_n 1, 1) := by decide +kernel
theorem dX0_lowest_56 : decode cX0_lowest 56 = .ok (.l2i, 1) := by decide +kernel
theorem dX0_lowest_57 : decode cX0_lowest 57 = .ok (.i2l, 1) := by decide +kernel
theorem dX0_lowest_58 : decode cX0_lowest 58 = .ok (.lreturn, 1) := by decide +kernel
theorem dX0_lowest_59 : decode cX0_lowest 59 = .ok (.lload_n 1, 1) := by decide +kernel
theorem dX0_lowest_60 : decode cX0_lowest 60 = .ok (.lreturn, 1) := by decide +kernel
set_option maxRecDepth 20000 in
theorem ggX0_fits_X0_lowest : GoodIn wsX0_fits wsX0_lowest := goodIn_r _ [4] (by decide +kernel) (by decide +kernel)
set_option maxRecDepth 20000 in
theorem gX0_fits_X0_lowest : GoodIn wsX0_fits (va_wsS RX0 122 yX0_lowest wsX0_lowest) := goodIn_app (goodIn_of _ (by decide +kernel)) ggX0_fits_X0_lowest
theorem dX0_fits_0 : decode cX0_fits 0 = .ok (.iload_n 0, 1) := by decide +kernel
theorem dX0_fits_1 : decode cX0_fits 1 = .ok (.lload_n 1, 1) := by decide +kernel
theorem dX0_fits_2 : decode cX0_fits 2 = .ok (.invokestatic 122, 3) := by decide +kernel
theorem dX0_fits_5 : decode cX0_fits 5 = .ok (.lload_n 1, 1) := by decide +kernel
theorem dX0_fits_6 : decode cX0_fits 6 = .ok (.lcmp, 1) := by decide +kernel
theorem dX0_fits_7 : decode cX0_fits 7 = .ok (.ifCond .ne 7, 3) := by decide +kernel
theorem dX0_fits_10 : decode cX0_fits 10 = .ok (.iconst 1, 1) := by decide +kernel
theorem dX0_fits_11 : decode cX0_fits 11 = .ok (.goto 4, 3) := by decide +kernel
theorem dX0_fits_14 : decode cX0_fits 14 = .ok (.iconst 0, 1) := by decide +kernel
theorem dX0_fits_15 : decode cX0_fits 15 = .ok (.ireturn, 1) := by decide +kernel
set_option maxRecDepth 20000 in
theorem ggX0_passPlain_X0_isPlain : GoodIn wsX0_passPlain wsX0_isPlain := goodIn_r _ [4] (by decide +kernel) (by decide +kernel)
set_option maxRecDepth 20000 in
theorem gX0_passPlain_X0_isPlain : GoodIn wsX0_passPlain (va_wsS RX0 60 yX0_isPlain wsX0_isPlain) := goodIn_app (goodIn_of _ (by decide +kernel)) ggX0_passPlain_X0_isPlain
set_option maxRecDepth 20000 in
theorem ggX0_passPlain_X0_lowest : GoodIn wsX0_passPlain wsX0_lowest := goodIn_r _ [7] (by decide +kernel) (by decide +kernel)
set_option maxRecDepth 20000 in
theorem gX0_passPlain_X0_lowest : GoodIn wsX0_passPlain (va_wsS RX0 122 yX0_lowest wsX0_lowest) := goodIn_app (goodIn_of _ (by decide +kernel)) ggX0_passPlain_X0_lowest
set_option maxRecDepth 20000 in
theorem ggX0_passPlain_X0_keep : GoodIn wsX0_passPlain wsX0_keep := goodIn_r _ [11, 12, 13, 14, 15, 16, 17, 18, 19, 20, 21] (by decide +kernel) (by decide +kernel)
set_option maxRecDepth 20000 in
theorem gX0_passPlain_X0_keep : GoodIn wsX0_passPlain (wsV RX0 126 RX0 yX0_keep wsX0_keep) := goodIn_app (goodIn_of _ (by decide +kernel)) ggX0_passPlain_X0_keep
theorem dX0_passPlain_0 : decode cX0_passPlain 0 = .ok (.iload_n 2, 1) := by decide +kernel
theorem dX0_passPlain_1 : decode cX0_passPlain 1 = .ok (.invokestatic 60, 3) := by decide +kernel
theorem dX0_passPlain_4 : decode cX0_passPlain 4 = .ok (.ifCond .eq 14, 3) := by decide +kernel
theorem dX0_passPlain_7 : decode cX0_passPlain 7 = .ok (.aload_n 0, 1) := by decide +kernel
theorem dX0_passPlain_8 : decode cX0_passPlain 8 = .ok (.iconst 0, 1) := by decide +kernel
theorem dX0_passPlain_9 : decode cX0_passPlain 9 = .ok (.iload_n 2, 1) := by decide +kernel
theorem dX0_passPlain_10 : decode cX0_passPlain 10 = .ok (.lload_n 3, 1) := by decide +kernel
theorem dX0_passPlain_11 : decode cX0_passPlain 11 = .ok (.invokestatic 122, 3) := by decide +kernel
theorem dX0_passPlain_14 : decode cX0_passPlain 14 = .ok (.invokevirtual 126, 3) := by decide +kernel
theorem dX0_passPlain_17 : decode cX0_passPlain 17 = .ok (.ireturn, 1) := by decide +kernel
theorem dX0_passPlain_18 : decode cX0_passPlain 18 = .ok (.aload_n 0, 1) := by decide +kernel
theorem dX0_passPlain_19 : decode cX0_passPlain 19 = .ok (.iload_n 1, 1) := by decide +kernel
theorem dX0_passPlain_20 : decode cX0_passPlain 20 = .ok (.bipush 8, 2) := by decide +kernel
theorem dX0_passPlain_22 : decode cX0_passPlain 22 = .ok (.iadd, 1) := by decide +kernel
theorem dX0_passPlain_23 : decode cX0_passPlain 23 = .ok (.lload_n 3, 1) := by decide +kernel
theorem dX0_passPlain_24 : decode cX0_passPlain 24 = .ok (.invokevirtual 126, 3) := by decide +kernel
theorem dX0_passPlain_27 : decode cX0_passPlain 27 = .ok (.ireturn, 1) := by decide +kernel
set_option maxRecDepth 20000 in
theorem ggX0_passNull_X0_isPlain : GoodIn wsX0_passNull wsX0_isPlain := goodIn_r _ [4] (by decide +kernel) (by decide +kernel)
set_option maxRecDepth 20000 in
theorem gX0_passNull_X0_isPlain : GoodIn wsX0_passNull (va_wsS RX0 60 yX0_isPlain wsX0_isPlain) := goodIn_app (goodIn_of _ (by decide +kernel)) ggX0_passNull_X0_isPlain
set_option maxRecDepth 20000 in
theorem ggX0_passNull_X0_keep : GoodIn wsX0_passNull wsX0_keep := goodIn_r _ [8, 9, 10, 11, 12, 13, 14, 15, 16, 17, 18] (by decide +kernel) (by decide +kernel)
set_option maxRecDepth 20000 in
theorem gX0_passNull_X0_keep : GoodIn wsX0_passNull (wsV RX0 126 RX0 yX0_keep wsX0_keep) := goodIn_app (goodIn_of _ (by decide +kernel)) ggX0_passNull_X0_keep
theorem dX0_passNull_0 : decode cX0_passNull 0 = .ok (.iload_n 1, 1) := by decide +kernel
theorem dX0_passNull_1 : decode cX0_passNull 1 = .ok (.invokestatic 60, 3) := by decide +kernel
theorem dX0_passNull_4 : decode cX0_passNull 4 = .ok (.ifCond .eq 9, 3) := by decide +kernel
theorem dX0_passNull_7 : decode cX0_passNull 7 = .ok (.iload_n 2, 1) := by decide +kernel
theorem dX0_passNull_8 : decode cX0_passNull 8 = .ok (.ifCond .ne 5, 3) := by decide +kernel
theorem dX0_passNull_11 : decode cX0_passNull 11 = .ok (.iconst 1, 1) := by decide +kernel
theorem dX0_passNull_12 : decode cX0_passNull 12 = .ok (.ireturn, 1) := by decide +kernel
theorem dX0_passNull_13 : decode cX0_passNull 13 = .ok (.aload_n 0, 1) := by decide +kernel
theorem dX0_passNull_14 : decode cX0_passNull 14 = .ok (.iconst 0, 1) := by decide +kernel
theorem dX0_passNull_15 : decode cX0_passNull 15 = .ok (.lconst 0, 1) := by decide +kernel
theorem dX0_passNull_16 : decode cX0_passNull 16 = .ok (.invokevirtual 126, 3) := by decide +kernel
theorem dX0_passNull_19 : decode cX0_passNull 19 = .ok (.ireturn, 1) := by decide +kernel
set_option maxRecDepth 20000 in
theorem ggX0_passAsPlain_X0_isBox : GoodIn wsX0_passAsPlain wsX0_isBox := goodIn_r _ [4] (by decide +kernel) (by decide +kernel)
set_option maxRecDepth 20000 in
theorem gX0_passAsPlain_X0_isBox : GoodIn wsX0_passAsPlain (va_wsS RX0 110 yX0_isBox wsX0_isBox) := goodIn_app (goodIn_of _ (by decide +kernel)) ggX0_passAsPlain_X0_isBox
set_option maxRecDepth 20000 in
theorem ggX0_passAsPlain_X0_mayWiden : GoodIn wsX0_passAsPlain wsX0_mayWiden := goodIn_r _ [7] (by decide +kernel) (by decide +kernel)
set_option maxRecDepth 20000 in
theorem gX0_passAsPlain_X0_mayWiden : GoodIn wsX0_passAsPlain (va_wsS RX0 116 yX0_mayWiden wsX0_mayWiden) := goodIn_app (goodIn_of _ (by decide +kernel)) ggX0_passAsPlain_X0_mayWiden
set_option maxRecDepth 20000 in
theorem ggX0_passAsPlain_X0_lowest : GoodIn wsX0_passAsPlain wsX0_lowest := goodIn_r _ [10] (by decide +kernel) (by decide +kernel)
set_option maxRecDepth 20000 in
theorem gX0_passAsPlain_X0_lowest : GoodIn wsX0_passAsPlain (va_wsS RX0 122 yX0_lowest wsX0_lowest) := goodIn_app (goodIn_of _ (by decide +kernel)) ggX0_passAsPlain_X0_lowest
set_option maxRecDepth 20000 in
theorem ggX0_passAsPlain_X0_keep : GoodIn wsX0_passAsPlain wsX0_keep := goodIn_r _ [14, 15, 16, 17, 18, 19, 20, 21, 22, 23, 24] (by decide +kernel) (by decide +kernel)
set_option maxRecDepth 20000 in
theorem gX0_passAsPlain_X0_keep : GoodIn wsX0_passAsPlain (wsV RX0 126 RX0 yX0_keep wsX0_keep) := goodIn_app (goodIn_of _ (by decide +kernel)) ggX0_passAsPlain_X0_keep
theorem dX0_passAsPlain_0 : decode cX0_passAsPlain 0 = .ok (.iload_n 3, 1) := by decide +kernel
theorem dX0_passAsPlain_1 : decode cX0_passAsPlain 1 = .ok (.invokestatic 110, 3) := by decide +kernel
theorem dX0_passAsPlain_4 : decode cX0_passAsPlain 4 = .ok (.ifCond .eq 18, 3) := by decide +kernel
theorem dX0_passAsPlain_7 : decode cX0_passAsPlain 7 = .ok (.iload_n 2, 1) := by decide +kernel
theorem dX0_passAsPlain_8 : decode cX0_passAsPlain 8 = .ok (.ifCond .ne 16, 3) := by decide +kernel
theorem dX0_passAsPlain_11 : decode cX0_passAsPlain 11 = .ok (.iload_n 3, 1) := by decide +kernel
theorem dX0_passAsPlain_12 : decode cX0_passAsPlain 12 = .ok (.bipush 8, 2) := by decide +kernel
theorem dX0_passAsPlain_14 : decode cX0_passAsPlain 14 = .ok (.isub, 1) := by decide +kernel
theorem dX0_passAsPlain_15 : decode cX0_passAsPlain 15 = .ok (.iload_n 1, 1) := by decide +kernel
theorem dX0_passAsPlain_16 : decode cX0_passAsPlain 16 = .ok (.invokestatic 116, 3) := by decide +kernel
theorem dX0_passAsPlain_19 : decode cX0_passAsPlain 19 = .ok (.ifCond .ne 5, 3) := by decide +kernel
theorem dX0_passAsPlain_22 : decode cX0_passAsPlain 22 = .ok (.iconst 2, 1) := by decide +kernel
theorem dX0_passAsPlain_23 : decode cX0_passAsPlain 23 = .ok (.ireturn, 1) := by decide +kernel
theorem dX0_passAsPlain_24 : decode cX0_passAsPlain 24 = .ok (.aload_n 0, 1) := by decide +kernel
theorem dX0_passAsPlain_25 : decode cX0_passAsPlain 25 = .ok (.iconst 0, 1) := by decide +kernel
theorem dX0_passAsPlain_26 : decode cX0_passAsPlain 26 = .ok (.iload_n 1, 1) := by decide +kernel
theorem dX0_passAsPlain_27 : decode cX0_passAsPlain 27 = .ok (.lload 4, 2) := by decide +kernel
theorem dX0_passAsPlain_29 : decode cX0_passAsPlain 29 = .ok (.invokestatic 122, 3) := by decide +kernel
theorem dX0_passAsPlain_32 : decode cX0_passAsPlain 32 = .ok (.invokevirtual 126, 3) := by decide +kernel
theorem dX0_passAsPlain_35 : decode cX0_passAsPlain 35 = .ok (.ireturn, 1) := by decide +kernel
set_option maxRecDepth 20000 in
theorem ggX0_passAsReference_X0_isBelow : GoodIn wsX0_passAsReference wsX0_isBelow := goodIn_r _ [5, 6, 13, 14, 15, 16, 17, 18, 19, 20] (by decide +kernel) (by decide +kernel)
set_option maxRecDepth 20000 in
theorem gX0_passAsReference_X0_isBelow : GoodIn wsX0_passAsReference (wsV RX0 48 RX0 yX0_isBelow wsX0_isBelow) := goodIn_app (goodIn_of _ (by decide +kernel)) ggX0_passAsReference_X0_isBelow
set_option maxRecDepth 20000 in
theorem ggX0_passAsReference_X0_keep : GoodIn wsX0_passAsReference wsX0_keep := goodIn_r _ [10, 11, 12, 13, 14, 15, 16, 17, 18, 19, 20] (by decide +kernel) (by decide +kernel)
set_option maxRecDepth 20000 in
theorem gX0_passAsReference_X0_keep : GoodIn wsX0_passAsReference (wsV RX0 126 RX0 yX0_keep wsX0_keep) := goodIn_app (goodIn_of _ (by decide +kernel)) ggX0_passAsReference_X0_keep
theorem dX0_passAsReference_0 : decode cX0_passAsReference 0 = .ok (.aload_n 0, 1) := by decide +kernel
theorem dX0_passAsReference_1 : decode cX0_passAsReference 1 = .ok (.iload_n 2, 1) := by decide +kernel
theorem dX0_passAsReference_2 : decode cX0_passAsReference 2 = .ok (.iload_n 1, 1) := by decide +kernel
theorem dX0_passAsReference_3 : decode cX0_passAsReference 3 = .ok (.invokevirtual 48, 3) := by decide +kernel
theorem dX0_passAsReference_6 : decode cX0_passAsReference 6 = .ok (.ifCond .eq 12, 3) := by decide +kernel
theorem dX0_passAsReference_9 : decode cX0_passAsReference 9 = .ok (.aload_n 0, 1) := by decide +kernel
theorem dX0_passAsReference_10 : decode cX0_passAsReference 10 = .ok (.iload_n 2, 1) := by decide +kernel
theorem dX0_passAsReference_11 : decode cX0_passAsReference 11 = .ok (.lload_n 3, 1) := by decide +kernel
theorem dX0_passAsReference_12 : decode cX0_passAsReference 12 = .ok (.invokevirtual 126, 3) := by decide +kernel
theorem dX0_passAsReference_15 : decode cX0_passAsReference 15 = .ok (.goto 4, 3) := by decide +kernel
theorem dX0_passAsReference_18 : decode cX0_passAsReference 18 = .ok (.iconst 2, 1) := by decide +kernel
theorem dX0_passAsReference_19 : decode cX0_passAsReference 19 = .ok (.ireturn, 1) := by decide +kernel
theorem dX0_keep_0 : decode cX0_keep 0 = .ok (.aload_n 0, 1) := by decide +kernel
theorem dX0_keep_1 : decode cX0_keep 1 = .ok (.iload_n 1, 1) := by decide +kernel
theorem dX0_keep_2 : decode cX0_keep 2 = .ok (.putfield 34, 3) := by decide +kernel
theorem dX0_keep_5 : decode cX0_keep 5 = .ok (.aload_n 0, 1) := by decide +kernel
theorem dX0_keep_6 : decode cX0_keep 6 = .ok (.lload_n 2, 1) := by decide +kernel
theorem dX0_keep_7 : decode cX0_keep 7 = .ok (.putfield 37, 3) := by decide +kernel
theorem dX0_keep_10 : decode cX0_keep 10 = .ok (.iconst 0, 1) := by decide +kernel
theorem dX0_keep_11 : decode cX0_keep 11 = .ok (.ireturn, 1) := by decide +kernel
theorem dX0_isType_0 : decode cX0_isType 0 = .ok (.iload_n 1, 1) := by decide +kernel
theorem dX0_isType_1 : decode cX0_isType 1 = .ok (.ifCond .lt 15, 3) := by decide +kernel
theorem dX0_isType_4 : decode cX0_isType 4 = .ok (.iload_n 1, 1) := by decide +kernel
theorem dX0_isType_5 : decode cX0_isType 5 = .ok (.aload_n 0, 1) := by decide +kernel
theorem dX0_isType_6 : decode cX0_isType 6 = .ok (.getfield 31, 3) := by decide +kernel
theorem dX0_isType_9 : decode cX0_isType 9 = .ok (.if_icmp .ge 7, 3) := by decide +kernel
theorem dX0_isType_12 : decode cX0_isType 12 = .ok (.iconst 1, 1) := by decide +kernel
theorem dX0_isType_13 : decode cX0_isType 13 = .ok (.goto 4, 3) := by decide +kernel
theorem dX0_isType_16 : decode cX0_isType 16 = .ok (.iconst 0, 1) := by decide +kernel
theorem dX0_isType_17 : decode cX0_isType 17 = .ok (.ireturn, 1) := by decide +kernel
theorem dX0_resultOf_0 : decode cX0_resultOf 0 = .ok (.lload_n 0, 1) := by decide +kernel
theorem dX0_resultOf_1 : decode cX0_resultOf 1 = .ok (.ldc2_w 130, 3) := by decide +kernel
theorem dX0_resultOf_4 : decode cX0_resultOf 4 = .ok (.land, 1) := by decide +kernel
theorem dX0_resultOf_5 : decode cX0_resultOf 5 = .ok (.l2i, 1) := by decide +kernel
theorem dX0_resultOf_6 : decode cX0_resultOf 6 = .ok (.ireturn, 1) := by decide +kernel
theorem dX0_placesOf_0 : decode cX0_placesOf 0 = .ok (.lload_n 0, 1) := by decide +kernel
theorem dX0_placesOf_1 : decode cX0_placesOf 1 = .ok (.iconst 5, 1) := by decide +kernel
theorem dX0_placesOf_2 : decode cX0_placesOf 2 = .ok (.lushr, 1) := by decide +kernel
theorem dX0_placesOf_3 : decode cX0_placesOf 3 = .ok (.ldc2_w 132, 3) := by decide +kernel
theorem dX0_placesOf_6 : decode cX0_placesOf 6 = .ok (.land, 1) := by decide +kernel
theorem dX0_placesOf_7 : decode cX0_placesOf 7 = .ok (.l2i, 1) := by decide +kernel
theorem dX0_placesOf_8 : decode cX0_placesOf 8 = .ok (.ireturn, 1) := by decide +kernel
set_option maxRecDepth 20000 in
theorem ggX0_placeOf_X0_placeBit : GoodIn wsX0_placeOf wsX0_placeBit := goodIn_r _ [5] (by decide +kernel) (by decide +kernel)
set_option maxRecDepth 20000 in
theorem gX0_placeOf_X0_placeBit : GoodIn wsX0_placeOf (va_wsS RX0 134 yX0_placeBit wsX0_placeBit) := goodIn_app (goodIn_of _ (by decide +kernel)) ggX0_placeOf_X0_placeBit
theorem dX0_placeOf_0 : decode cX0_placeOf 0 = .ok (.lload_n 0, 1) := by decide +kernel
theorem dX0_placeOf_1 : decode cX0_placeOf 1 = .ok (.iload_n 2, 1) := by decide +kernel
theorem dX0_placeOf_2 : decode cX0_placeOf 2 = .ok (.invokestatic 134, 3) := by decide +kernel
theorem dX0_placeOf_5 : decode cX0_placeOf 5 = .ok (.lushr, 1) := by decide +kernel
theorem dX0_placeOf_6 : decode cX0_placeOf 6 = .ok (.ldc2_w 130, 3) := by decide +kernel
theorem dX0_placeOf_9 : decode cX0_placeOf 9 = .ok (.land, 1) := by decide +kernel
theorem dX0_placeOf_10 : decode cX0_placeOf 10 = .ok (.l2i, 1) := by decide +kernel
theorem dX0_placeOf_11 : decode cX0_placeOf 11 = .ok (.ireturn, 1) := by decide +kernel
theorem dX0_placeBit_0 : decode cX0_placeBit 0 = .ok (.bipush 9, 2) := by decide +kernel
theorem dX0_placeBit_2 : decode cX0_placeBit 2 = .ok (.iload_n 0, 1) := by decide +kernel
theorem dX0_placeBit_3 : decode cX0_placeBit 3 = .ok (.iconst 5, 1) := by decide +kernel
theorem dX0_placeBit_4 : decode cX0_placeBit 4 = .ok (.imul, 1) := by decide +kernel
theorem dX0_placeBit_5 : decode cX0_placeBit 5 = .ok (.iadd, 1) := by decide +kernel
theorem dX0_placeBit_6 : decode cX0_placeBit 6 = .ok (.ireturn, 1) := by decide +kernel
set_option maxRecDepth 20000 in
theorem ggX0_withPlace_X0_placesOf : GoodIn wsX0_withPlace wsX0_placesOf := goodIn_r _ [5, 6] (by decide +kernel) (by decide +kernel)
set_option maxRecDepth 20000 in
theorem gX0_withPlace_X0_placesOf : GoodIn wsX0_withPlace (va_wsS RX0 99 yX0_placesOf wsX0_placesOf) := goodIn_app (goodIn_of _ (by decide +kernel)) ggX0_withPlace_X0_placesOf
set_option maxRecDepth 20000 in
theorem ggX0_withPlace_X0_placeBit : GoodIn wsX0_withPlace wsX0_placeBit := goodIn_r _ [9] (by decide +kernel) (by decide +kernel)
set_option maxRecDepth 20000 in
theorem gX0_withPlace_X0_placeBit : GoodIn wsX0_withPlace (va_wsS RX0 134 yX0_placeBit wsX0_placeBit) := goodIn_app (goodIn_of _ (by decide +kernel)) ggX0_withPlace_X0_placeBit
theorem dX0_withPlace_0 : decode cX0_withPlace 0 = .ok (.lload_n 0, 1) := by decide +kernel
theorem dX0_withPlace_1 : decode cX0_withPlace 1 = .ok (.ldc2_w 137, 3) := by decide +kernel
theorem dX0_withPlace_4 : decode cX0_withPlace 4 = .ok (.ladd, 1) := by decide +kernel
theorem dX0_withPlace_5 : decode cX0_withPlace 5 = .ok (.iload_n 2, 1) := by decide +kernel
theorem dX0_withPlace_6 : decode cX0_withPlace 6 = .ok (.i2l, 1) := by decide +kernel
theorem dX0_withPlace_7 : decode cX0_withPlace 7 = .ok (.lload_n 0, 1) := by decide +kernel
theorem dX0_withPlace_8 : decode cX0_withPlace 8 = .ok (.invokestatic 99, 3) := by decide +kernel
theorem dX0_withPlace_11 : decode cX0_withPlace 11 = .ok (.invokestatic 134, 3) := by decide +kernel
theorem dX0_withPlace_14 : decode cX0_withPlace 14 = .ok (.lshl, 1) := by decide +kernel
theorem dX0_withPlace_15 : decode cX0_withPlace 15 = .ok (.lor, 1) := by decide +kernel
theorem dX0_withPlace_16 : decode cX0_withPlace 16 = .ok (.lreturn, 1) := by decide +kernel
set_option maxRecDepth 20000 in
theorem ggX0_withPlacesOf_X0_placeOf : GoodIn wsX0_withPlacesOf wsX0_placeOf := goodIn_r _ [4, 5, 6, 7, 3, 8] (by decide +kernel) (by decide +kernel)
set_option maxRecDepth 20000 in
theorem gX0_withPlacesOf_X0_placeOf : GoodIn wsX0_withPlacesOf (va_wsS RX0 102 yX0_placeOf wsX0_placeOf) := goodIn_app (goodIn_of _ (by decide +kernel)) ggX0_withPlacesOf_X0_placeOf
set_option maxRecDepth 20000 in
theorem ggX0_withPlacesOf_X0_withPlace : GoodIn wsX0_withPlacesOf wsX0_withPlace := goodIn_r _ [11, 12, 13, 14, 3, 15, 16, 6, 7, 8] (by decide +kernel) (by decide +kernel)
set_option maxRecDepth 20000 in
theorem gX0_withPlacesOf_X0_withPlace : GoodIn wsX0_withPlacesOf (va_wsS RX0 85 yX0_withPlace wsX0_withPlace) := goodIn_app (goodIn_of _ (by decide +kernel)) ggX0_withPlacesOf_X0_withPlace
theorem dX0_withPlacesOf_0 : decode cX0_withPlacesOf 0 = .ok (.lload_n 0, 1) := by decide +kernel
theorem dX0_withPlacesOf_1 : decode cX0_withPlacesOf 1 = .ok (.lstore 6, 2) := by decide +kernel
theorem dX0_withPlacesOf_3 : decode cX0_withPlacesOf 3 = .ok (.iload 4, 2) := by decide +kernel
theorem dX0_withPlacesOf_5 : decode cX0_withPlacesOf 5 = .ok (.istore 8, 2) := by decide +kernel
theorem dX0_withPlacesOf_7 : decode cX0_withPlacesOf 7 = .ok (.iload 8, 2) := by decide +kernel
theorem dX0_withPlacesOf_9 : decode cX0_withPlacesOf 9 = .ok (.iload 5, 2) := by decide +kernel
theorem dX0_withPlacesOf_11 : decode cX0_withPlacesOf 11 = .ok (.if_icmp .ge 22, 3) := by decide +kernel
theorem dX0_withPlacesOf_14 : decode cX0_withPlacesOf 14 = .ok (.lload 6, 2) := by decide +kernel
theorem dX0_withPlacesOf_16 : decode cX0_withPlacesOf 16 = .ok (.lload_n 2, 1) := by decide +kernel
theorem dX0_withPlacesOf_17 : decode cX0_withPlacesOf 17 = .ok (.iload 8, 2) := by decide +kernel
theorem dX0_withPlacesOf_19 : decode cX0_withPlacesOf 19 = .ok (.invokestatic 102, 3) := by decide +kernel
theorem dX0_withPlacesOf_22 : decode cX0_withPlacesOf 22 = .ok (.invokestatic 85, 3) := by decide +kernel
theorem dX0_withPlacesOf_25 : decode cX0_withPlacesOf 25 = .ok (.lstore 6, 2) := by decide +kernel
theorem dX0_withPlacesOf_27 : decode cX0_withPlacesOf 27 = .ok (.iinc 8 1, 3) := by decide +kernel
theorem dX0_withPlacesOf_30 : decode cX0_withPlacesOf 30 = .ok (.goto (-23), 3) := by decide +kernel
theorem dX0_withPlacesOf_33 : decode cX0_withPlacesOf 33 = .ok (.lload 6, 2) := by decide +kernel
theorem dX0_withPlacesOf_35 : decode cX0_withPlacesOf 35 = .ok (.lreturn, 1) := by decide +kernel
theorem dX0_numberOf_0 : decode cX0_numberOf 0 = .ok (.iconst 0, 1) := by decide +kernel
theorem dX0_numberOf_1 : decode cX0_numberOf 1 = .ok (.istore_n 3, 1) := by decide +kernel
theorem dX0_numberOf_2 : decode cX0_numberOf 2 = .ok (.iload_n 3, 1) := by decide +kernel
theorem dX0_numberOf_3 : decode cX0_numberOf 3 = .ok (.aload_n 0, 1) := by decide +kernel
theorem dX0_numberOf_4 : decode cX0_numberOf 4 = .ok (.getfield 31, 3) := by decide +kernel
theorem dX0_numberOf_7 : decode cX0_numberOf 7 = .ok (.if_icmp .ge 22, 3) := by decide +kernel
theorem dX0_numberOf_10 : decode cX0_numberOf 10 = .ok (.aload_n 0, 1) := by decide +kernel
theorem dX0_numberOf_11 : decode cX0_numberOf 11 = .ok (.getfield 27, 3) := by decide +kernel
theorem dX0_numberOf_14 : decode cX0_numberOf 14 = .ok (.iload_n 3, 1) := by decide +kernel
theorem dX0_numberOf_15 : decode cX0_numberOf 15 = .ok (.laload, 1) := by decide +kernel
theorem dX0_numberOf_16 : decode cX0_numberOf 16 = .ok (.lload_n 1, 1) := by decide +kernel
theorem dX0_numberOf_17 : decode cX0_numberOf 17 = .ok (.lcmp, 1) := by decide +kernel
theorem dX0_numberOf_18 : decode cX0_numberOf 18 = .ok (.ifCond .ne 5, 3) := by decide +kernel
theorem dX0_numberOf_21 : decode cX0_numberOf 21 = .ok (.iload_n 3, 1) := by decide +kernel
theorem dX0_numberOf_22 : decode cX0_numberOf 22 = .ok (.ireturn, 1) := by decide +kernel
theorem dX0_numberOf_23 : decode cX0_numberOf 23 = .ok (.iinc 3 1, 3) := by decide +kernel
theorem dX0_numberOf_26 : decode cX0_numberOf 26 = .ok (.goto (-24), 3) := by decide +kernel
theorem dX0_numberOf_29 : decode cX0_numberOf 29 = .ok (.aload_n 0, 1) := by decide +kernel
theorem dX0_numberOf_30 : decode cX0_numberOf 30 = .ok (.getfield 31, 3) := by decide +kernel
theorem dX0_numberOf_33 : decode cX0_numberOf 33 = .ok (.sipush 300, 3) := by decide +kernel
theorem dX0_numberOf_36 : decode cX0_numberOf 36 = .ok (.if_icmp .lt 5, 3) := by decide +kernel
theorem dX0_numberOf_39 : decode cX0_numberOf 39 = .ok (.iconst (-1), 1) := by decide +kernel
theorem dX0_numberOf_40 : decode cX0_numberOf 40 = .ok (.ireturn, 1) := by decide +kernel
theorem dX0_numberOf_41 : decode cX0_numberOf 41 = .ok (.aload_n 0, 1) := by decide +kernel
theorem dX0_numberOf_42 : decode cX0_numberOf 42 = .ok (.getfield 27, 3) := by decide +kernel
theorem dX0_numberOf_45 : decode cX0_numberOf 45 = .ok (.aload_n 0, 1) := by decide +kernel
theorem dX0_numberOf_46 : decode cX0_numberOf 46 = .ok (.getfield 31, 3) := by decide +kernel
theorem dX0_numberOf_49 : decode cX0_numberOf 49 = .ok (.lload_n 1, 1) := by decide +kernel
theorem dX0_numberOf_50 : decode cX0_numberOf 50 = .ok (.lastore, 1) := by decide +kernel
theorem dX0_numberOf_51 : decode cX0_numberOf 51 = .ok (.aload_n 0, 1) := by decide +kernel
theorem dX0_numberOf_52 : decode cX0_numberOf 52 = .ok (.dup, 1) := by decide +kernel
theorem dX0_numberOf_53 : decode cX0_numberOf 53 = .ok (.getfield 31, 3) := by decide +kernel
theorem dX0_numberOf_56 : decode cX0_numberOf 56 = .ok (.iconst 1, 1) := by decide +kernel
theorem dX0_numberOf_57 : decode cX0_numberOf 57 = .ok (.iadd, 1) := by decide +kernel
theorem dX0_numberOf_58 : decode cX0_numberOf 58 = .ok (.putfield 31, 3) := by decide +kernel
theorem dX0_numberOf_61 : decode cX0_numberOf 61 = .ok (.aload_n 0, 1) := by decide +kernel
theorem dX0_numberOf_62 : decode cX0_numberOf 62 = .ok (.getfield 31, 3) := by decide +kernel
theorem dX0_numberOf_65 : decode cX0_numberOf 65 = .ok (.iconst 1, 1) := by decide +kernel
theorem dX0_numberOf_66 : decode cX0_numberOf 66 = .ok (.isub, 1) := by decide +kernel
theorem dX0_numberOf_67 : decode cX0_numberOf 67 = .ok (.ireturn, 1) := by decide +kernel
theorem dX1_init_0 : decode cX1_init 0 = .ok (.aload_n 0, 1) := by decide +kernel
theorem dX1_init_1 : decode cX1_init 1 = .ok (.invokespecial 1, 3) := by decide +kernel
theorem dX1_init_4 : decode cX1_init 4 = .ok (.aload_n 0, 1) := by decide +kernel
theorem dX1_init_5 : decode cX1_init 5 = .ok (.bipush 12, 2) := by decide +kernel
theorem dX1_init_7 : decode cX1_init 7 = .ok (.newarray .int, 2) := by decide +kernel
theorem dX1_init_9 : decode cX1_init 9 = .ok (.putfield 7, 3) := by decide +kernel
theorem dX1_init_12 : decode cX1_init 12 = .ok (.aload_n 0, 1) := by decide +kernel
theorem dX1_init_13 : decode cX1_init 13 = .ok (.sipush 300, 3) := by decide +kernel
theorem dX1_init_16 : decode cX1_init 16 = .ok (.newarray .int, 2) := by decide +kernel
theorem dX1_init_18 : decode cX1_init 18 = .ok (.putfield 13, 3) := by decide +kernel
theorem dX1_init_21 : decode cX1_init 21 = .ok (.aload_n 0, 1) := by decide +kernel
theorem dX1_init_22 : decode cX1_init 22 = .ok (.sipush 300, 3) := by decide +kernel
theorem dX1_init_25 : decode cX1_init 25 = .ok (.newarray .int, 2) := by decide +kernel
theorem dX1_init_27 : decode cX1_init 27 = .ok (.putfield 16, 3) := by decide +kernel
