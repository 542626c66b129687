theorem dX7_dueOf_27 : decode cX7_dueOf 27 = .ok (.lreturn, 1) := by decide +kernel
theorem dX7_dueOf_28 : decode cX7_dueOf 28 = .ok (.aload_n 0, 1) := by decide +kernel
theorem dX7_dueOf_29 : decode cX7_dueOf 29 = .ok (.aload_n 1, 1) := by decide +kernel
theorem dX7_dueOf_30 : decode cX7_dueOf 30 = .ok (.iload_n 2, 1) := by decide +kernel
theorem dX7_dueOf_31 : decode cX7_dueOf 31 = .ok (.invokevirtual 409, 3) := by decide +kernel
theorem dX7_dueOf_34 : decode cX7_dueOf 34 = .ok (.lstore_n 3, 1) := by decide +kernel
theorem dX7_dueOf_35 : decode cX7_dueOf 35 = .ok (.lload_n 3, 1) := by decide +kernel
theorem dX7_dueOf_36 : decode cX7_dueOf 36 = .ok (.lload_n 3, 1) := by decide +kernel
theorem dX7_dueOf_37 : decode cX7_dueOf 37 = .ok (.aload_n 0, 1) := by decide +kernel
theorem dX7_dueOf_38 : decode cX7_dueOf 38 = .ok (.getfield 41, 3) := by decide +kernel
theorem dX7_dueOf_41 : decode cX7_dueOf 41 = .ok (.iload_n 2, 1) := by decide +kernel
theorem dX7_dueOf_42 : decode cX7_dueOf 42 = .ok (.aaload, 1) := by decide +kernel
theorem dX7_dueOf_43 : decode cX7_dueOf 43 = .ok (.getfield 251, 3) := by decide +kernel
theorem dX7_dueOf_46 : decode cX7_dueOf 46 = .ok (.i2l, 1) := by decide +kernel
theorem dX7_dueOf_47 : decode cX7_dueOf 47 = .ok (.lmul, 1) := by decide +kernel
theorem dX7_dueOf_48 : decode cX7_dueOf 48 = .ok (.ldc2_w 375, 3) := by decide +kernel
theorem dX7_dueOf_51 : decode cX7_dueOf 51 = .ok (.ldiv, 1) := by decide +kernel
theorem dX7_dueOf_52 : decode cX7_dueOf 52 = .ok (.ladd, 1) := by decide +kernel
theorem dX7_dueOf_53 : decode cX7_dueOf 53 = .ok (.lreturn, 1) := by decide +kernel
set_option maxRecDepth 20000 in
theorem ggX7_owedBy_X7_dueOf : GoodIn wsX7_owedBy wsX7_dueOf := goodIn_r _ [6, 7, 8, 9, 10, 11, 12, 13, 14, 15, 5, 16, 17, 18, 19, 20, 21, 22, 23, 24, 25, 26, 27, 28, 29, 30, 31, 32, 33, 34, 35, 36, 37, 38, 39, 40, 41, 42, 43, 44, 45, 46, 47, 48, 54, 55, 56, 57, 58, 59, 60, 61, 62, 63, 64, 65, 66, 67, 68, 69, 70, 71, 72, 73, 74, 49, 50, 51, 52, 53, 75, 76, 77, 78, 79, 80, 81] (by decide +kernel) (by decide +kernel)
set_option maxRecDepth 20000 in
theorem gX7_owedBy_X7_dueOf : GoodIn wsX7_owedBy (wsV RX7 303 RX7 yX7_dueOf wsX7_dueOf) := goodIn_app (goodIn_of _ (by decide +kernel)) ggX7_owedBy_X7_dueOf
theorem dX7_owedBy_0 : decode cX7_owedBy 0 = .ok (.aload_n 1, 1) := by decide +kernel
theorem dX7_owedBy_1 : decode cX7_owedBy 1 = .ok (.getfield 276, 3) := by decide +kernel
theorem dX7_owedBy_4 : decode cX7_owedBy 4 = .ok (.lneg, 1) := by decide +kernel
theorem dX7_owedBy_5 : decode cX7_owedBy 5 = .ok (.lstore_n 2, 1) := by decide +kernel
theorem dX7_owedBy_6 : decode cX7_owedBy 6 = .ok (.iconst 0, 1) := by decide +kernel
theorem dX7_owedBy_7 : decode cX7_owedBy 7 = .ok (.istore 4, 2) := by decide +kernel
theorem dX7_owedBy_9 : decode cX7_owedBy 9 = .ok (.iload 4, 2) := by decide +kernel
theorem dX7_owedBy_11 : decode cX7_owedBy 11 = .ok (.bipush 20, 2) := by decide +kernel
theorem dX7_owedBy_13 : decode cX7_owedBy 13 = .ok (.if_icmp .ge 19, 3) := by decide +kernel
theorem dX7_owedBy_16 : decode cX7_owedBy 16 = .ok (.lload_n 2, 1) := by decide +kernel
theorem dX7_owedBy_17 : decode cX7_owedBy 17 = .ok (.aload_n 0, 1) := by decide +kernel
theorem dX7_owedBy_18 : decode cX7_owedBy 18 = .ok (.aload_n 1, 1) := by decide +kernel
theorem dX7_owedBy_19 : decode cX7_owedBy 19 = .ok (.iload 4, 2) := by decide +kernel
theorem dX7_owedBy_21 : decode cX7_owedBy 21 = .ok (.invokevirtual 303, 3) := by decide +kernel
theorem dX7_owedBy_24 : decode cX7_owedBy 24 = .ok (.ladd, 1) := by decide +kernel
theorem dX7_owedBy_25 : decode cX7_owedBy 25 = .ok (.lstore_n 2, 1) := by decide +kernel
theorem dX7_owedBy_26 : decode cX7_owedBy 26 = .ok (.iinc 4 1, 3) := by decide +kernel
theorem dX7_owedBy_29 : decode cX7_owedBy 29 = .ok (.goto (-20), 3) := by decide +kernel
theorem dX7_owedBy_32 : decode cX7_owedBy 32 = .ok (.lload_n 2, 1) := by decide +kernel
theorem dX7_owedBy_33 : decode cX7_owedBy 33 = .ok (.lreturn, 1) := by decide +kernel
set_option maxRecDepth 20000 in
theorem ggX7_releaseFrom_X7_advanceOf : GoodIn wsX7_releaseFrom wsX7_advanceOf := goodIn_r _ [8, 9, 10, 11, 12, 13, 14, 7, 15, 16, 17, 18, 19, 20, 21, 22, 23, 24, 25, 26, 27, 28, 29, 30, 31, 32, 33, 34, 35, 36, 37, 38, 39, 40, 41, 53, 54, 55, 56, 57, 58, 59, 60, 61, 62, 63, 64, 65, 66, 67, 68, 69, 70, 71, 72, 73, 74, 75, 76, 77, 78, 79, 80, 48, 49, 50, 51, 52] (by decide +kernel) (by decide +kernel)
set_option maxRecDepth 20000 in
theorem gX7_releaseFrom_X7_advanceOf : GoodIn wsX7_releaseFrom (wsV RX7 409 RX7 yX7_advanceOf wsX7_advanceOf) := goodIn_app (goodIn_of _ (by decide +kernel)) ggX7_releaseFrom_X7_advanceOf
set_option maxRecDepth 20000 in
theorem ggX7_releaseFrom_X7_dueOf : GoodIn wsX7_releaseFrom wsX7_dueOf := goodIn_r _ [45, 9, 46, 3, 2, 47, 1, 4, 5, 6, 7, 8, 10, 11, 12, 13, 14, 15, 16, 17, 18, 19, 20, 21, 22, 23, 24, 25, 26, 27, 28, 29, 30, 31, 32, 33, 34, 35, 36, 37, 38, 39, 40, 41, 53, 54, 55, 56, 57, 58, 59, 60, 61, 62, 63, 64, 65, 66, 67, 68, 69, 70, 71, 72, 73, 48, 49, 50, 51, 52, 74, 75, 76, 77, 78, 79, 80] (by decide +kernel) (by decide +kernel)
set_option maxRecDepth 20000 in
theorem gX7_releaseFrom_X7_dueOf : GoodIn wsX7_releaseFrom (wsV RX7 303 RX7 yX7_dueOf wsX7_dueOf) := goodIn_app (goodIn_of _ (by decide +kernel)) ggX7_releaseFrom_X7_dueOf
theorem dX7_releaseFrom_0 : decode cX7_releaseFrom 0 = .ok (.aload_n 0, 1) := by decide +kernel
theorem dX7_releaseFrom_1 : decode cX7_releaseFrom 1 = .ok (.aload_n 1, 1) := by decide +kernel
theorem dX7_releaseFrom_2 : decode cX7_releaseFrom 2 = .ok (.iload_n 2, 1) := by decide +kernel
theorem dX7_releaseFrom_3 : decode cX7_releaseFrom 3 = .ok (.invokevirtual 409, 3) := by decide +kernel
theorem dX7_releaseFrom_6 : decode cX7_releaseFrom 6 = .ok (.iload_n 3, 1) := by decide +kernel
theorem dX7_releaseFrom_7 : decode cX7_releaseFrom 7 = .ok (.i2l, 1) := by decide +kernel
theorem dX7_releaseFrom_8 : decode cX7_releaseFrom 8 = .ok (.lmul, 1) := by decide +kernel
theorem dX7_releaseFrom_9 : decode cX7_releaseFrom 9 = .ok (.ldc2_w 375, 3) := by decide +kernel
theorem dX7_releaseFrom_12 : decode cX7_releaseFrom 12 = .ok (.ldiv, 1) := by decide +kernel
theorem dX7_releaseFrom_13 : decode cX7_releaseFrom 13 = .ok (.lstore 4, 2) := by decide +kernel
theorem dX7_releaseFrom_15 : decode cX7_releaseFrom 15 = .ok (.aload_n 1, 1) := by decide +kernel
theorem dX7_releaseFrom_16 : decode cX7_releaseFrom 16 = .ok (.getfield 405, 3) := by decide +kernel
theorem dX7_releaseFrom_19 : decode cX7_releaseFrom 19 = .ok (.iload_n 2, 1) := by decide +kernel
theorem dX7_releaseFrom_20 : decode cX7_releaseFrom 20 = .ok (.aload_n 0, 1) := by decide +kernel
theorem dX7_releaseFrom_21 : decode cX7_releaseFrom 21 = .ok (.aload_n 1, 1) := by decide +kernel
theorem dX7_releaseFrom_22 : decode cX7_releaseFrom 22 = .ok (.iload_n 2, 1) := by decide +kernel
theorem dX7_releaseFrom_23 : decode cX7_releaseFrom 23 = .ok (.invokevirtual 303, 3) := by decide +kernel
theorem dX7_releaseFrom_26 : decode cX7_releaseFrom 26 = .ok (.lload 4, 2) := by decide +kernel
theorem dX7_releaseFrom_28 : decode cX7_releaseFrom 28 = .ok (.ladd, 1) := by decide +kernel
theorem dX7_releaseFrom_29 : decode cX7_releaseFrom 29 = .ok (.lastore, 1) := by decide +kernel
theorem dX7_releaseFrom_30 : decode cX7_releaseFrom 30 = .ok (.aload_n 1, 1) := by decide +kernel
theorem dX7_releaseFrom_31 : decode cX7_releaseFrom 31 = .ok (.getfield 95, 3) := by decide +kernel
theorem dX7_releaseFrom_34 : decode cX7_releaseFrom 34 = .ok (.iload_n 2, 1) := by decide +kernel
theorem dX7_releaseFrom_35 : decode cX7_releaseFrom 35 = .ok (.iconst 1, 1) := by decide +kernel
theorem dX7_releaseFrom_36 : decode cX7_releaseFrom 36 = .ok (.bastore, 1) := by decide +kernel
theorem dX7_releaseFrom_37 : decode cX7_releaseFrom 37 = .ok (.return_, 1) := by decide +kernel
theorem dX7_dueOfReleased_0 : decode cX7_dueOfReleased 0 = .ok (.lconst 0, 1) := by decide +kernel
theorem dX7_dueOfReleased_1 : decode cX7_dueOfReleased 1 = .ok (.lstore_n 2, 1) := by decide +kernel
theorem dX7_dueOfReleased_2 : decode cX7_dueOfReleased 2 = .ok (.iconst 0, 1) := by decide +kernel
theorem dX7_dueOfReleased_3 : decode cX7_dueOfReleased 3 = .ok (.istore 4, 2) := by decide +kernel
theorem dX7_dueOfReleased_5 : decode cX7_dueOfReleased 5 = .ok (.iload 4, 2) := by decide +kernel
theorem dX7_dueOfReleased_7 : decode cX7_dueOfReleased 7 = .ok (.aload_n 0, 1) := by decide +kernel
theorem dX7_dueOfReleased_8 : decode cX7_dueOfReleased 8 = .ok (.getfield 53, 3) := by decide +kernel
theorem dX7_dueOfReleased_11 : decode cX7_dueOfReleased 11 = .ok (.if_icmp .ge 39, 3) := by decide +kernel
theorem dX7_dueOfReleased_14 : decode cX7_dueOfReleased 14 = .ok (.aload_n 0, 1) := by decide +kernel
theorem dX7_dueOfReleased_15 : decode cX7_dueOfReleased 15 = .ok (.getfield 11, 3) := by decide +kernel
theorem dX7_dueOfReleased_18 : decode cX7_dueOfReleased 18 = .ok (.iload 4, 2) := by decide +kernel
theorem dX7_dueOfReleased_20 : decode cX7_dueOfReleased 20 = .ok (.aaload, 1) := by decide +kernel
theorem dX7_dueOfReleased_21 : decode cX7_dueOfReleased 21 = .ok (.getfield 95, 3) := by decide +kernel
theorem dX7_dueOfReleased_24 : decode cX7_dueOfReleased 24 = .ok (.iload_n 1, 1) := by decide +kernel
theorem dX7_dueOfReleased_25 : decode cX7_dueOfReleased 25 = .ok (.baload, 1) := by decide +kernel
theorem dX7_dueOfReleased_26 : decode cX7_dueOfReleased 26 = .ok (.ifCond .eq 18, 3) := by decide +kernel
theorem dX7_dueOfReleased_29 : decode cX7_dueOfReleased 29 = .ok (.lload_n 2, 1) := by decide +kernel
theorem dX7_dueOfReleased_30 : decode cX7_dueOfReleased 30 = .ok (.aload_n 0, 1) := by decide +kernel
theorem dX7_dueOfReleased_31 : decode cX7_dueOfReleased 31 = .ok (.getfield 11, 3) := by decide +kernel
theorem dX7_dueOfReleased_34 : decode cX7_dueOfReleased 34 = .ok (.iload 4, 2) := by decide +kernel
theorem dX7_dueOfReleased_36 : decode cX7_dueOfReleased 36 = .ok (.aaload, 1) := by decide +kernel
theorem dX7_dueOfReleased_37 : decode cX7_dueOfReleased 37 = .ok (.getfield 405, 3) := by decide +kernel
theorem dX7_dueOfReleased_40 : decode cX7_dueOfReleased 40 = .ok (.iload_n 1, 1) := by decide +kernel
theorem dX7_dueOfReleased_41 : decode cX7_dueOfReleased 41 = .ok (.laload, 1) := by decide +kernel
theorem dX7_dueOfReleased_42 : decode cX7_dueOfReleased 42 = .ok (.ladd, 1) := by decide +kernel
theorem dX7_dueOfReleased_43 : decode cX7_dueOfReleased 43 = .ok (.lstore_n 2, 1) := by decide +kernel
theorem dX7_dueOfReleased_44 : decode cX7_dueOfReleased 44 = .ok (.iinc 4 1, 3) := by decide +kernel
theorem dX7_dueOfReleased_47 : decode cX7_dueOfReleased 47 = .ok (.goto (-42), 3) := by decide +kernel
theorem dX7_dueOfReleased_50 : decode cX7_dueOfReleased 50 = .ok (.lload_n 2, 1) := by decide +kernel
theorem dX7_dueOfReleased_51 : decode cX7_dueOfReleased 51 = .ok (.lreturn, 1) := by decide +kernel
set_option maxRecDepth 20000 in
theorem ggX7_isShared_X7_weightIn : GoodIn wsX7_isShared wsX7_weightIn := goodIn_r _ [6, 7, 8, 9, 10, 11, 12, 13, 14, 15, 16, 17, 18, 19, 20, 21, 22, 23, 24, 25, 26, 27, 28, 29, 30, 31, 32, 38, 39, 40, 41, 42, 43, 44, 45, 46, 47, 48, 49, 50, 51, 52, 53, 54, 55, 56, 57, 58, 33, 34, 35, 36, 37] (by decide +kernel) (by decide +kernel)
set_option maxRecDepth 20000 in
theorem gX7_isShared_X7_weightIn : GoodIn wsX7_isShared (wsV RX7 139 RX7 yX7_weightIn wsX7_weightIn) := goodIn_app (goodIn_of _ (by decide +kernel)) ggX7_isShared_X7_weightIn
theorem dX7_isShared_0 : decode cX7_isShared 0 = .ok (.aload_n 1, 1) := by decide +kernel
theorem dX7_isShared_1 : decode cX7_isShared 1 = .ok (.getfield 95, 3) := by decide +kernel
theorem dX7_isShared_4 : decode cX7_isShared 4 = .ok (.iload_n 2, 1) := by decide +kernel
theorem dX7_isShared_5 : decode cX7_isShared 5 = .ok (.baload, 1) := by decide +kernel
theorem dX7_isShared_6 : decode cX7_isShared 6 = .ok (.ifCond .ne 18, 3) := by decide +kernel
theorem dX7_isShared_9 : decode cX7_isShared 9 = .ok (.aload_n 0, 1) := by decide +kernel
theorem dX7_isShared_10 : decode cX7_isShared 10 = .ok (.aload_n 1, 1) := by decide +kernel
theorem dX7_isShared_11 : decode cX7_isShared 11 = .ok (.iload_n 2, 1) := by decide +kernel
theorem dX7_isShared_12 : decode cX7_isShared 12 = .ok (.invokevirtual 139, 3) := by decide +kernel
theorem dX7_isShared_15 : decode cX7_isShared 15 = .ok (.lconst 0, 1) := by decide +kernel
theorem dX7_isShared_16 : decode cX7_isShared 16 = .ok (.lcmp, 1) := by decide +kernel
theorem dX7_isShared_17 : decode cX7_isShared 17 = .ok (.ifCond .le 7, 3) := by decide +kernel
theorem dX7_isShared_20 : decode cX7_isShared 20 = .ok (.iconst 1, 1) := by decide +kernel
theorem dX7_isShared_21 : decode cX7_isShared 21 = .ok (.goto 4, 3) := by decide +kernel
theorem dX7_isShared_24 : decode cX7_isShared 24 = .ok (.iconst 0, 1) := by decide +kernel
theorem dX7_isShared_25 : decode cX7_isShared 25 = .ok (.ireturn, 1) := by decide +kernel
set_option maxRecDepth 20000 in
theorem ggX7_share_X7_isShared : GoodIn wsX7_share wsX7_isShared := goodIn_r _ [9, 10, 11, 12, 13, 8, 14, 15, 16, 17, 18, 19, 20, 21, 22, 23, 24, 25, 26, 27, 28, 29, 30, 31, 32, 33, 34, 35, 36, 37, 38, 39, 40, 63, 64, 65, 66, 67, 49, 50, 51, 52, 53, 54, 55, 56, 57, 58, 59, 60, 61, 62, 68, 69, 70, 71, 72, 73, 74] (by decide +kernel) (by decide +kernel)
set_option maxRecDepth 20000 in
theorem gX7_share_X7_isShared : GoodIn wsX7_share (wsV RX7 262 RX7 yX7_isShared wsX7_isShared) := goodIn_app (goodIn_of _ (by decide +kernel)) ggX7_share_X7_isShared
set_option maxRecDepth 20000 in
theorem ggX7_share_X7_weightIn : GoodIn wsX7_share wsX7_weightIn := goodIn_r _ [14, 15, 16, 17, 18, 19, 20, 21, 22, 23, 24, 25, 26, 27, 28, 29, 30, 31, 32, 33, 34, 35, 36, 37, 38, 39, 40, 49, 50, 51, 52, 53, 54, 55, 56, 57, 58, 59, 60, 61, 62, 68, 69, 70, 71, 72, 73, 74, 63, 64, 65, 66, 67] (by decide +kernel) (by decide +kernel)
set_option maxRecDepth 20000 in
theorem gX7_share_X7_weightIn : GoodIn wsX7_share (wsV RX7 139 RX7 yX7_weightIn wsX7_weightIn) := goodIn_app (goodIn_of _ (by decide +kernel)) ggX7_share_X7_weightIn
set_option maxRecDepth 20000 in
theorem ggX7_share_J9_floorDiv_f86c9 : GoodIn wsX7_share wsJ9_floorDiv_f86c9 := goodIn_r _ [44] (by decide +kernel) (by decide +kernel)
set_option maxRecDepth 20000 in
theorem gX7_share_J9_floorDiv_f86c9 : GoodIn wsX7_share (va_wsS RX7 412 yJ9_floorDiv_f86c9 wsJ9_floorDiv_f86c9) := goodIn_app (goodIn_of _ (by decide +kernel)) ggX7_share_J9_floorDiv_f86c9
set_option maxRecDepth 20000 in
theorem ggX7_share_X7_shareOneEach : GoodIn wsX7_share wsX7_shareOneEach := goodIn_r _ [48, 1, 2, 4, 5, 6, 7, 8, 9, 10, 11, 12, 13, 14, 15, 16, 17, 18, 19, 20, 21, 22, 23, 24, 25, 26, 27, 28, 29, 30, 31, 32, 33, 34, 35, 36, 37, 38, 39, 40, 49, 50, 51, 52, 53, 54, 55, 56, 57, 58, 59, 60, 61, 62, 63, 64, 65, 66, 67, 68, 69, 70, 71, 72, 73, 74] (by decide +kernel) (by decide +kernel)
set_option maxRecDepth 20000 in
theorem gX7_share_X7_shareOneEach : GoodIn wsX7_share (wsV RX7 418 RX7 yX7_shareOneEach wsX7_shareOneEach) := goodIn_app (goodIn_of _ (by decide +kernel)) ggX7_share_X7_shareOneEach
theorem dX7_share_0 : decode cX7_share 0 = .ok (.lconst 0, 1) := by decide +kernel
theorem dX7_share_1 : decode cX7_share 1 = .ok (.lstore 4, 2) := by decide +kernel
theorem dX7_share_3 : decode cX7_share 3 = .ok (.iconst 0, 1) := by decide +kernel
theorem dX7_share_4 : decode cX7_share 4 = .ok (.istore 6, 2) := by decide +kernel
theorem dX7_share_6 : decode cX7_share 6 = .ok (.iload 6, 2) := by decide +kernel
theorem dX7_share_8 : decode cX7_share 8 = .ok (.aload_n 0, 1) := by decide +kernel
theorem dX7_share_9 : decode cX7_share 9 = .ok (.getfield 53, 3) := by decide +kernel
theorem dX7_share_12 : decode cX7_share 12 = .ok (.if_icmp .ge 41, 3) := by decide +kernel
theorem dX7_share_15 : decode cX7_share 15 = .ok (.aload_n 0, 1) := by decide +kernel
theorem dX7_share_16 : decode cX7_share 16 = .ok (.aload_n 0, 1) := by decide +kernel
theorem dX7_share_17 : decode cX7_share 17 = .ok (.getfield 11, 3) := by decide +kernel
theorem dX7_share_20 : decode cX7_share 20 = .ok (.iload 6, 2) := by decide +kernel
theorem dX7_share_22 : decode cX7_share 22 = .ok (.aaload, 1) := by decide +kernel
theorem dX7_share_23 : decode cX7_share 23 = .ok (.iload_n 1, 1) := by decide +kernel
theorem dX7_share_24 : decode cX7_share 24 = .ok (.invokevirtual 262, 3) := by decide +kernel
theorem dX7_share_27 : decode cX7_share 27 = .ok (.ifCond .eq 20, 3) := by decide +kernel
theorem dX7_share_30 : decode cX7_share 30 = .ok (.lload 4, 2) := by decide +kernel
theorem dX7_share_32 : decode cX7_share 32 = .ok (.aload_n 0, 1) := by decide +kernel
theorem dX7_share_33 : decode cX7_share 33 = .ok (.aload_n 0, 1) := by decide +kernel
theorem dX7_share_34 : decode cX7_share 34 = .ok (.getfield 11, 3) := by decide +kernel
theorem dX7_share_37 : decode cX7_share 37 = .ok (.iload 6, 2) := by decide +kernel
theorem dX7_share_39 : decode cX7_share 39 = .ok (.aaload, 1) := by decide +kernel
theorem dX7_share_40 : decode cX7_share 40 = .ok (.iload_n 1, 1) := by decide +kernel
theorem dX7_share_41 : decode cX7_share 41 = .ok (.invokevirtual 139, 3) := by decide +kernel
theorem dX7_share_44 : decode cX7_share 44 = .ok (.ladd, 1) := by decide +kernel
theorem dX7_share_45 : decode cX7_share 45 = .ok (.lstore 4, 2) := by decide +kernel
theorem dX7_share_47 : decode cX7_share 47 = .ok (.iinc 6 1, 3) := by decide +kernel
theorem dX7_share_50 : decode cX7_share 50 = .ok (.goto (-44), 3) := by decide +kernel
theorem dX7_share_53 : decode cX7_share 53 = .ok (.lload 4, 2) := by decide +kernel
theorem dX7_share_55 : decode cX7_share 55 = .ok (.lconst 0, 1) := by decide +kernel
theorem dX7_share_56 : decode cX7_share 56 = .ok (.lcmp, 1) := by decide +kernel
theorem dX7_share_57 : decode cX7_share 57 = .ok (.ifCond .gt 14, 3) := by decide +kernel
theorem dX7_share_60 : decode cX7_share 60 = .ok (.aload_n 0, 1) := by decide +kernel
theorem dX7_share_61 : decode cX7_share 61 = .ok (.dup, 1) := by decide +kernel
theorem dX7_share_62 : decode cX7_share 62 = .ok (.getfield 306, 3) := by decide +kernel
theorem dX7_share_65 : decode cX7_share 65 = .ok (.lload_n 2, 1) := by decide +kernel
theorem dX7_share_66 : decode cX7_share 66 = .ok (.lsub, 1) := by decide +kernel
theorem dX7_share_67 : decode cX7_share 67 = .ok (.putfield 306, 3) := by decide +kernel
theorem dX7_share_70 : decode cX7_share 70 = .ok (.return_, 1) := by decide +kernel
theorem dX7_share_71 : decode cX7_share 71 = .ok (.lload_n 2, 1) := by decide +kernel
theorem dX7_share_72 : decode cX7_share 72 = .ok (.lstore 6, 2) := by decide +kernel
theorem dX7_share_74 : decode cX7_share 74 = .ok (.iconst 0, 1) := by decide +kernel
theorem dX7_share_75 : decode cX7_share 75 = .ok (.istore 8, 2) := by decide +kernel
theorem dX7_share_77 : decode cX7_share 77 = .ok (.iload 8, 2) := by decide +kernel
theorem dX7_share_79 : decode cX7_share 79 = .ok (.aload_n 0, 1) := by decide +kernel
theorem dX7_share_80 : decode cX7_share 80 = .ok (.getfield 53, 3) := by decide +kernel
theorem dX7_share_83 : decode cX7_share 83 = .ok (.if_icmp .ge 66, 3) := by decide +kernel
theorem dX7_share_86 : decode cX7_share 86 = .ok (.aload_n 0, 1) := by decide +kernel
theorem dX7_share_87 : decode cX7_share 87 = .ok (.aload_n 0, 1) := by decide +kernel
theorem dX7_share_88 : decode cX7_share 88 = .ok (.getfield 11, 3) := by decide +kernel
theorem dX7_share_91 : decode cX7_share 91 = .ok (.iload 8, 2) := by decide +kernel
theorem dX7_share_93 : decode cX7_share 93 = .ok (.aaload, 1) := by decide +kernel
theorem dX7_share_94 : decode cX7_share 94 = .ok (.iload_n 1, 1) := by decide +kernel
theorem dX7_share_95 : decode cX7_share 95 = .ok (.invokevirtual 262, 3) := by decide +kernel
theorem dX7_share_98 : decode cX7_share 98 = .ok (.ifCond .eq 45, 3) := by decide +kernel
theorem dX7_share_101 : decode cX7_share 101 = .ok (.lload_n 2, 1) := by decide +kernel
theorem dX7_share_102 : decode cX7_share 102 = .ok (.aload_n 0, 1) := by decide +kernel
theorem dX7_share_103 : decode cX7_share 103 = .ok (.aload_n 0, 1) := by decide +kernel
theorem dX7_share_104 : decode cX7_share 104 = .ok (.getfield 11, 3) := by decide +kernel
theorem dX7_share_107 : decode cX7_share 107 = .ok (.iload 8, 2) := by decide +kernel
theorem dX7_share_109 : decode cX7_share 109 = .ok (.aaload, 1) := by decide +kernel
theorem dX7_share_110 : decode cX7_share 110 = .ok (.iload_n 1, 1) := by decide +kernel
theorem dX7_share_111 : decode cX7_share 111 = .ok (.invokevirtual 139, 3) := by decide +kernel
theorem dX7_share_114 : decode cX7_share 114 = .ok (.lmul, 1) := by decide +kernel
theorem dX7_share_115 : decode cX7_share 115 = .ok (.lload 4, 2) := by decide +kernel
theorem dX7_share_117 : decode cX7_share 117 = .ok (.invokestatic 412, 3) := by decide +kernel
theorem dX7_share_120 : decode cX7_share 120 = .ok (.lstore 9, 2) := by decide +kernel
theorem dX7_share_122 : decode cX7_share 122 = .ok (.aload_n 0, 1) := by decide +kernel
theorem dX7_share_123 : decode cX7_share 123 = .ok (.getfield 11, 3) := by decide +kernel
theorem dX7_share_126 : decode cX7_share 126 = .ok (.iload 8, 2) := by decide +kernel
theorem dX7_share_128 : decode cX7_share 128 = .ok (.aaload, 1) := by decide +kernel
theorem dX7_share_129 : decode cX7_share 129 = .ok (.getfield 405, 3) := by decide +kernel
theorem dX7_share_132 : decode cX7_share 132 = .ok (.iload_n 1, 1) := by decide +kernel
theorem dX7_share_133 : decode cX7_share 133 = .ok (.lload 9, 2) := by decide +kernel
theorem dX7_share_135 : decode cX7_share 135 = .ok (.lastore, 1) := by decide +kernel
theorem dX7_share_136 : decode cX7_share 136 = .ok (.lload 6, 2) := by decide +kernel
theorem dX7_share_138 : decode cX7_share 138 = .ok (.lload 9, 2) := by decide +kernel
theorem dX7_share_140 : decode cX7_share 140 = .ok (.lsub, 1) := by decide +kernel
theorem dX7_share_141 : decode cX7_share 141 = .ok (.lstore 6, 2) := by decide +kernel
theorem dX7_share_143 : decode cX7_share 143 = .ok (.iinc 8 1, 3) := by decide +kernel
theorem dX7_share_146 : decode cX7_share 146 = .ok (.goto (-69), 3) := by decide +kernel
theorem dX7_share_149 : decode cX7_share 149 = .ok (.aload_n 0, 1) := by decide +kernel
theorem dX7_share_150 : decode cX7_share 150 = .ok (.iload_n 1, 1) := by decide +kernel
theorem dX7_share_151 : decode cX7_share 151 = .ok (.lload 6, 2) := by decide +kernel
theorem dX7_share_153 : decode cX7_share 153 = .ok (.invokevirtual 418, 3) := by decide +kernel
theorem dX7_share_156 : decode cX7_share 156 = .ok (.return_, 1) := by decide +kernel
set_option maxRecDepth 20000 in
theorem ggX7_shareOneEach_X7_isShared : GoodIn wsX7_shareOneEach wsX7_isShared := goodIn_r _ [8, 9, 10, 11, 12, 7, 13, 14, 15, 16, 17, 18, 19, 20, 21, 22, 23, 24, 25, 26, 27, 28, 29, 30, 31, 32, 33, 34, 35, 36, 37, 38, 39, 54, 55, 56, 57, 58, 40, 41, 42, 43, 44, 45, 46, 47, 48, 49, 50, 51, 52, 53, 59, 60, 61, 62, 63, 64, 65] (by decide +kernel) (by decide +kernel)
set_option maxRecDepth 20000 in
theorem gX7_shareOneEach_X7_isShared : GoodIn wsX7_shareOneEach (wsV RX7 262 RX7 yX7_isShared wsX7_isShared) := goodIn_app (goodIn_of _ (by decide +kernel)) ggX7_shareOneEach_X7_isShared
theorem dX7_shareOneEach_0 : decode cX7_shareOneEach 0 = .ok (.lload_n 2, 1) := by decide +kernel
theorem dX7_shareOneEach_1 : decode cX7_shareOneEach 1 = .ok (.lstore 4, 2) := by decide +kernel
theorem dX7_shareOneEach_3 : decode cX7_shareOneEach 3 = .ok (.iconst 0, 1) := by decide +kernel
theorem dX7_shareOneEach_4 : decode cX7_shareOneEach 4 = .ok (.istore 6, 2) := by decide +kernel
theorem dX7_shareOneEach_6 : decode cX7_shareOneEach 6 = .ok (.iload 6, 2) := by decide +kernel
theorem dX7_shareOneEach_8 : decode cX7_shareOneEach 8 = .ok (.aload_n 0, 1) := by decide +kernel
theorem dX7_shareOneEach_9 : decode cX7_shareOneEach 9 = .ok (.getfield 53, 3) := by decide +kernel
theorem dX7_shareOneEach_12 : decode cX7_shareOneEach 12 = .ok (.if_icmp .ge 53, 3) := by decide +kernel
theorem dX7_shareOneEach_15 : decode cX7_shareOneEach 15 = .ok (.lload 4, 2) := by decide +kernel
theorem dX7_shareOneEach_17 : decode cX7_shareOneEach 17 = .ok (.lconst 0, 1) := by decide +kernel
theorem dX7_shareOneEach_18 : decode cX7_shareOneEach 18 = .ok (.lcmp, 1) := by decide +kernel
theorem dX7_shareOneEach_19 : decode cX7_shareOneEach 19 = .ok (.ifCond .le 46, 3) := by decide +kernel
theorem dX7_shareOneEach_22 : decode cX7_shareOneEach 22 = .ok (.aload_n 0, 1) := by decide +kernel
theorem dX7_shareOneEach_23 : decode cX7_shareOneEach 23 = .ok (.aload_n 0, 1) := by decide +kernel
theorem dX7_shareOneEach_24 : decode cX7_shareOneEach 24 = .ok (.getfield 11, 3) := by decide +kernel
theorem dX7_shareOneEach_27 : decode cX7_shareOneEach 27 = .ok (.iload 6, 2) := by decide +kernel
theorem dX7_shareOneEach_29 : decode cX7_shareOneEach 29 = .ok (.aaload, 1) := by decide +kernel
theorem dX7_shareOneEach_30 : decode cX7_shareOneEach 30 = .ok (.iload_n 1, 1) := by decide +kernel
theorem dX7_shareOneEach_31 : decode cX7_shareOneEach 31 = .ok (.invokevirtual 262, 3) := by decide +kernel
theorem dX7_shareOneEach_34 : decode cX7_shareOneEach 34 = .ok (.ifCond .eq 25, 3) := by decide +kernel
theorem dX7_shareOneEach_37 : decode cX7_shareOneEach 37 = .ok (.aload_n 0, 1) := by decide +kernel
theorem dX7_shareOneEach_38 : decode cX7_shareOneEach 38 = .ok (.getfield 11, 3) := by decide +kernel
theorem dX7_shareOneEach_41 : decode cX7_shareOneEach 41 = .ok (.iload 6, 2) := by decide +kernel
theorem dX7_shareOneEach_43 : decode cX7_shareOneEach 43 = .ok (.aaload, 1) := by decide +kernel
theorem dX7_shareOneEach_44 : decode cX7_shareOneEach 44 = .ok (.getfield 405, 3) := by decide +kernel
theorem dX7_shareOneEach_47 : decode cX7_shareOneEach 47 = .ok (.iload_n 1, 1) := by decide +kernel
theorem dX7_shareOneEach_48 : decode cX7_shareOneEach 48 = .ok (.dup2, 1) := by decide +kernel
theorem dX7_shareOneEach_49 : decode cX7_shareOneEach 49 = .ok (.laload, 1) := by decide +kernel
theorem dX7_shareOneEach_50 : decode cX7_shareOneEach 50 = .ok (.lconst 1, 1) := by decide +kernel
theorem dX7_shareOneEach_51 : decode cX7_shareOneEach 51 = .ok (.ladd, 1) := by decide +kernel
theorem dX7_shareOneEach_52 : decode cX7_shareOneEach 52 = .ok (.lastore, 1) := by decide +kernel
theorem dX7_shareOneEach_53 : decode cX7_shareOneEach 53 = .ok (.lload 4, 2) := by decide +kernel
theorem dX7_shareOneEach_55 : decode cX7_shareOneEach 55 = .ok (.lconst 1, 1) := by decide +kernel
theorem dX7_shareOneEach_56 : decode cX7_shareOneEach 56 = .ok (.lsub, 1) := by decide +kernel
theorem dX7_shareOneEach_57 : decode cX7_shareOneEach 57 = .ok (.lstore 4, 2) := by decide +kernel
theorem dX7_shareOneEach_59 : decode cX7_shareOneEach 59 = .ok (.iinc 6 1, 3) := by decide +kernel
theorem dX7_shareOneEach_62 : decode cX7_shareOneEach 62 = .ok (.goto (-56), 3) := by decide +kernel
theorem dX7_shareOneEach_65 : decode cX7_shareOneEach 65 = .ok (.return_, 1) := by decide +kernel
theorem dJ9_floorDiv_f86c9_0 : decode cJ9_floorDiv_f86c9 0 = .ok (.lload_n 0, 1) := by decide +kernel
theorem dJ9_floorDiv_f86c9_1 : decode cJ9_floorDiv_f86c9 1 = .ok (.lload_n 2, 1) := by decide +kernel
theorem dJ9_floorDiv_f86c9_2 : decode cJ9_floorDiv_f86c9 2 = .ok (.ldiv, 1) := by decide +kernel
theorem dJ9_floorDiv_f86c9_3 : decode cJ9_floorDiv_f86c9 3 = .ok (.lstore 4, 2) := by decide +kernel
theorem dJ9_floorDiv_f86c9_5 : decode cJ9_floorDiv_f86c9 5 = .ok (.lload_n 0, 1) := by decide +kernel
theorem dJ9_floorDiv_f86c9_6 : decode cJ9_floorDiv_f86c9 6 = .ok (.lload_n 2, 1) := by decide +kernel
theorem dJ9_floorDiv_f86c9_7 : decode cJ9_floorDiv_f86c9 7 = .ok (.lxor, 1) := by decide +kernel
theorem dJ9_floorDiv_f86c9_8 : decode cJ9_floorDiv_f86c9 8 = .ok (.lconst 0, 1) := by decide +kernel
theorem dJ9_floorDiv_f86c9_9 : decode cJ9_floorDiv_f86c9 9 = .ok (.lcmp, 1) := by decide +kernel
theorem dJ9_floorDiv_f86c9_10 : decode cJ9_floorDiv_f86c9 10 = .ok (.ifCond .ge 17, 3) := by decide +kernel
theorem dJ9_floorDiv_f86c9_13 : decode cJ9_floorDiv_f86c9 13 = .ok (.lload 4, 2) := by decide +kernel
theorem dJ9_floorDiv_f86c9_15 : decode cJ9_floorDiv_f86c9 15 = .ok (.lload_n 2, 1) := by decide +kernel
theorem dJ9_floorDiv_f86c9_16 : decode cJ9_floorDiv_f86c9 16 = .ok (.lmul, 1) := by decide +kernel
theorem dJ9_floorDiv_f86c9_17 : decode cJ9_floorDiv_f86c9 17 = .ok (.lload_n 0, 1) := by decide +kernel
theorem dJ9_floorDiv_f86c9_18 : decode cJ9_floorDiv_f86c9 18 = .ok (.lcmp, 1) := by decide +kernel
theorem dJ9_floorDiv_f86c9_19 : decode cJ9_floorDiv_f86c9 19 = .ok (.ifCond .eq 8, 3) := by decide +kernel
theorem dJ9_floorDiv_f86c9_22 : decode cJ9_floorDiv_f86c9 22 = .ok (.lload 4, 2) := by decide +kernel
theorem dJ9_floorDiv_f86c9_24 : decode cJ9_floorDiv_f86c9 24 = .ok (.lconst 1, 1) := by decide +kernel
theorem dJ9_floorDiv_f86c9_25 : decode cJ9_floorDiv_f86c9 25 = .ok (.lsub, 1) := by decide +kernel
theorem dJ9_floorDiv_f86c9_26 : decode cJ9_floorDiv_f86c9 26 = .ok (.lreturn, 1) := by decide +kernel
theorem dJ9_floorDiv_f86c9_27 : decode cJ9_floorDiv_f86c9 27 = .ok (.lload 4, 2) := by decide +kernel
theorem dJ9_floorDiv_f86c9_29 : decode cJ9_floorDiv_f86c9 29 = .ok (.lreturn, 1) := by decide +kernel
theorem dJ9_max_7cf53_0 : decode cJ9_max_7cf53 0 = .ok (.iload_n 0, 1) := by decide +kernel
theorem dJ9_max_7cf53_1 : decode cJ9_max_7cf53 1 = .ok (.iload_n 1, 1) := by decide +kernel
theorem dJ9_max_7cf53_2 : decode cJ9_max_7cf53 2 = .ok (.if_icmp .lt 7, 3) := by decide +kernel
theorem dJ9_max_7cf53_5 : decode cJ9_max_7cf53 5 = .ok (.iload_n 0, 1) := by decide +kernel
theorem dJ9_max_7cf53_6 : decode cJ9_max_7cf53 6 = .ok (.goto 4, 3) := by decide +kernel
theorem dJ9_max_7cf53_9 : decode cJ9_max_7cf53 9 = .ok (.iload_n 1, 1) := by decide +kernel
theorem dJ9_max_7cf53_10 : decode cJ9_max_7cf53 10 = .ok (.ireturn, 1) := by decide +kernel
theorem dJ9_max_f86c9_0 : decode cJ9_max_f86c9 0 = .ok (.lload_n 0, 1) := by decide +kernel
theorem dJ9_max_f86c9_1 : decode cJ9_max_f86c9 1 = .ok (.lload_n 2, 1) := by decide +kernel
theorem dJ9_max_f86c9_2 : decode cJ9_max_f86c9 2 = .ok (.lcmp, 1) := by decide +kernel
theorem dJ9_max_f86c9_3 : decode cJ9_max_f86c9 3 = .ok (.ifCond .lt 7, 3) := by decide +kernel
theorem dJ9_max_f86c9_6 : decode cJ9_max_f86c9 6 = .ok (.lload_n 0, 1) := by decide +kernel
theorem dJ9_max_f86c9_7 : decode cJ9_max_f86c9 7 = .ok (.goto 4, 3) := by decide +kernel
theorem dJ9_max_f86c9_10 : decode cJ9_max_f86c9 10 = .ok (.lload_n 2, 1) := by decide +kernel
theorem dJ9_max_f86c9_11 : decode cJ9_max_f86c9 11 = .ok (.lreturn, 1) := by decide +kernel
theorem dJ9_min_7cf53_0 : decode cJ9_min_7cf53 0 = .ok (.iload_n 0, 1) := by decide +kernel
theorem dJ9_min_7cf53_1 : decode cJ9_min_7cf53 1 = .ok (.iload_n 1, 1) := by decide +kernel
theorem dJ9_min_7cf53_2 : decode cJ9_min_7cf53 2 = .ok (.if_icmp .gt 7, 3) := by decide +kernel
theorem dJ9_min_7cf53_5 : decode cJ9_min_7cf53 5 = .ok (.iload_n 0, 1) := by decide +kernel
theorem dJ9_min_7cf53_6 : decode cJ9_min_7cf53 6 = .ok (.goto 4, 3) := by decide +kernel
theorem dJ9_min_7cf53_9 : decode cJ9_min_7cf53 9 = .ok (.iload_n 1, 1) := by decide +kernel
theorem dJ9_min_7cf53_10 : decode cJ9_min_7cf53 10 = .ok (.ireturn, 1) := by decide +kernel
theorem dJ9_min_f86c9_0 : decode cJ9_min_f86c9 0 = .ok (.lload_n 0, 1) := by decide +kernel
theorem dJ9_min_f86c9_1 : decode cJ9_min_f86c9 1 = .ok (.lload_n 2, 1) := by decide +kernel
theorem dJ9_min_f86c9_2 : decode cJ9_min_f86c9 2 = .ok (.lcmp, 1) := by decide +kernel
theorem dJ9_min_f86c9_3 : decode cJ9_min_f86c9 3 = .ok (.ifCond .gt 7, 3) := by decide +kernel
theorem dJ9_min_f86c9_6 : decode cJ9_min_f86c9 6 = .ok (.lload_n 0, 1) := by decide +kernel
theorem dJ9_min_f86c9_7 : decode cJ9_min_f86c9 7 = .ok (.goto 4, 3) := by decide +kernel
theorem dJ9_min_f86c9_10 : decode cJ9_min_f86c9 10 = .ok (.lload_n 2, 1) := by decide +kernel
theorem dJ9_min_f86c9_11 : decode cJ9_min_f86c9 11 = .ok (.lreturn, 1) := by decide +kernel
theorem dJ7_fill_53178_0 : decode cJ7_fill_53178 0 = .ok (.iconst 0, 1) := by decide +kernel
theorem dJ7_fill_53178_1 : decode cJ7_fill_53178 1 = .ok (.istore_n 2, 1) := by decide +kernel
theorem dJ7_fill_53178_2 : decode cJ7_fill_53178 2 = .ok (.aload_n 0, 1) := by decide +kernel
theorem dJ7_fill_53178_3 : decode cJ7_fill_53178 3 = .ok (.arraylength, 1) := by decide +kernel
theorem dJ7_fill_53178_4 : decode cJ7_fill_53178 4 = .ok (.istore_n 3, 1) := by decide +kernel
theorem dJ7_fill_53178_5 : decode cJ7_fill_53178 5 = .ok (.iload_n 2, 1) := by decide +kernel
theorem dJ7_fill_53178_6 : decode cJ7_fill_53178 6 = .ok (.iload_n 3, 1) := by decide +kernel
theorem dJ7_fill_53178_7 : decode cJ7_fill_53178 7 = .ok (.if_icmp .ge 13, 3) := by decide +kernel
theorem dJ7_fill_53178_10 : decode cJ7_fill_53178 10 = .ok (.aload_n 0, 1) := by decide +kernel
theorem dJ7_fill_53178_11 : decode cJ7_fill_53178 11 = .ok (.iload_n 2, 1) := by decide +kernel
theorem dJ7_fill_53178_12 : decode cJ7_fill_53178 12 = .ok (.iload_n 1, 1) := by decide +kernel
theorem dJ7_fill_53178_13 : decode cJ7_fill_53178 13 = .ok (.iastore, 1) := by decide +kernel
theorem dJ7_fill_53178_14 : decode cJ7_fill_53178 14 = .ok (.iinc 2 1, 3) := by decide +kernel
theorem dJ7_fill_53178_17 : decode cJ7_fill_53178 17 = .ok (.goto (-12), 3) := by decide +kernel
theorem dJ7_fill_53178_20 : decode cJ7_fill_53178 20 = .ok (.return_, 1) := by decide +kernel
