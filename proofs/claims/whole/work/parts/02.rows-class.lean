abbrev vwCl : List vw_C := [(RX0, TX0, 3), (RX1, TX1, 6), (RX2, TX2, 2), (RX3, TX3, 3), (RX4, TX4, 11)]
theorem dX0_init_0 : decode cX0_init 0 = .ok (.aload_n 0, 1) := by decide +kernel
theorem dX0_init_1 : decode cX0_init 1 = .ok (.invokespecial 3, 3) := by decide +kernel
theorem dX0_init_4 : decode cX0_init 4 = .ok (.aload_n 0, 1) := by decide +kernel
theorem dX0_init_5 : decode cX0_init 5 = .ok (.bipush 20, 2) := by decide +kernel
theorem dX0_init_7 : decode cX0_init 7 = .ok (.newarray .int, 2) := by decide +kernel
theorem dX0_init_9 : decode cX0_init 9 = .ok (.putfield 9, 3) := by decide +kernel
theorem dX0_init_12 : decode cX0_init 12 = .ok (.aload_n 0, 1) := by decide +kernel
theorem dX0_init_13 : decode cX0_init 13 = .ok (.bipush 20, 2) := by decide +kernel
theorem dX0_init_15 : decode cX0_init 15 = .ok (.newarray .int, 2) := by decide +kernel
theorem dX0_init_17 : decode cX0_init 17 = .ok (.putfield 15, 3) := by decide +kernel
theorem dX0_init_20 : decode cX0_init 20 = .ok (.return_, 1) := by decide +kernel
theorem dX0_placeOf_0 : decode cX0_placeOf 0 = .ok (.aload_n 0, 1) := by decide +kernel
theorem dX0_placeOf_1 : decode cX0_placeOf 1 = .ok (.getfield 18, 3) := by decide +kernel
theorem dX0_placeOf_4 : decode cX0_placeOf 4 = .ok (.iconst 1, 1) := by decide +kernel
theorem dX0_placeOf_5 : decode cX0_placeOf 5 = .ok (.isub, 1) := by decide +kernel
theorem dX0_placeOf_6 : decode cX0_placeOf 6 = .ok (.istore_n 2, 1) := by decide +kernel
theorem dX0_placeOf_7 : decode cX0_placeOf 7 = .ok (.iload_n 2, 1) := by decide +kernel
theorem dX0_placeOf_8 : decode cX0_placeOf 8 = .ok (.ifCond .lt 19, 3) := by decide +kernel
theorem dX0_placeOf_11 : decode cX0_placeOf 11 = .ok (.aload_n 0, 1) := by decide +kernel
theorem dX0_placeOf_12 : decode cX0_placeOf 12 = .ok (.getfield 9, 3) := by decide +kernel
theorem dX0_placeOf_15 : decode cX0_placeOf 15 = .ok (.iload_n 2, 1) := by decide +kernel
theorem dX0_placeOf_16 : decode cX0_placeOf 16 = .ok (.iaload, 1) := by decide +kernel
theorem dX0_placeOf_17 : decode cX0_placeOf 17 = .ok (.iload_n 1, 1) := by decide +kernel
theorem dX0_placeOf_18 : decode cX0_placeOf 18 = .ok (.if_icmp .eq 9, 3) := by decide +kernel
theorem dX0_placeOf_21 : decode cX0_placeOf 21 = .ok (.iinc 2 (-1), 3) := by decide +kernel
theorem dX0_placeOf_24 : decode cX0_placeOf 24 = .ok (.goto (-17), 3) := by decide +kernel
theorem dX0_placeOf_27 : decode cX0_placeOf 27 = .ok (.iload_n 2, 1) := by decide +kernel
theorem dX0_placeOf_28 : decode cX0_placeOf 28 = .ok (.ireturn, 1) := by decide +kernel
set_option maxRecDepth 20000 in
theorem ggX0_put_X0_placeOf : GoodIn wsX0_put wsX0_placeOf := goodIn_r _ [8, 1, 2, 9, 10, 11] (by decide +kernel) (by decide +kernel)
set_option maxRecDepth 20000 in
theorem gX0_put_X0_placeOf : GoodIn wsX0_put (wsV RX0 22 RX0 yX0_placeOf wsX0_placeOf) := goodIn_app (goodIn_of _ (by decide +kernel)) ggX0_put_X0_placeOf
theorem dX0_put_0 : decode cX0_put 0 = .ok (.aload_n 0, 1) := by decide +kernel
theorem dX0_put_1 : decode cX0_put 1 = .ok (.iload_n 1, 1) := by decide +kernel
theorem dX0_put_2 : decode cX0_put 2 = .ok (.invokevirtual 22, 3) := by decide +kernel
theorem dX0_put_5 : decode cX0_put 5 = .ok (.istore_n 3, 1) := by decide +kernel
theorem dX0_put_6 : decode cX0_put 6 = .ok (.iload_n 3, 1) := by decide +kernel
theorem dX0_put_7 : decode cX0_put 7 = .ok (.ifCond .ge 30, 3) := by decide +kernel
theorem dX0_put_10 : decode cX0_put 10 = .ok (.aload_n 0, 1) := by decide +kernel
theorem dX0_put_11 : decode cX0_put 11 = .ok (.getfield 18, 3) := by decide +kernel
theorem dX0_put_14 : decode cX0_put 14 = .ok (.bipush 20, 2) := by decide +kernel
theorem dX0_put_16 : decode cX0_put 16 = .ok (.if_icmp .lt 6, 3) := by decide +kernel
theorem dX0_put_19 : decode cX0_put 19 = .ok (.bipush (-4), 2) := by decide +kernel
theorem dX0_put_21 : decode cX0_put 21 = .ok (.ireturn, 1) := by decide +kernel
theorem dX0_put_22 : decode cX0_put 22 = .ok (.aload_n 0, 1) := by decide +kernel
theorem dX0_put_23 : decode cX0_put 23 = .ok (.getfield 18, 3) := by decide +kernel
theorem dX0_put_26 : decode cX0_put 26 = .ok (.istore_n 3, 1) := by decide +kernel
theorem dX0_put_27 : decode cX0_put 27 = .ok (.aload_n 0, 1) := by decide +kernel
theorem dX0_put_28 : decode cX0_put 28 = .ok (.dup, 1) := by decide +kernel
theorem dX0_put_29 : decode cX0_put 29 = .ok (.getfield 18, 3) := by decide +kernel
theorem dX0_put_32 : decode cX0_put 32 = .ok (.iconst 1, 1) := by decide +kernel
theorem dX0_put_33 : decode cX0_put 33 = .ok (.iadd, 1) := by decide +kernel
theorem dX0_put_34 : decode cX0_put 34 = .ok (.putfield 18, 3) := by decide +kernel
theorem dX0_put_37 : decode cX0_put 37 = .ok (.aload_n 0, 1) := by decide +kernel
theorem dX0_put_38 : decode cX0_put 38 = .ok (.getfield 9, 3) := by decide +kernel
theorem dX0_put_41 : decode cX0_put 41 = .ok (.iload_n 3, 1) := by decide +kernel
theorem dX0_put_42 : decode cX0_put 42 = .ok (.iload_n 1, 1) := by decide +kernel
theorem dX0_put_43 : decode cX0_put 43 = .ok (.iastore, 1) := by decide +kernel
theorem dX0_put_44 : decode cX0_put 44 = .ok (.aload_n 0, 1) := by decide +kernel
theorem dX0_put_45 : decode cX0_put 45 = .ok (.getfield 15, 3) := by decide +kernel
theorem dX0_put_48 : decode cX0_put 48 = .ok (.iload_n 3, 1) := by decide +kernel
theorem dX0_put_49 : decode cX0_put 49 = .ok (.iload_n 2, 1) := by decide +kernel
theorem dX0_put_50 : decode cX0_put 50 = .ok (.iastore, 1) := by decide +kernel
theorem dX0_put_51 : decode cX0_put 51 = .ok (.aload_n 0, 1) := by decide +kernel
theorem dX0_put_52 : decode cX0_put 52 = .ok (.getfield 18, 3) := by decide +kernel
theorem dX0_put_55 : decode cX0_put 55 = .ok (.ireturn, 1) := by decide +kernel
set_option maxRecDepth 20000 in
theorem ggX0_remove_X0_placeOf : GoodIn wsX0_remove wsX0_placeOf := goodIn_r _ [8, 1, 2, 9, 10, 11] (by decide +kernel) (by decide +kernel)
set_option maxRecDepth 20000 in
theorem gX0_remove_X0_placeOf : GoodIn wsX0_remove (wsV RX0 22 RX0 yX0_placeOf wsX0_placeOf) := goodIn_app (goodIn_of _ (by decide +kernel)) ggX0_remove_X0_placeOf
theorem dX0_remove_0 : decode cX0_remove 0 = .ok (.aload_n 0, 1) := by decide +kernel
theorem dX0_remove_1 : decode cX0_remove 1 = .ok (.iload_n 1, 1) := by decide +kernel
theorem dX0_remove_2 : decode cX0_remove 2 = .ok (.invokevirtual 22, 3) := by decide +kernel
theorem dX0_remove_5 : decode cX0_remove 5 = .ok (.istore_n 2, 1) := by decide +kernel
theorem dX0_remove_6 : decode cX0_remove 6 = .ok (.iload_n 2, 1) := by decide +kernel
theorem dX0_remove_7 : decode cX0_remove 7 = .ok (.ifCond .lt 43, 3) := by decide +kernel
theorem dX0_remove_10 : decode cX0_remove 10 = .ok (.aload_n 0, 1) := by decide +kernel
theorem dX0_remove_11 : decode cX0_remove 11 = .ok (.dup, 1) := by decide +kernel
theorem dX0_remove_12 : decode cX0_remove 12 = .ok (.getfield 18, 3) := by decide +kernel
theorem dX0_remove_15 : decode cX0_remove 15 = .ok (.iconst 1, 1) := by decide +kernel
theorem dX0_remove_16 : decode cX0_remove 16 = .ok (.isub, 1) := by decide +kernel
theorem dX0_remove_17 : decode cX0_remove 17 = .ok (.putfield 18, 3) := by decide +kernel
theorem dX0_remove_20 : decode cX0_remove 20 = .ok (.aload_n 0, 1) := by decide +kernel
theorem dX0_remove_21 : decode cX0_remove 21 = .ok (.getfield 9, 3) := by decide +kernel
theorem dX0_remove_24 : decode cX0_remove 24 = .ok (.iload_n 2, 1) := by decide +kernel
theorem dX0_remove_25 : decode cX0_remove 25 = .ok (.aload_n 0, 1) := by decide +kernel
theorem dX0_remove_26 : decode cX0_remove 26 = .ok (.getfield 9, 3) := by decide +kernel
theorem dX0_remove_29 : decode cX0_remove 29 = .ok (.aload_n 0, 1) := by decide +kernel
theorem dX0_remove_30 : decode cX0_remove 30 = .ok (.getfield 18, 3) := by decide +kernel
theorem dX0_remove_33 : decode cX0_remove 33 = .ok (.iaload, 1) := by decide +kernel
theorem dX0_remove_34 : decode cX0_remove 34 = .ok (.iastore, 1) := by decide +kernel
theorem dX0_remove_35 : decode cX0_remove 35 = .ok (.aload_n 0, 1) := by decide +kernel
theorem dX0_remove_36 : decode cX0_remove 36 = .ok (.getfield 15, 3) := by decide +kernel
theorem dX0_remove_39 : decode cX0_remove 39 = .ok (.iload_n 2, 1) := by decide +kernel
theorem dX0_remove_40 : decode cX0_remove 40 = .ok (.aload_n 0, 1) := by decide +kernel
theorem dX0_remove_41 : decode cX0_remove 41 = .ok (.getfield 15, 3) := by decide +kernel
theorem dX0_remove_44 : decode cX0_remove 44 = .ok (.aload_n 0, 1) := by decide +kernel
theorem dX0_remove_45 : decode cX0_remove 45 = .ok (.getfield 18, 3) := by decide +kernel
theorem dX0_remove_48 : decode cX0_remove 48 = .ok (.iaload, 1) := by decide +kernel
theorem dX0_remove_49 : decode cX0_remove 49 = .ok (.iastore, 1) := by decide +kernel
theorem dX0_remove_50 : decode cX0_remove 50 = .ok (.aload_n 0, 1) := by decide +kernel
theorem dX0_remove_51 : decode cX0_remove 51 = .ok (.getfield 18, 3) := by decide +kernel
theorem dX0_remove_54 : decode cX0_remove 54 = .ok (.ireturn, 1) := by decide +kernel
theorem dX0_unitsUpTo_0 : decode cX0_unitsUpTo 0 = .ok (.lconst 0, 1) := by decide +kernel
theorem dX0_unitsUpTo_1 : decode cX0_unitsUpTo 1 = .ok (.lstore_n 2, 1) := by decide +kernel
theorem dX0_unitsUpTo_2 : decode cX0_unitsUpTo 2 = .ok (.iconst 0, 1) := by decide +kernel
theorem dX0_unitsUpTo_3 : decode cX0_unitsUpTo 3 = .ok (.istore 4, 2) := by decide +kernel
theorem dX0_unitsUpTo_5 : decode cX0_unitsUpTo 5 = .ok (.iload 4, 2) := by decide +kernel
theorem dX0_unitsUpTo_7 : decode cX0_unitsUpTo 7 = .ok (.aload_n 0, 1) := by decide +kernel
theorem dX0_unitsUpTo_8 : decode cX0_unitsUpTo 8 = .ok (.getfield 18, 3) := by decide +kernel
theorem dX0_unitsUpTo_11 : decode cX0_unitsUpTo 11 = .ok (.if_icmp .ge 31, 3) := by decide +kernel
theorem dX0_unitsUpTo_14 : decode cX0_unitsUpTo 14 = .ok (.aload_n 0, 1) := by decide +kernel
theorem dX0_unitsUpTo_15 : decode cX0_unitsUpTo 15 = .ok (.getfield 9, 3) := by decide +kernel
theorem dX0_unitsUpTo_18 : decode cX0_unitsUpTo 18 = .ok (.iload 4, 2) := by decide +kernel
theorem dX0_unitsUpTo_20 : decode cX0_unitsUpTo 20 = .ok (.iaload, 1) := by decide +kernel
theorem dX0_unitsUpTo_21 : decode cX0_unitsUpTo 21 = .ok (.iload_n 1, 1) := by decide +kernel
theorem dX0_unitsUpTo_22 : decode cX0_unitsUpTo 22 = .ok (.if_icmp .gt 14, 3) := by decide +kernel
theorem dX0_unitsUpTo_25 : decode cX0_unitsUpTo 25 = .ok (.lload_n 2, 1) := by decide +kernel
theorem dX0_unitsUpTo_26 : decode cX0_unitsUpTo 26 = .ok (.aload_n 0, 1) := by decide +kernel
theorem dX0_unitsUpTo_27 : decode cX0_unitsUpTo 27 = .ok (.getfield 15, 3) := by decide +kernel
theorem dX0_unitsUpTo_30 : decode cX0_unitsUpTo 30 = .ok (.iload 4, 2) := by decide +kernel
theorem dX0_unitsUpTo_32 : decode cX0_unitsUpTo 32 = .ok (.iaload, 1) := by decide +kernel
theorem dX0_unitsUpTo_33 : decode cX0_unitsUpTo 33 = .ok (.i2l, 1) := by decide +kernel
theorem dX0_unitsUpTo_34 : decode cX0_unitsUpTo 34 = .ok (.ladd, 1) := by decide +kernel
theorem dX0_unitsUpTo_35 : decode cX0_unitsUpTo 35 = .ok (.lstore_n 2, 1) := by decide +kernel
theorem dX0_unitsUpTo_36 : decode cX0_unitsUpTo 36 = .ok (.iinc 4 1, 3) := by decide +kernel
theorem dX0_unitsUpTo_39 : decode cX0_unitsUpTo 39 = .ok (.goto (-34), 3) := by decide +kernel
theorem dX0_unitsUpTo_42 : decode cX0_unitsUpTo 42 = .ok (.lload_n 2, 1) := by decide +kernel
theorem dX0_unitsUpTo_43 : decode cX0_unitsUpTo 43 = .ok (.lreturn, 1) := by decide +kernel
theorem dX1_init_0 : decode cX1_init 0 = .ok (.aload_n 0, 1) := by decide +kernel
theorem dX1_init_1 : decode cX1_init 1 = .ok (.invokespecial 3, 3) := by decide +kernel
theorem dX1_init_4 : decode cX1_init 4 = .ok (.aload_n 0, 1) := by decide +kernel
theorem dX1_init_5 : decode cX1_init 5 = .ok (.bipush 40, 2) := by decide +kernel
theorem dX1_init_7 : decode cX1_init 7 = .ok (.newarray .int, 2) := by decide +kernel
theorem dX1_init_9 : decode cX1_init 9 = .ok (.putfield 9, 3) := by decide +kernel
theorem dX1_init_12 : decode cX1_init 12 = .ok (.aload_n 0, 1) := by decide +kernel
theorem dX1_init_13 : decode cX1_init 13 = .ok (.bipush 40, 2) := by decide +kernel
theorem dX1_init_15 : decode cX1_init 15 = .ok (.newarray .int, 2) := by decide +kernel
theorem dX1_init_17 : decode cX1_init 17 = .ok (.putfield 15, 3) := by decide +kernel
theorem dX1_init_20 : decode cX1_init 20 = .ok (.aload_n 0, 1) := by decide +kernel
theorem dX1_init_21 : decode cX1_init 21 = .ok (.bipush 40, 2) := by decide +kernel
theorem dX1_init_23 : decode cX1_init 23 = .ok (.newarray .int, 2) := by decide +kernel
theorem dX1_init_25 : decode cX1_init 25 = .ok (.putfield 18, 3) := by decide +kernel
theorem dX1_init_28 : decode cX1_init 28 = .ok (.aload_n 0, 1) := by decide +kernel
theorem dX1_init_29 : decode cX1_init 29 = .ok (.bipush 40, 2) := by decide +kernel
theorem dX1_init_31 : decode cX1_init 31 = .ok (.newarray .int, 2) := by decide +kernel
theorem dX1_init_33 : decode cX1_init 33 = .ok (.putfield 21, 3) := by decide +kernel
theorem dX1_init_36 : decode cX1_init 36 = .ok (.aload_n 0, 1) := by decide +kernel
theorem dX1_init_37 : decode cX1_init 37 = .ok (.bipush 40, 2) := by decide +kernel
theorem dX1_init_39 : decode cX1_init 39 = .ok (.newarray .long, 2) := by decide +kernel
theorem dX1_init_41 : decode cX1_init 41 = .ok (.putfield 24, 3) := by decide +kernel
theorem dX1_init_44 : decode cX1_init 44 = .ok (.return_, 1) := by decide +kernel
theorem dX1_placeOf_0 : decode cX1_placeOf 0 = .ok (.aload_n 0, 1) := by decide +kernel
theorem dX1_placeOf_1 : decode cX1_placeOf 1 = .ok (.getfield 28, 3) := by decide +kernel
theorem dX1_placeOf_4 : decode cX1_placeOf 4 = .ok (.iconst 1, 1) := by decide +kernel
theorem dX1_placeOf_5 : decode cX1_placeOf 5 = .ok (.isub, 1) := by decide +kernel
theorem dX1_placeOf_6 : decode cX1_placeOf 6 = .ok (.istore_n 2, 1) := by decide +kernel
theorem dX1_placeOf_7 : decode cX1_placeOf 7 = .ok (.iload_n 2, 1) := by decide +kernel
theorem dX1_placeOf_8 : decode cX1_placeOf 8 = .ok (.ifCond .lt 19, 3) := by decide +kernel
theorem dX1_placeOf_11 : decode cX1_placeOf 11 = .ok (.aload_n 0, 1) := by decide +kernel
theorem dX1_placeOf_12 : decode cX1_placeOf 12 = .ok (.getfield 9, 3) := by decide +kernel
theorem dX1_placeOf_15 : decode cX1_placeOf 15 = .ok (.iload_n 2, 1) := by decide +kernel
theorem dX1_placeOf_16 : decode cX1_placeOf 16 = .ok (.iaload, 1) := by decide +kernel
theorem dX1_placeOf_17 : decode cX1_placeOf 17 = .ok (.iload_n 1, 1) := by decide +kernel
theorem dX1_placeOf_18 : decode cX1_placeOf 18 = .ok (.if_icmp .le 9, 3) := by decide +kernel
theorem dX1_placeOf_21 : decode cX1_placeOf 21 = .ok (.iinc 2 (-1), 3) := by decide +kernel
theorem dX1_placeOf_24 : decode cX1_placeOf 24 = .ok (.goto (-17), 3) := by decide +kernel
theorem dX1_placeOf_27 : decode cX1_placeOf 27 = .ok (.iload_n 2, 1) := by decide +kernel
theorem dX1_placeOf_28 : decode cX1_placeOf 28 = .ok (.ireturn, 1) := by decide +kernel
set_option maxRecDepth 20000 in
theorem ggX1_isInsideSlope_X1_placeOf : GoodIn wsX1_isInsideSlope wsX1_placeOf := goodIn_r _ [7, 8, 1, 9, 10, 11, 12, 13, 14] (by decide +kernel) (by decide +kernel)
set_option maxRecDepth 20000 in
theorem gX1_isInsideSlope_X1_placeOf : GoodIn wsX1_isInsideSlope (wsV RX1 32 RX1 yX1_placeOf wsX1_placeOf) := goodIn_app (goodIn_of _ (by decide +kernel)) ggX1_isInsideSlope_X1_placeOf
theorem dX1_isInsideSlope_0 : decode cX1_isInsideSlope 0 = .ok (.aload_n 0, 1) := by decide +kernel
theorem dX1_isInsideSlope_1 : decode cX1_isInsideSlope 1 = .ok (.iload_n 1, 1) := by decide +kernel
theorem dX1_isInsideSlope_2 : decode cX1_isInsideSlope 2 = .ok (.invokevirtual 32, 3) := by decide +kernel
theorem dX1_isInsideSlope_5 : decode cX1_isInsideSlope 5 = .ok (.istore_n 2, 1) := by decide +kernel
theorem dX1_isInsideSlope_6 : decode cX1_isInsideSlope 6 = .ok (.iload_n 2, 1) := by decide +kernel
theorem dX1_isInsideSlope_7 : decode cX1_isInsideSlope 7 = .ok (.ifCond .lt 34, 3) := by decide +kernel
theorem dX1_isInsideSlope_10 : decode cX1_isInsideSlope 10 = .ok (.aload_n 0, 1) := by decide +kernel
theorem dX1_isInsideSlope_11 : decode cX1_isInsideSlope 11 = .ok (.getfield 9, 3) := by decide +kernel
theorem dX1_isInsideSlope_14 : decode cX1_isInsideSlope 14 = .ok (.iload_n 2, 1) := by decide +kernel
theorem dX1_isInsideSlope_15 : decode cX1_isInsideSlope 15 = .ok (.iaload, 1) := by decide +kernel
theorem dX1_isInsideSlope_16 : decode cX1_isInsideSlope 16 = .ok (.iload_n 1, 1) := by decide +kernel
theorem dX1_isInsideSlope_17 : decode cX1_isInsideSlope 17 = .ok (.if_icmp .ge 24, 3) := by decide +kernel
theorem dX1_isInsideSlope_20 : decode cX1_isInsideSlope 20 = .ok (.iload_n 1, 1) := by decide +kernel
theorem dX1_isInsideSlope_21 : decode cX1_isInsideSlope 21 = .ok (.aload_n 0, 1) := by decide +kernel
theorem dX1_isInsideSlope_22 : decode cX1_isInsideSlope 22 = .ok (.getfield 9, 3) := by decide +kernel
theorem dX1_isInsideSlope_25 : decode cX1_isInsideSlope 25 = .ok (.iload_n 2, 1) := by decide +kernel
theorem dX1_isInsideSlope_26 : decode cX1_isInsideSlope 26 = .ok (.iaload, 1) := by decide +kernel
theorem dX1_isInsideSlope_27 : decode cX1_isInsideSlope 27 = .ok (.isub, 1) := by decide +kernel
theorem dX1_isInsideSlope_28 : decode cX1_isInsideSlope 28 = .ok (.aload_n 0, 1) := by decide +kernel
theorem dX1_isInsideSlope_29 : decode cX1_isInsideSlope 29 = .ok (.getfield 15, 3) := by decide +kernel
theorem dX1_isInsideSlope_32 : decode cX1_isInsideSlope 32 = .ok (.iload_n 2, 1) := by decide +kernel
theorem dX1_isInsideSlope_33 : decode cX1_isInsideSlope 33 = .ok (.iaload, 1) := by decide +kernel
theorem dX1_isInsideSlope_34 : decode cX1_isInsideSlope 34 = .ok (.if_icmp .ge 7, 3) := by decide +kernel
theorem dX1_isInsideSlope_37 : decode cX1_isInsideSlope 37 = .ok (.iconst 1, 1) := by decide +kernel
theorem dX1_isInsideSlope_38 : decode cX1_isInsideSlope 38 = .ok (.goto 4, 3) := by decide +kernel
theorem dX1_isInsideSlope_41 : decode cX1_isInsideSlope 41 = .ok (.iconst 0, 1) := by decide +kernel
theorem dX1_isInsideSlope_42 : decode cX1_isInsideSlope 42 = .ok (.ireturn, 1) := by decide +kernel
set_option maxRecDepth 20000 in
theorem ggX1_isAnyBetween_X1_placeOf : GoodIn wsX1_isAnyBetween wsX1_placeOf := goodIn_r _ [6, 7, 1, 8, 9, 10, 11, 12, 13] (by decide +kernel) (by decide +kernel)
set_option maxRecDepth 20000 in
theorem gX1_isAnyBetween_X1_placeOf : GoodIn wsX1_isAnyBetween (wsV RX1 32 RX1 yX1_placeOf wsX1_placeOf) := goodIn_app (goodIn_of _ (by decide +kernel)) ggX1_isAnyBetween_X1_placeOf
theorem dX1_isAnyBetween_0 : decode cX1_isAnyBetween 0 = .ok (.aload_n 0, 1) := by decide +kernel
theorem dX1_isAnyBetween_1 : decode cX1_isAnyBetween 1 = .ok (.iload_n 2, 1) := by decide +kernel
theorem dX1_isAnyBetween_2 : decode cX1_isAnyBetween 2 = .ok (.iconst 1, 1) := by decide +kernel
theorem dX1_isAnyBetween_3 : decode cX1_isAnyBetween 3 = .ok (.isub, 1) := by decide +kernel
theorem dX1_isAnyBetween_4 : decode cX1_isAnyBetween 4 = .ok (.invokevirtual 32, 3) := by decide +kernel
theorem dX1_isAnyBetween_7 : decode cX1_isAnyBetween 7 = .ok (.istore_n 3, 1) := by decide +kernel
theorem dX1_isAnyBetween_8 : decode cX1_isAnyBetween 8 = .ok (.iload_n 3, 1) := by decide +kernel
theorem dX1_isAnyBetween_9 : decode cX1_isAnyBetween 9 = .ok (.ifCond .lt 17, 3) := by decide +kernel
theorem dX1_isAnyBetween_12 : decode cX1_isAnyBetween 12 = .ok (.aload_n 0, 1) := by decide +kernel
theorem dX1_isAnyBetween_13 : decode cX1_isAnyBetween 13 = .ok (.getfield 9, 3) := by decide +kernel
theorem dX1_isAnyBetween_16 : decode cX1_isAnyBetween 16 = .ok (.iload_n 3, 1) := by decide +kernel
theorem dX1_isAnyBetween_17 : decode cX1_isAnyBetween 17 = .ok (.iaload, 1) := by decide +kernel
theorem dX1_isAnyBetween_18 : decode cX1_isAnyBetween 18 = .ok (.iload_n 1, 1) := by decide +kernel
theorem dX1_isAnyBetween_19 : decode cX1_isAnyBetween 19 = .ok (.if_icmp .le 7, 3) := by decide +kernel
theorem dX1_isAnyBetween_22 : decode cX1_isAnyBetween 22 = .ok (.iconst 1, 1) := by decide +kernel
theorem dX1_isAnyBetween_23 : decode cX1_isAnyBetween 23 = .ok (.goto 4, 3) := by decide +kernel
theorem dX1_isAnyBetween_26 : decode cX1_isAnyBetween 26 = .ok (.iconst 0, 1) := by decide +kernel
theorem dX1_isAnyBetween_27 : decode cX1_isAnyBetween 27 = .ok (.ireturn, 1) := by decide +kernel
theorem dX1_tell_0 : decode cX1_tell 0 = .ok (.iload_n 1, 1) := by decide +kernel
theorem dX1_tell_1 : decode cX1_tell 1 = .ok (.ifCond .lt 11, 3) := by decide +kernel
theorem dX1_tell_4 : decode cX1_tell 4 = .ok (.iload_n 1, 1) := by decide +kernel
theorem dX1_tell_5 : decode cX1_tell 5 = .ok (.aload_n 0, 1) := by decide +kernel
theorem dX1_tell_6 : decode cX1_tell 6 = .ok (.getfield 28, 3) := by decide +kernel
theorem dX1_tell_9 : decode cX1_tell 9 = .ok (.if_icmp .lt 5, 3) := by decide +kernel
theorem dX1_tell_12 : decode cX1_tell 12 = .ok (.iconst (-1), 1) := by decide +kernel
theorem dX1_tell_13 : decode cX1_tell 13 = .ok (.ireturn, 1) := by decide +kernel
theorem dX1_tell_14 : decode cX1_tell 14 = .ok (.iload_n 2, 1) := by decide +kernel
theorem dX1_tell_15 : decode cX1_tell 15 = .ok (.tableswitch 65 0 3 #[29, 36, 51, 58], 29) := by decide +kernel
theorem dX1_tell_44 : decode cX1_tell 44 = .ok (.aload_n 0, 1) := by decide +kernel
theorem dX1_tell_45 : decode cX1_tell 45 = .ok (.getfield 9, 3) := by decide +kernel
theorem dX1_tell_48 : decode cX1_tell 48 = .ok (.iload_n 1, 1) := by decide +kernel
theorem dX1_tell_49 : decode cX1_tell 49 = .ok (.iaload, 1) := by decide +kernel
theorem dX1_tell_50 : decode cX1_tell 50 = .ok (.ireturn, 1) := by decide +kernel
theorem dX1_tell_51 : decode cX1_tell 51 = .ok (.aload_n 0, 1) := by decide +kernel
theorem dX1_tell_52 : decode cX1_tell 52 = .ok (.getfield 15, 3) := by decide +kernel
theorem dX1_tell_55 : decode cX1_tell 55 = .ok (.iload_n 1, 1) := by decide +kernel
theorem dX1_tell_56 : decode cX1_tell 56 = .ok (.iaload, 1) := by decide +kernel
theorem dX1_tell_57 : decode cX1_tell 57 = .ok (.ifCond .le 7, 3) := by decide +kernel
theorem dX1_tell_60 : decode cX1_tell 60 = .ok (.iconst 1, 1) := by decide +kernel
theorem dX1_tell_61 : decode cX1_tell 61 = .ok (.goto 4, 3) := by decide +kernel
theorem dX1_tell_64 : decode cX1_tell 64 = .ok (.iconst 0, 1) := by decide +kernel
theorem dX1_tell_65 : decode cX1_tell 65 = .ok (.ireturn, 1) := by decide +kernel
theorem dX1_tell_66 : decode cX1_tell 66 = .ok (.aload_n 0, 1) := by decide +kernel
theorem dX1_tell_67 : decode cX1_tell 67 = .ok (.getfield 18, 3) := by decide +kernel
theorem dX1_tell_70 : decode cX1_tell 70 = .ok (.iload_n 1, 1) := by decide +kernel
theorem dX1_tell_71 : decode cX1_tell 71 = .ok (.iaload, 1) := by decide +kernel
theorem dX1_tell_72 : decode cX1_tell 72 = .ok (.ireturn, 1) := by decide +kernel
theorem dX1_tell_73 : decode cX1_tell 73 = .ok (.aload_n 0, 1) := by decide +kernel
theorem dX1_tell_74 : decode cX1_tell 74 = .ok (.getfield 21, 3) := by decide +kernel
theorem dX1_tell_77 : decode cX1_tell 77 = .ok (.iload_n 1, 1) := by decide +kernel
theorem dX1_tell_78 : decode cX1_tell 78 = .ok (.iaload, 1) := by decide +kernel
theorem dX1_tell_79 : decode cX1_tell 79 = .ok (.ireturn, 1) := by decide +kernel
theorem dX1_tell_80 : decode cX1_tell 80 = .ok (.aload_n 0, 1) := by decide +kernel
theorem dX1_tell_81 : decode cX1_tell 81 = .ok (.getfield 15, 3) := by decide +kernel
theorem dX1_tell_84 : decode cX1_tell 84 = .ok (.iload_n 1, 1) := by decide +kernel
theorem dX1_tell_85 : decode cX1_tell 85 = .ok (.iaload, 1) := by decide +kernel
theorem dX1_tell_86 : decode cX1_tell 86 = .ok (.ireturn, 1) := by decide +kernel
set_option maxRecDepth 20000 in
theorem ggX1_putStep_X1_put : GoodIn wsX1_putStep wsX1_put := goodIn_r _ [5, 6, 7, 8, 9, 10, 11, 12, 13, 4, 14, 15, 16, 17, 18, 19, 20, 21, 22, 23, 24, 25, 26, 27, 28, 29, 30, 31, 32, 33, 34, 35, 36, 37, 38, 39, 40, 41, 42, 43, 44, 45, 46, 47, 48, 49, 50, 51, 52, 53] (by decide +kernel) (by decide +kernel)
set_option maxRecDepth 20000 in
theorem gX1_putStep_X1_put : GoodIn wsX1_putStep (wsV RX1 36 RX1 yX1_put wsX1_put) := goodIn_app (goodIn_of _ (by decide +kernel)) ggX1_putStep_X1_put
theorem dX1_putStep_0 : decode cX1_putStep 0 = .ok (.aload_n 0, 1) := by decide +kernel
theorem dX1_putStep_1 : decode cX1_putStep 1 = .ok (.iload_n 1, 1) := by decide +kernel
theorem dX1_putStep_2 : decode cX1_putStep 2 = .ok (.iconst 0, 1) := by decide +kernel
theorem dX1_putStep_3 : decode cX1_putStep 3 = .ok (.iload_n 2, 1) := by decide +kernel
theorem dX1_putStep_4 : decode cX1_putStep 4 = .ok (.iload_n 2, 1) := by decide +kernel
theorem dX1_putStep_5 : decode cX1_putStep 5 = .ok (.invokevirtual 36, 3) := by decide +kernel
theorem dX1_putStep_8 : decode cX1_putStep 8 = .ok (.ireturn, 1) := by decide +kernel
set_option maxRecDepth 20000 in
theorem ggX1_put_X1_placeOf : GoodIn wsX1_put wsX1_placeOf := goodIn_r _ [10, 2, 1, 44, 45, 46, 47, 48, 49] (by decide +kernel) (by decide +kernel)
set_option maxRecDepth 20000 in
theorem gX1_put_X1_placeOf : GoodIn wsX1_put (wsV RX1 32 RX1 yX1_placeOf wsX1_placeOf) := goodIn_app (goodIn_of _ (by decide +kernel)) ggX1_put_X1_placeOf
set_option maxRecDepth 20000 in
theorem ggX1_put_X1_openRow : GoodIn wsX1_put wsX1_openRow := goodIn_r _ [14, 2, 15, 16, 17, 9, 18, 1, 3, 4, 5, 44, 45, 46, 47, 48, 49] (by decide +kernel) (by decide +kernel)
set_option maxRecDepth 20000 in
theorem gX1_put_X1_openRow : GoodIn wsX1_put (wsV RX1 40 RX1 yX1_openRow wsX1_openRow) := goodIn_app (goodIn_of _ (by decide +kernel)) ggX1_put_X1_openRow
set_option maxRecDepth 20000 in
theorem ggX1_put_X1_renewUnitsBefore : GoodIn wsX1_put wsX1_renewUnitsBefore := goodIn_r _ [22, 2, 23, 1, 24, 25, 26, 9, 27, 28, 3, 29, 30, 31, 32, 5, 4, 33, 34, 35, 36, 37, 38, 39, 40, 41, 42, 43, 44, 45, 46, 47, 48, 49] (by decide +kernel) (by decide +kernel)
set_option maxRecDepth 20000 in
theorem gX1_put_X1_renewUnitsBefore : GoodIn wsX1_put (wsV RX1 44 RX1 yX1_renewUnitsBefore wsX1_renewUnitsBefore) := goodIn_app (goodIn_of _ (by decide +kernel)) ggX1_put_X1_renewUnitsBefore
theorem dX1_put_0 : decode cX1_put 0 = .ok (.aload_n 0, 1) := by decide +kernel
theorem dX1_put_1 : decode cX1_put 1 = .ok (.iload_n 1, 1) := by decide +kernel
theorem dX1_put_2 : decode cX1_put 2 = .ok (.invokevirtual 32, 3) := by decide +kernel
theorem dX1_put_5 : decode cX1_put 5 = .ok (.istore 5, 2) := by decide +kernel
theorem dX1_put_7 : decode cX1_put 7 = .ok (.iload 5, 2) := by decide +kernel
theorem dX1_put_9 : decode cX1_put 9 = .ok (.ifCond .lt 14, 3) := by decide +kernel
theorem dX1_put_12 : decode cX1_put 12 = .ok (.aload_n 0, 1) := by decide +kernel
theorem dX1_put_13 : decode cX1_put 13 = .ok (.getfield 9, 3) := by decide +kernel
theorem dX1_put_16 : decode cX1_put 16 = .ok (.iload 5, 2) := by decide +kernel
theorem dX1_put_18 : decode cX1_put 18 = .ok (.iaload, 1) := by decide +kernel
theorem dX1_put_19 : decode cX1_put 19 = .ok (.iload_n 1, 1) := by decide +kernel
theorem dX1_put_20 : decode cX1_put 20 = .ok (.if_icmp .eq 24, 3) := by decide +kernel
theorem dX1_put_23 : decode cX1_put 23 = .ok (.aload_n 0, 1) := by decide +kernel
theorem dX1_put_24 : decode cX1_put 24 = .ok (.getfield 28, 3) := by decide +kernel
theorem dX1_put_27 : decode cX1_put 27 = .ok (.bipush 40, 2) := by decide +kernel
theorem dX1_put_29 : decode cX1_put 29 = .ok (.if_icmp .lt 6, 3) := by decide +kernel
theorem dX1_put_32 : decode cX1_put 32 = .ok (.bipush (-4), 2) := by decide +kernel
theorem dX1_put_34 : decode cX1_put 34 = .ok (.ireturn, 1) := by decide +kernel
theorem dX1_put_35 : decode cX1_put 35 = .ok (.iinc 5 1, 3) := by decide +kernel
theorem dX1_put_38 : decode cX1_put 38 = .ok (.aload_n 0, 1) := by decide +kernel
theorem dX1_put_39 : decode cX1_put 39 = .ok (.iload 5, 2) := by decide +kernel
theorem dX1_put_41 : decode cX1_put 41 = .ok (.invokevirtual 40, 3) := by decide +kernel
theorem dX1_put_44 : decode cX1_put 44 = .ok (.aload_n 0, 1) := by decide +kernel
theorem dX1_put_45 : decode cX1_put 45 = .ok (.getfield 9, 3) := by decide +kernel
theorem dX1_put_48 : decode cX1_put 48 = .ok (.iload 5, 2) := by decide +kernel
theorem dX1_put_50 : decode cX1_put 50 = .ok (.iload_n 1, 1) := by decide +kernel
theorem dX1_put_51 : decode cX1_put 51 = .ok (.iastore, 1) := by decide +kernel
theorem dX1_put_52 : decode cX1_put 52 = .ok (.aload_n 0, 1) := by decide +kernel
theorem dX1_put_53 : decode cX1_put 53 = .ok (.getfield 15, 3) := by decide +kernel
theorem dX1_put_56 : decode cX1_put 56 = .ok (.iload 5, 2) := by decide +kernel
theorem dX1_put_58 : decode cX1_put 58 = .ok (.iload_n 2, 1) := by decide +kernel
theorem dX1_put_59 : decode cX1_put 59 = .ok (.iastore, 1) := by decide +kernel
theorem dX1_put_60 : decode cX1_put 60 = .ok (.aload_n 0, 1) := by decide +kernel
theorem dX1_put_61 : decode cX1_put 61 = .ok (.getfield 18, 3) := by decide +kernel
theorem dX1_put_64 : decode cX1_put 64 = .ok (.iload 5, 2) := by decide +kernel
theorem dX1_put_66 : decode cX1_put 66 = .ok (.iload_n 3, 1) := by decide +kernel
theorem dX1_put_67 : decode cX1_put 67 = .ok (.iastore, 1) := by decide +kernel
theorem dX1_put_68 : decode cX1_put 68 = .ok (.aload_n 0, 1) := by decide +kernel
theorem dX1_put_69 : decode cX1_put 69 = .ok (.getfield 21, 3) := by decide +kernel
theorem dX1_put_72 : decode cX1_put 72 = .ok (.iload 5, 2) := by decide +kernel
theorem dX1_put_74 : decode cX1_put 74 = .ok (.iload 4, 2) := by decide +kernel
theorem dX1_put_76 : decode cX1_put 76 = .ok (.iastore, 1) := by decide +kernel
theorem dX1_put_77 : decode cX1_put 77 = .ok (.aload_n 0, 1) := by decide +kernel
theorem dX1_put_78 : decode cX1_put 78 = .ok (.iload 5, 2) := by decide +kernel
theorem dX1_put_80 : decode cX1_put 80 = .ok (.invokevirtual 44, 3) := by decide +kernel
theorem dX1_put_83 : decode cX1_put 83 = .ok (.aload_n 0, 1) := by decide +kernel
theorem dX1_put_84 : decode cX1_put 84 = .ok (.getfield 28, 3) := by decide +kernel
theorem dX1_put_87 : decode cX1_put 87 = .ok (.ireturn, 1) := by decide +kernel
set_option maxRecDepth 20000 in
theorem ggX1_remove_X1_placeOf : GoodIn wsX1_remove wsX1_placeOf := goodIn_r _ [7, 2, 1, 40, 41, 42, 43, 44, 45] (by decide +kernel) (by decide +kernel)
set_option maxRecDepth 20000 in
theorem gX1_remove_X1_placeOf : GoodIn wsX1_remove (wsV RX1 32 RX1 yX1_placeOf wsX1_placeOf) := goodIn_app (goodIn_of _ (by decide +kernel)) ggX1_remove_X1_placeOf
set_option maxRecDepth 20000 in
theorem ggX1_remove_X1_copyRow : GoodIn wsX1_remove wsX1_copyRow := goodIn_r _ [11, 1, 12, 13, 14, 40, 41, 42, 43, 44, 45] (by decide +kernel) (by decide +kernel)
set_option maxRecDepth 20000 in
theorem gX1_remove_X1_copyRow : GoodIn wsX1_remove (wsV RX1 47 RX1 yX1_copyRow wsX1_copyRow) := goodIn_app (goodIn_of _ (by decide +kernel)) ggX1_remove_X1_copyRow
set_option maxRecDepth 20000 in
theorem ggX1_remove_X1_renewUnitsBefore : GoodIn wsX1_remove wsX1_renewUnitsBefore := goodIn_r _ [18, 2, 19, 1, 20, 21, 22, 6, 23, 24, 12, 25, 26, 27, 28, 14, 13, 29, 30, 31, 32, 33, 34, 35, 36, 37, 38, 39, 40, 41, 42, 43, 44, 45] (by decide +kernel) (by decide +kernel)
set_option maxRecDepth 20000 in
theorem gX1_remove_X1_renewUnitsBefore : GoodIn wsX1_remove (wsV RX1 44 RX1 yX1_renewUnitsBefore wsX1_renewUnitsBefore) := goodIn_app (goodIn_of _ (by decide +kernel)) ggX1_remove_X1_renewUnitsBefore
theorem dX1_remove_0 : decode cX1_remove 0 = .ok (.aload_n 0, 1) := by decide +kernel
theorem dX1_remove_1 : decode cX1_remove 1 = .ok (.iload_n 1, 1) := by decide +kernel
theorem dX1_remove_2 : decode cX1_remove 2 = .ok (.invokevirtual 32, 3) := by decide +kernel
theorem dX1_remove_5 : decode cX1_remove 5 = .ok (.istore_n 2, 1) := by decide +kernel
theorem dX1_remove_6 : decode cX1_remove 6 = .ok (.iload_n 2, 1) := by decide +kernel
theorem dX1_remove_7 : decode cX1_remove 7 = .ok (.ifCond .lt 13, 3) := by decide +kernel
theorem dX1_remove_10 : decode cX1_remove 10 = .ok (.aload_n 0, 1) := by decide +kernel
theorem dX1_remove_11 : decode cX1_remove 11 = .ok (.getfield 9, 3) := by decide +kernel
theorem dX1_remove_14 : decode cX1_remove 14 = .ok (.iload_n 2, 1) := by decide +kernel
theorem dX1_remove_15 : decode cX1_remove 15 = .ok (.iaload, 1) := by decide +kernel
theorem dX1_remove_16 : decode cX1_remove 16 = .ok (.iload_n 1, 1) := by decide +kernel
theorem dX1_remove_17 : decode cX1_remove 17 = .ok (.if_icmp .eq 6, 3) := by decide +kernel
theorem dX1_remove_20 : decode cX1_remove 20 = .ok (.bipush (-3), 2) := by decide +kernel
theorem dX1_remove_22 : decode cX1_remove 22 = .ok (.ireturn, 1) := by decide +kernel
theorem dX1_remove_23 : decode cX1_remove 23 = .ok (.iload_n 2, 1) := by decide +kernel
theorem dX1_remove_24 : decode cX1_remove 24 = .ok (.istore_n 3, 1) := by decide +kernel
theorem dX1_remove_25 : decode cX1_remove 25 = .ok (.iload_n 3, 1) := by decide +kernel
theorem dX1_remove_26 : decode cX1_remove 26 = .ok (.aload_n 0, 1) := by decide +kernel
theorem dX1_remove_27 : decode cX1_remove 27 = .ok (.getfield 28, 3) := by decide +kernel
theorem dX1_remove_30 : decode cX1_remove 30 = .ok (.iconst 1, 1) := by decide +kernel
theorem dX1_remove_31 : decode cX1_remove 31 = .ok (.isub, 1) := by decide +kernel
theorem dX1_remove_32 : decode cX1_remove 32 = .ok (.if_icmp .ge 17, 3) := by decide +kernel
theorem dX1_remove_35 : decode cX1_remove 35 = .ok (.aload_n 0, 1) := by decide +kernel
theorem dX1_remove_36 : decode cX1_remove 36 = .ok (.iload_n 3, 1) := by decide +kernel
theorem dX1_remove_37 : decode cX1_remove 37 = .ok (.iconst 1, 1) := by decide +kernel
theorem dX1_remove_38 : decode cX1_remove 38 = .ok (.iadd, 1) := by decide +kernel
theorem dX1_remove_39 : decode cX1_remove 39 = .ok (.iload_n 3, 1) := by decide +kernel
theorem dX1_remove_40 : decode cX1_remove 40 = .ok (.invokevirtual 47, 3) := by decide +kernel
theorem dX1_remove_43 : decode cX1_remove 43 = .ok (.iinc 3 1, 3) := by decide +kernel
theorem dX1_remove_46 : decode cX1_remove 46 = .ok (.goto (-21), 3) := by decide +kernel
theorem dX1_remove_49 : decode cX1_remove 49 = .ok (.aload_n 0, 1) := by decide +kernel
theorem dX1_remove_50 : decode cX1_remove 50 = .ok (.dup, 1) := by decide +kernel
theorem dX1_remove_51 : decode cX1_remove 51 = .ok (.getfield 28, 3) := by decide +kernel
theorem dX1_remove_54 : decode cX1_remove 54 = .ok (.iconst 1, 1) := by decide +kernel
theorem dX1_remove_55 : decode cX1_remove 55 = .ok (.isub, 1) := by decide +kernel
theorem dX1_remove_56 : decode cX1_remove 56 = .ok (.putfield 28, 3) := by decide +kernel
theorem dX1_remove_59 : decode cX1_remove 59 = .ok (.aload_n 0, 1) := by decide +kernel
theorem dX1_remove_60 : decode cX1_remove 60 = .ok (.iload_n 2, 1) := by decide +kernel
theorem dX1_remove_61 : decode cX1_remove 61 = .ok (.invokevirtual 44, 3) := by decide +kernel
theorem dX1_remove_64 : decode cX1_remove 64 = .ok (.aload_n 0, 1) := by decide +kernel
theorem dX1_remove_65 : decode cX1_remove 65 = .ok (.getfield 28, 3) := by decide +kernel
theorem dX1_remove_68 : decode cX1_remove 68 = .ok (.ireturn, 1) := by decide +kernel
set_option maxRecDepth 20000 in
theorem ggX1_openRow_X1_copyRow : GoodIn wsX1_openRow wsX1_copyRow := goodIn_r _ [6, 7, 8, 9, 10, 11, 12, 13, 14, 15, 16] (by decide +kernel) (by decide +kernel)
set_option maxRecDepth 20000 in
theorem gX1_openRow_X1_copyRow : GoodIn wsX1_openRow (wsV RX1 47 RX1 yX1_copyRow wsX1_copyRow) := goodIn_app (goodIn_of _ (by decide +kernel)) ggX1_openRow_X1_copyRow
theorem dX1_openRow_0 : decode cX1_openRow 0 = .ok (.aload_n 0, 1) := by decide +kernel
theorem dX1_openRow_1 : decode cX1_openRow 1 = .ok (.getfield 28, 3) := by decide +kernel
theorem dX1_openRow_4 : decode cX1_openRow 4 = .ok (.istore_n 2, 1) := by decide +kernel
theorem dX1_openRow_5 : decode cX1_openRow 5 = .ok (.iload_n 2, 1) := by decide +kernel
theorem dX1_openRow_6 : decode cX1_openRow 6 = .ok (.iload_n 1, 1) := by decide +kernel
theorem dX1_openRow_7 : decode cX1_openRow 7 = .ok (.if_icmp .le 17, 3) := by decide +kernel
theorem dX1_openRow_10 : decode cX1_openRow 10 = .ok (.aload_n 0, 1) := by decide +kernel
theorem dX1_openRow_11 : decode cX1_openRow 11 = .ok (.iload_n 2, 1) := by decide +kernel
theorem dX1_openRow_12 : decode cX1_openRow 12 = .ok (.iconst 1, 1) := by decide +kernel
theorem dX1_openRow_13 : decode cX1_openRow 13 = .ok (.isub, 1) := by decide +kernel
theorem dX1_openRow_14 : decode cX1_openRow 14 = .ok (.iload_n 2, 1) := by decide +kernel
theorem dX1_openRow_15 : decode cX1_openRow 15 = .ok (.invokevirtual 47, 3) := by decide +kernel
theorem dX1_openRow_18 : decode cX1_openRow 18 = .ok (.iinc 2 (-1), 3) := by decide +kernel
theorem dX1_openRow_21 : decode cX1_openRow 21 = .ok (.goto (-16), 3) := by decide +kernel
theorem dX1_openRow_24 : decode cX1_openRow 24 = .ok (.aload_n 0, 1) := by decide +kernel
theorem dX1_openRow_25 : decode cX1_openRow 25 = .ok (.dup, 1) := by decide +kernel
theorem dX1_openRow_26 : decode cX1_openRow 26 = .ok (.getfield 28, 3) := by decide +kernel
theorem dX1_openRow_29 : decode cX1_openRow 29 = .ok (.iconst 1, 1) := by decide +kernel
theorem dX1_openRow_30 : decode cX1_openRow 30 = .ok (.iadd, 1) := by decide +kernel
theorem dX1_openRow_31 : decode cX1_openRow 31 = .ok (.putfield 28, 3) := by decide +kernel
theorem dX1_openRow_34 : decode cX1_openRow 34 = .ok (.return_, 1) := by decide +kernel
theorem dX1_copyRow_0 : decode cX1_copyRow 0 = .ok (.aload_n 0, 1) := by decide +kernel
theorem dX1_copyRow_1 : decode cX1_copyRow 1 = .ok (.getfield 9, 3) := by decide +kernel
theorem dX1_copyRow_4 : decode cX1_copyRow 4 = .ok (.iload_n 2, 1) := by decide +kernel
theorem dX1_copyRow_5 : decode cX1_copyRow 5 = .ok (.aload_n 0, 1) := by decide +kernel
theorem dX1_copyRow_6 : decode cX1_copyRow 6 = .ok (.getfield 9, 3) := by decide +kernel
theorem dX1_copyRow_9 : decode cX1_copyRow 9 = .ok (.iload_n 1, 1) := by decide +kernel
theorem dX1_copyRow_10 : decode cX1_copyRow 10 = .ok (.iaload, 1) := by decide +kernel
theorem dX1_copyRow_11 : decode cX1_copyRow 11 = .ok (.iastore, 1) := by decide +kernel
theorem dX1_copyRow_12 : decode cX1_copyRow 12 = .ok (.aload_n 0, 1) := by decide +kernel
theorem dX1_copyRow_13 : decode cX1_copyRow 13 = .ok (.getfield 15, 3) := by decide +kernel
theorem dX1_copyRow_16 : decode cX1_copyRow 16 = .ok (.iload_n 2, 1) := by decide +kernel
theorem dX1_copyRow_17 : decode cX1_copyRow 17 = .ok (.aload_n 0, 1) := by decide +kernel
theorem dX1_copyRow_18 : decode cX1_copyRow 18 = .ok (.getfield 15, 3) := by decide +kernel
theorem dX1_copyRow_21 : decode cX1_copyRow 21 = .ok (.iload_n 1, 1) := by decide +kernel
theorem dX1_copyRow_22 : decode cX1_copyRow 22 = .ok (.iaload, 1) := by decide +kernel
theorem dX1_copyRow_23 : decode cX1_copyRow 23 = .ok (.iastore, 1) := by decide +kernel
theorem dX1_copyRow_24 : decode cX1_copyRow 24 = .ok (.aload_n 0, 1) := by decide +kernel
theorem dX1_copyRow_25 : decode cX1_copyRow 25 = .ok (.getfield 18, 3) := by decide +kernel
theorem dX1_copyRow_28 : decode cX1_copyRow 28 = .ok (.iload_n 2, 1) := by decide +kernel
theorem dX1_copyRow_29 : decode cX1_copyRow 29 = .ok (.aload_n 0, 1) := by decide +kernel
theorem dX1_copyRow_30 : decode cX1_copyRow 30 = .ok (.getfield 18, 3) := by decide +kernel
theorem dX1_copyRow_33 : decode cX1_copyRow 33 = .ok (.iload_n 1, 1) := by decide +kernel
theorem dX1_copyRow_34 : decode cX1_copyRow 34 = .ok (.iaload, 1) := by decide +kernel
theorem dX1_copyRow_35 : decode cX1_copyRow 35 = .ok (.iastore, 1) := by decide +kernel
theorem dX1_copyRow_36 : decode cX1_copyRow 36 = .ok (.aload_n 0, 1) := by decide +kernel
theorem dX1_copyRow_37 : decode cX1_copyRow 37 = .ok (.getfield 21, 3) := by decide +kernel
theorem dX1_copyRow_40 : decode cX1_copyRow 40 = .ok (.iload_n 2, 1) := by decide +kernel
theorem dX1_copyRow_41 : decode cX1_copyRow 41 = .ok (.aload_n 0, 1) := by decide +kernel
theorem dX1_copyRow_42 : decode cX1_copyRow 42 = .ok (.getfield 21, 3) := by decide +kernel
theorem dX1_copyRow_45 : decode cX1_copyRow 45 = .ok (.iload_n 1, 1) := by decide +kernel
theorem dX1_copyRow_46 : decode cX1_copyRow 46 = .ok (.iaload, 1) := by decide +kernel
theorem dX1_copyRow_47 : decode cX1_copyRow 47 = .ok (.iastore, 1) := by decide +kernel
theorem dX1_copyRow_48 : decode cX1_copyRow 48 = .ok (.return_, 1) := by decide +kernel
set_option maxRecDepth 20000 in
theorem ggX1_renewUnitsBefore_X1_unitsAheadBy : GoodIn wsX1_renewUnitsBefore wsX1_unitsAheadBy := goodIn_r _ [8, 9, 3, 10, 11, 12, 13, 14, 15, 16, 2, 17, 18, 19, 20, 21, 22, 23, 24, 25, 26, 27, 28, 29, 30, 31, 32, 33] (by decide +kernel) (by decide +kernel)
set_option maxRecDepth 20000 in
theorem gX1_renewUnitsBefore_X1_unitsAheadBy : GoodIn wsX1_renewUnitsBefore (wsV RX1 51 RX1 yX1_unitsAheadBy wsX1_unitsAheadBy) := goodIn_app (goodIn_of _ (by decide +kernel)) ggX1_renewUnitsBefore_X1_unitsAheadBy
theorem dX1_renewUnitsBefore_0 : decode cX1_renewUnitsBefore 0 = .ok (.iload_n 1, 1) := by decide +kernel
theorem dX1_renewUnitsBefore_1 : decode cX1_renewUnitsBefore 1 = .ok (.istore_n 2, 1) := by decide +kernel
theorem dX1_renewUnitsBefore_2 : decode cX1_renewUnitsBefore 2 = .ok (.iload_n 2, 1) := by decide +kernel
theorem dX1_renewUnitsBefore_3 : decode cX1_renewUnitsBefore 3 = .ok (.aload_n 0, 1) := by decide +kernel
theorem dX1_renewUnitsBefore_4 : decode cX1_renewUnitsBefore 4 = .ok (.getfield 28, 3) := by decide +kernel
theorem dX1_renewUnitsBefore_7 : decode cX1_renewUnitsBefore 7 = .ok (.if_icmp .ge 28, 3) := by decide +kernel
theorem dX1_renewUnitsBefore_10 : decode cX1_renewUnitsBefore 10 = .ok (.aload_n 0, 1) := by decide +kernel
theorem dX1_renewUnitsBefore_11 : decode cX1_renewUnitsBefore 11 = .ok (.getfield 24, 3) := by decide +kernel
theorem dX1_renewUnitsBefore_14 : decode cX1_renewUnitsBefore 14 = .ok (.iload_n 2, 1) := by decide +kernel
theorem dX1_renewUnitsBefore_15 : decode cX1_renewUnitsBefore 15 = .ok (.aload_n 0, 1) := by decide +kernel
theorem dX1_renewUnitsBefore_16 : decode cX1_renewUnitsBefore 16 = .ok (.iload_n 2, 1) := by decide +kernel
theorem dX1_renewUnitsBefore_17 : decode cX1_renewUnitsBefore 17 = .ok (.iconst 1, 1) := by decide +kernel
theorem dX1_renewUnitsBefore_18 : decode cX1_renewUnitsBefore 18 = .ok (.isub, 1) := by decide +kernel
theorem dX1_renewUnitsBefore_19 : decode cX1_renewUnitsBefore 19 = .ok (.aload_n 0, 1) := by decide +kernel
theorem dX1_renewUnitsBefore_20 : decode cX1_renewUnitsBefore 20 = .ok (.getfield 9, 3) := by decide +kernel
theorem dX1_renewUnitsBefore_23 : decode cX1_renewUnitsBefore 23 = .ok (.iload_n 2, 1) := by decide +kernel
theorem dX1_renewUnitsBefore_24 : decode cX1_renewUnitsBefore 24 = .ok (.iaload, 1) := by decide +kernel
theorem dX1_renewUnitsBefore_25 : decode cX1_renewUnitsBefore 25 = .ok (.invokevirtual 51, 3) := by decide +kernel
theorem dX1_renewUnitsBefore_28 : decode cX1_renewUnitsBefore 28 = .ok (.lastore, 1) := by decide +kernel
theorem dX1_renewUnitsBefore_29 : decode cX1_renewUnitsBefore 29 = .ok (.iinc 2 1, 3) := by decide +kernel
theorem dX1_renewUnitsBefore_32 : decode cX1_renewUnitsBefore 32 = .ok (.goto (-30), 3) := by decide +kernel
theorem dX1_renewUnitsBefore_35 : decode cX1_renewUnitsBefore 35 = .ok (.return_, 1) := by decide +kernel
set_option maxRecDepth 20000 in
theorem ggX1_unitsOfTick_X1_placeOf : GoodIn wsX1_unitsOfTick wsX1_placeOf := goodIn_r _ [9, 10, 1, 15, 16, 17, 18, 19, 20] (by decide +kernel) (by decide +kernel)
set_option maxRecDepth 20000 in
theorem gX1_unitsOfTick_X1_placeOf : GoodIn wsX1_unitsOfTick (wsV RX1 32 RX1 yX1_placeOf wsX1_placeOf) := goodIn_app (goodIn_of _ (by decide +kernel)) ggX1_unitsOfTick_X1_placeOf
set_option maxRecDepth 20000 in
theorem ggX1_unitsOfTick_J9_floorDiv_7cf53 : GoodIn wsX1_unitsOfTick wsJ9_floorDiv_7cf53 := goodIn_r _ [14] (by decide +kernel) (by decide +kernel)
set_option maxRecDepth 20000 in
theorem gX1_unitsOfTick_J9_floorDiv_7cf53 : GoodIn wsX1_unitsOfTick (va_wsS RX1 55 yJ9_floorDiv_7cf53 wsJ9_floorDiv_7cf53) := goodIn_app (goodIn_of _ (by decide +kernel)) ggX1_unitsOfTick_J9_floorDiv_7cf53
theorem dX1_unitsOfTick_0 : decode cX1_unitsOfTick 0 = .ok (.aload_n 0, 1) := by decide +kernel
theorem dX1_unitsOfTick_1 : decode cX1_unitsOfTick 1 = .ok (.iload_n 1, 1) := by decide +kernel
theorem dX1_unitsOfTick_2 : decode cX1_unitsOfTick 2 = .ok (.invokevirtual 32, 3) := by decide +kernel
theorem dX1_unitsOfTick_5 : decode cX1_unitsOfTick 5 = .ok (.istore_n 2, 1) := by decide +kernel
theorem dX1_unitsOfTick_6 : decode cX1_unitsOfTick 6 = .ok (.iload_n 2, 1) := by decide +kernel
theorem dX1_unitsOfTick_7 : decode cX1_unitsOfTick 7 = .ok (.ifCond .ge 7, 3) := by decide +kernel
theorem dX1_unitsOfTick_10 : decode cX1_unitsOfTick 10 = .ok (.sipush 1000, 3) := by decide +kernel
theorem dX1_unitsOfTick_13 : decode cX1_unitsOfTick 13 = .ok (.ireturn, 1) := by decide +kernel
theorem dX1_unitsOfTick_14 : decode cX1_unitsOfTick 14 = .ok (.iload_n 1, 1) := by decide +kernel
theorem dX1_unitsOfTick_15 : decode cX1_unitsOfTick 15 = .ok (.aload_n 0, 1) := by decide +kernel
theorem dX1_unitsOfTick_16 : decode cX1_unitsOfTick 16 = .ok (.getfield 9, 3) := by decide +kernel
theorem dX1_unitsOfTick_19 : decode cX1_unitsOfTick 19 = .ok (.iload_n 2, 1) := by decide +kernel
theorem dX1_unitsOfTick_20 : decode cX1_unitsOfTick 20 = .ok (.iaload, 1) := by decide +kernel
theorem dX1_unitsOfTick_21 : decode cX1_unitsOfTick 21 = .ok (.isub, 1) := by decide +kernel
theorem dX1_unitsOfTick_22 : decode cX1_unitsOfTick 22 = .ok (.istore_n 3, 1) := by decide +kernel
theorem dX1_unitsOfTick_23 : decode cX1_unitsOfTick 23 = .ok (.aload_n 0, 1) := by decide +kernel
theorem dX1_unitsOfTick_24 : decode cX1_unitsOfTick 24 = .ok (.getfield 15, 3) := by decide +kernel
theorem dX1_unitsOfTick_27 : decode cX1_unitsOfTick 27 = .ok (.iload_n 2, 1) := by decide +kernel
theorem dX1_unitsOfTick_28 : decode cX1_unitsOfTick 28 = .ok (.iaload, 1) := by decide +kernel
theorem dX1_unitsOfTick_29 : decode cX1_unitsOfTick 29 = .ok (.istore 4, 2) := by decide +kernel
theorem dX1_unitsOfTick_31 : decode cX1_unitsOfTick 31 = .ok (.iload 4, 2) := by decide +kernel
theorem dX1_unitsOfTick_33 : decode cX1_unitsOfTick 33 = .ok (.iconst 1, 1) := by decide +kernel
theorem dX1_unitsOfTick_34 : decode cX1_unitsOfTick 34 = .ok (.if_icmp .lt 9, 3) := by decide +kernel
theorem dX1_unitsOfTick_37 : decode cX1_unitsOfTick 37 = .ok (.iload_n 3, 1) := by decide +kernel
theorem dX1_unitsOfTick_38 : decode cX1_unitsOfTick 38 = .ok (.iload 4, 2) := by decide +kernel
theorem dX1_unitsOfTick_40 : decode cX1_unitsOfTick 40 = .ok (.if_icmp .lt 10, 3) := by decide +kernel
theorem dX1_unitsOfTick_43 : decode cX1_unitsOfTick 43 = .ok (.aload_n 0, 1) := by decide +kernel
theorem dX1_unitsOfTick_44 : decode cX1_unitsOfTick 44 = .ok (.getfield 21, 3) := by decide +kernel
theorem dX1_unitsOfTick_47 : decode cX1_unitsOfTick 47 = .ok (.iload_n 2, 1) := by decide +kernel
theorem dX1_unitsOfTick_48 : decode cX1_unitsOfTick 48 = .ok (.iaload, 1) := by decide +kernel
theorem dX1_unitsOfTick_49 : decode cX1_unitsOfTick 49 = .ok (.ireturn, 1) := by decide +kernel
theorem dX1_unitsOfTick_50 : decode cX1_unitsOfTick 50 = .ok (.aload_n 0, 1) := by decide +kernel
theorem dX1_unitsOfTick_51 : decode cX1_unitsOfTick 51 = .ok (.getfield 21, 3) := by decide +kernel
theorem dX1_unitsOfTick_54 : decode cX1_unitsOfTick 54 = .ok (.iload_n 2, 1) := by decide +kernel
theorem dX1_unitsOfTick_55 : decode cX1_unitsOfTick 55 = .ok (.iaload, 1) := by decide +kernel
theorem dX1_unitsOfTick_56 : decode cX1_unitsOfTick 56 = .ok (.aload_n 0, 1) := by decide +kernel
theorem dX1_unitsOfTick_57 : decode cX1_unitsOfTick 57 = .ok (.getfield 18, 3) := by decide +kernel
theorem dX1_unitsOfTick_60 : decode cX1_unitsOfTick 60 = .ok (.iload_n 2, 1) := by decide +kernel
theorem dX1_unitsOfTick_61 : decode cX1_unitsOfTick 61 = .ok (.iaload, 1) := by decide +kernel
theorem dX1_unitsOfTick_62 : decode cX1_unitsOfTick 62 = .ok (.isub, 1) := by decide +kernel
theorem dX1_unitsOfTick_63 : decode cX1_unitsOfTick 63 = .ok (.istore 5, 2) := by decide +kernel
theorem dX1_unitsOfTick_65 : decode cX1_unitsOfTick 65 = .ok (.aload_n 0, 1) := by decide +kernel
theorem dX1_unitsOfTick_66 : decode cX1_unitsOfTick 66 = .ok (.getfield 18, 3) := by decide +kernel
theorem dX1_unitsOfTick_69 : decode cX1_unitsOfTick 69 = .ok (.iload_n 2, 1) := by decide +kernel
theorem dX1_unitsOfTick_70 : decode cX1_unitsOfTick 70 = .ok (.iaload, 1) := by decide +kernel
theorem dX1_unitsOfTick_71 : decode cX1_unitsOfTick 71 = .ok (.iload 5, 2) := by decide +kernel
theorem dX1_unitsOfTick_73 : decode cX1_unitsOfTick 73 = .ok (.iload_n 3, 1) := by decide +kernel
theorem dX1_unitsOfTick_74 : decode cX1_unitsOfTick 74 = .ok (.imul, 1) := by decide +kernel
theorem dX1_unitsOfTick_75 : decode cX1_unitsOfTick 75 = .ok (.iload 4, 2) := by decide +kernel
theorem dX1_unitsOfTick_77 : decode cX1_unitsOfTick 77 = .ok (.invokestatic 55, 3) := by decide +kernel
theorem dX1_unitsOfTick_80 : decode cX1_unitsOfTick 80 = .ok (.iadd, 1) := by decide +kernel
theorem dX1_unitsOfTick_81 : decode cX1_unitsOfTick 81 = .ok (.ireturn, 1) := by decide +kernel
set_option maxRecDepth 20000 in
theorem ggX1_unitsAhead_X1_placeOf : GoodIn wsX1_unitsAhead wsX1_placeOf := goodIn_r _ [5, 6, 7, 32, 33, 34, 35, 36, 37] (by decide +kernel) (by decide +kernel)
set_option maxRecDepth 20000 in
theorem gX1_unitsAhead_X1_placeOf : GoodIn wsX1_unitsAhead (wsV RX1 32 RX1 yX1_placeOf wsX1_placeOf) := goodIn_app (goodIn_of _ (by decide +kernel)) ggX1_unitsAhead_X1_placeOf
set_option maxRecDepth 20000 in
theorem ggX1_unitsAhead_X1_unitsAheadBy : GoodIn wsX1_unitsAhead wsX1_unitsAheadBy := goodIn_r _ [11, 12, 7, 13, 14, 15, 16, 17, 18, 19, 20, 21, 22, 23, 24, 25, 26, 27, 28, 29, 30, 31, 32, 33, 34, 35, 36, 37] (by decide +kernel) (by decide +kernel)
set_option maxRecDepth 20000 in
theorem gX1_unitsAhead_X1_unitsAheadBy : GoodIn wsX1_unitsAhead (wsV RX1 51 RX1 yX1_unitsAheadBy wsX1_unitsAheadBy) := goodIn_app (goodIn_of _ (by decide +kernel)) ggX1_unitsAhead_X1_unitsAheadBy
theorem dX1_unitsAhead_0 : decode cX1_unitsAhead 0 = .ok (.aload_n 0, 1) := by decide +kernel
theorem dX1_unitsAhead_1 : decode cX1_unitsAhead 1 = .ok (.aload_n 0, 1) := by decide +kernel
theorem dX1_unitsAhead_2 : decode cX1_unitsAhead 2 = .ok (.iload_n 1, 1) := by decide +kernel
theorem dX1_unitsAhead_3 : decode cX1_unitsAhead 3 = .ok (.invokevirtual 32, 3) := by decide +kernel
theorem dX1_unitsAhead_6 : decode cX1_unitsAhead 6 = .ok (.iload_n 1, 1) := by decide +kernel
theorem dX1_unitsAhead_7 : decode cX1_unitsAhead 7 = .ok (.invokevirtual 51, 3) := by decide +kernel
theorem dX1_unitsAhead_10 : decode cX1_unitsAhead 10 = .ok (.lreturn, 1) := by decide +kernel
set_option maxRecDepth 20000 in
theorem ggX1_unitsAheadBy_X3_sumOfQuotients : GoodIn wsX1_unitsAheadBy wsX3_sumOfQuotients := goodIn_r _ [13, 14, 15, 16, 17, 18, 19, 20, 21] (by decide +kernel) (by decide +kernel)
set_option maxRecDepth 20000 in
theorem gX1_unitsAheadBy_X3_sumOfQuotients_n66 : GoodIn wsX1_unitsAheadBy (wsX3_sumOfQuotients) := ggX1_unitsAheadBy_X3_sumOfQuotients
theorem dX1_unitsAheadBy_0 : decode cX1_unitsAheadBy 0 = .ok (.iload_n 1, 1) := by decide +kernel
theorem dX1_unitsAheadBy_1 : decode cX1_unitsAheadBy 1 = .ok (.ifCond .ge 10, 3) := by decide +kernel
theorem dX1_unitsAheadBy_4 : decode cX1_unitsAheadBy 4 = .ok (.ldc2_w 61, 3) := by decide +kernel
theorem dX1_unitsAheadBy_7 : decode cX1_unitsAheadBy 7 = .ok (.iload_n 2, 1) := by decide +kernel
theorem dX1_unitsAheadBy_8 : decode cX1_unitsAheadBy 8 = .ok (.i2l, 1) := by decide +kernel
theorem dX1_unitsAheadBy_9 : decode cX1_unitsAheadBy 9 = .ok (.lmul, 1) := by decide +kernel
theorem dX1_unitsAheadBy_10 : decode cX1_unitsAheadBy 10 = .ok (.lreturn, 1) := by decide +kernel
theorem dX1_unitsAheadBy_11 : decode cX1_unitsAheadBy 11 = .ok (.iload_n 2, 1) := by decide +kernel
theorem dX1_unitsAheadBy_12 : decode cX1_unitsAheadBy 12 = .ok (.aload_n 0, 1) := by decide +kernel
theorem dX1_unitsAheadBy_13 : decode cX1_unitsAheadBy 13 = .ok (.getfield 9, 3) := by decide +kernel
theorem dX1_unitsAheadBy_16 : decode cX1_unitsAheadBy 16 = .ok (.iload_n 1, 1) := by decide +kernel
theorem dX1_unitsAheadBy_17 : decode cX1_unitsAheadBy 17 = .ok (.iaload, 1) := by decide +kernel
theorem dX1_unitsAheadBy_18 : decode cX1_unitsAheadBy 18 = .ok (.isub, 1) := by decide +kernel
theorem dX1_unitsAheadBy_19 : decode cX1_unitsAheadBy 19 = .ok (.istore_n 3, 1) := by decide +kernel
theorem dX1_unitsAheadBy_20 : decode cX1_unitsAheadBy 20 = .ok (.iload_n 3, 1) := by decide +kernel
theorem dX1_unitsAheadBy_21 : decode cX1_unitsAheadBy 21 = .ok (.aload_n 0, 1) := by decide +kernel
theorem dX1_unitsAheadBy_22 : decode cX1_unitsAheadBy 22 = .ok (.getfield 15, 3) := by decide +kernel
theorem dX1_unitsAheadBy_25 : decode cX1_unitsAheadBy 25 = .ok (.iload_n 1, 1) := by decide +kernel
theorem dX1_unitsAheadBy_26 : decode cX1_unitsAheadBy 26 = .ok (.iaload, 1) := by decide +kernel
theorem dX1_unitsAheadBy_27 : decode cX1_unitsAheadBy 27 = .ok (.invokestatic 63, 3) := by decide +kernel
theorem dX1_unitsAheadBy_30 : decode cX1_unitsAheadBy 30 = .ok (.istore 4, 2) := by decide +kernel
theorem dX1_unitsAheadBy_32 : decode cX1_unitsAheadBy 32 = .ok (.aload_n 0, 1) := by decide +kernel
theorem dX1_unitsAheadBy_33 : decode cX1_unitsAheadBy 33 = .ok (.getfield 21, 3) := by decide +kernel
theorem dX1_unitsAheadBy_36 : decode cX1_unitsAheadBy 36 = .ok (.iload_n 1, 1) := by decide +kernel
theorem dX1_unitsAheadBy_37 : decode cX1_unitsAheadBy 37 = .ok (.iaload, 1) := by decide +kernel
theorem dX1_unitsAheadBy_38 : decode cX1_unitsAheadBy 38 = .ok (.aload_n 0, 1) := by decide +kernel
theorem dX1_unitsAheadBy_39 : decode cX1_unitsAheadBy 39 = .ok (.getfield 18, 3) := by decide +kernel
theorem dX1_unitsAheadBy_42 : decode cX1_unitsAheadBy 42 = .ok (.iload_n 1, 1) := by decide +kernel
theorem dX1_unitsAheadBy_43 : decode cX1_unitsAheadBy 43 = .ok (.iaload, 1) := by decide +kernel
theorem dX1_unitsAheadBy_44 : decode cX1_unitsAheadBy 44 = .ok (.isub, 1) := by decide +kernel
theorem dX1_unitsAheadBy_45 : decode cX1_unitsAheadBy 45 = .ok (.istore 5, 2) := by decide +kernel
theorem dX1_unitsAheadBy_47 : decode cX1_unitsAheadBy 47 = .ok (.aload_n 0, 1) := by decide +kernel
theorem dX1_unitsAheadBy_48 : decode cX1_unitsAheadBy 48 = .ok (.getfield 24, 3) := by decide +kernel
theorem dX1_unitsAheadBy_51 : decode cX1_unitsAheadBy 51 = .ok (.iload_n 1, 1) := by decide +kernel
theorem dX1_unitsAheadBy_52 : decode cX1_unitsAheadBy 52 = .ok (.laload, 1) := by decide +kernel
theorem dX1_unitsAheadBy_53 : decode cX1_unitsAheadBy 53 = .ok (.aload_n 0, 1) := by decide +kernel
theorem dX1_unitsAheadBy_54 : decode cX1_unitsAheadBy 54 = .ok (.getfield 18, 3) := by decide +kernel
theorem dX1_unitsAheadBy_57 : decode cX1_unitsAheadBy 57 = .ok (.iload_n 1, 1) := by decide +kernel
theorem dX1_unitsAheadBy_58 : decode cX1_unitsAheadBy 58 = .ok (.iaload, 1) := by decide +kernel
theorem dX1_unitsAheadBy_59 : decode cX1_unitsAheadBy 59 = .ok (.i2l, 1) := by decide +kernel
theorem dX1_unitsAheadBy_60 : decode cX1_unitsAheadBy 60 = .ok (.iload 4, 2) := by decide +kernel
theorem dX1_unitsAheadBy_62 : decode cX1_unitsAheadBy 62 = .ok (.i2l, 1) := by decide +kernel
theorem dX1_unitsAheadBy_63 : decode cX1_unitsAheadBy 63 = .ok (.lmul, 1) := by decide +kernel
theorem dX1_unitsAheadBy_64 : decode cX1_unitsAheadBy 64 = .ok (.ladd, 1) := by decide +kernel
theorem dX1_unitsAheadBy_65 : decode cX1_unitsAheadBy 65 = .ok (.iload 4, 2) := by decide +kernel
theorem dX1_unitsAheadBy_67 : decode cX1_unitsAheadBy 67 = .ok (.iload 5, 2) := by decide +kernel
theorem dX1_unitsAheadBy_69 : decode cX1_unitsAheadBy 69 = .ok (.aload_n 0, 1) := by decide +kernel
theorem dX1_unitsAheadBy_70 : decode cX1_unitsAheadBy 70 = .ok (.getfield 15, 3) := by decide +kernel
theorem dX1_unitsAheadBy_73 : decode cX1_unitsAheadBy 73 = .ok (.iload_n 1, 1) := by decide +kernel
theorem dX1_unitsAheadBy_74 : decode cX1_unitsAheadBy 74 = .ok (.iaload, 1) := by decide +kernel
theorem dX1_unitsAheadBy_75 : decode cX1_unitsAheadBy 75 = .ok (.invokestatic 66, 3) := by decide +kernel
theorem dX1_unitsAheadBy_78 : decode cX1_unitsAheadBy 78 = .ok (.ladd, 1) := by decide +kernel
theorem dX1_unitsAheadBy_79 : decode cX1_unitsAheadBy 79 = .ok (.aload_n 0, 1) := by decide +kernel
theorem dX1_unitsAheadBy_80 : decode cX1_unitsAheadBy 80 = .ok (.getfield 21, 3) := by decide +kernel
theorem dX1_unitsAheadBy_83 : decode cX1_unitsAheadBy 83 = .ok (.iload_n 1, 1) := by decide +kernel
theorem dX1_unitsAheadBy_84 : decode cX1_unitsAheadBy 84 = .ok (.iaload, 1) := by decide +kernel
theorem dX1_unitsAheadBy_85 : decode cX1_unitsAheadBy 85 = .ok (.i2l, 1) := by decide +kernel
theorem dX1_unitsAheadBy_86 : decode cX1_unitsAheadBy 86 = .ok (.iload_n 3, 1) := by decide +kernel
theorem dX1_unitsAheadBy_87 : decode cX1_unitsAheadBy 87 = .ok (.iload 4, 2) := by decide +kernel
theorem dX1_unitsAheadBy_89 : decode cX1_unitsAheadBy 89 = .ok (.isub, 1) := by decide +kernel
theorem dX1_unitsAheadBy_90 : decode cX1_unitsAheadBy 90 = .ok (.i2l, 1) := by decide +kernel
theorem dX1_unitsAheadBy_91 : decode cX1_unitsAheadBy 91 = .ok (.lmul, 1) := by decide +kernel
theorem dX1_unitsAheadBy_92 : decode cX1_unitsAheadBy 92 = .ok (.ladd, 1) := by decide +kernel
theorem dX1_unitsAheadBy_93 : decode cX1_unitsAheadBy 93 = .ok (.lreturn, 1) := by decide +kernel
theorem dX2_init_0 : decode cX2_init 0 = .ok (.aload_n 0, 1) := by decide +kernel
theorem dX2_init_1 : decode cX2_init 1 = .ok (.invokespecial 3, 3) := by decide +kernel
theorem dX2_init_4 : decode cX2_init 4 = .ok (.aload_n 0, 1) := by decide +kernel
theorem dX2_init_5 : decode cX2_init 5 = .ok (.bipush 40, 2) := by decide +kernel
theorem dX2_init_7 : decode cX2_init 7 = .ok (.newarray .long, 2) := by decide +kernel
theorem dX2_init_9 : decode cX2_init 9 = .ok (.putfield 9, 3) := by decide +kernel
theorem dX2_init_12 : decode cX2_init 12 = .ok (.return_, 1) := by decide +kernel
theorem dX2_add_0 : decode cX2_add 0 = .ok (.aload_n 0, 1) := by decide +kernel
theorem dX2_add_1 : decode cX2_add 1 = .ok (.getfield 15, 3) := by decide +kernel
theorem dX2_add_4 : decode cX2_add 4 = .ok (.ifCond .le 22, 3) := by decide +kernel
theorem dX2_add_7 : decode cX2_add 7 = .ok (.lload_n 1, 1) := by decide +kernel
theorem dX2_add_8 : decode cX2_add 8 = .ok (.aload_n 0, 1) := by decide +kernel
theorem dX2_add_9 : decode cX2_add 9 = .ok (.getfield 9, 3) := by decide +kernel
theorem dX2_add_12 : decode cX2_add 12 = .ok (.aload_n 0, 1) := by decide +kernel
theorem dX2_add_13 : decode cX2_add 13 = .ok (.getfield 15, 3) := by decide +kernel
theorem dX2_add_16 : decode cX2_add 16 = .ok (.iconst 1, 1) := by decide +kernel
theorem dX2_add_17 : decode cX2_add 17 = .ok (.isub, 1) := by decide +kernel
theorem dX2_add_18 : decode cX2_add 18 = .ok (.laload, 1) := by decide +kernel
theorem dX2_add_19 : decode cX2_add 19 = .ok (.lcmp, 1) := by decide +kernel
theorem dX2_add_20 : decode cX2_add 20 = .ok (.ifCond .gt 6, 3) := by decide +kernel
theorem dX2_add_23 : decode cX2_add 23 = .ok (.bipush (-3), 2) := by decide +kernel
theorem dX2_add_25 : decode cX2_add 25 = .ok (.ireturn, 1) := by decide +kernel
theorem dX2_add_26 : decode cX2_add 26 = .ok (.aload_n 0, 1) := by decide +kernel
theorem dX2_add_27 : decode cX2_add 27 = .ok (.getfield 15, 3) := by decide +kernel
theorem dX2_add_30 : decode cX2_add 30 = .ok (.bipush 40, 2) := by decide +kernel
theorem dX2_add_32 : decode cX2_add 32 = .ok (.if_icmp .lt 6, 3) := by decide +kernel
theorem dX2_add_35 : decode cX2_add 35 = .ok (.bipush (-4), 2) := by decide +kernel
theorem dX2_add_37 : decode cX2_add 37 = .ok (.ireturn, 1) := by decide +kernel
theorem dX2_add_38 : decode cX2_add 38 = .ok (.aload_n 0, 1) := by decide +kernel
theorem dX2_add_39 : decode cX2_add 39 = .ok (.getfield 9, 3) := by decide +kernel
theorem dX2_add_42 : decode cX2_add 42 = .ok (.aload_n 0, 1) := by decide +kernel
theorem dX2_add_43 : decode cX2_add 43 = .ok (.getfield 15, 3) := by decide +kernel
theorem dX2_add_46 : decode cX2_add 46 = .ok (.lload_n 1, 1) := by decide +kernel
theorem dX2_add_47 : decode cX2_add 47 = .ok (.lastore, 1) := by decide +kernel
theorem dX2_add_48 : decode cX2_add 48 = .ok (.aload_n 0, 1) := by decide +kernel
theorem dX2_add_49 : decode cX2_add 49 = .ok (.dup, 1) := by decide +kernel
theorem dX2_add_50 : decode cX2_add 50 = .ok (.getfield 15, 3) := by decide +kernel
theorem dX2_add_53 : decode cX2_add 53 = .ok (.iconst 1, 1) := by decide +kernel
theorem dX2_add_54 : decode cX2_add 54 = .ok (.iadd, 1) := by decide +kernel
theorem dX2_add_55 : decode cX2_add 55 = .ok (.putfield 15, 3) := by decide +kernel
theorem dX2_add_58 : decode cX2_add 58 = .ok (.aload_n 0, 1) := by decide +kernel
theorem dX2_add_59 : decode cX2_add 59 = .ok (.getfield 15, 3) := by decide +kernel
theorem dX2_add_62 : decode cX2_add 62 = .ok (.ireturn, 1) := by decide +kernel
theorem dX2_removeAll_0 : decode cX2_removeAll 0 = .ok (.aload_n 0, 1) := by decide +kernel
theorem dX2_removeAll_1 : decode cX2_removeAll 1 = .ok (.getfield 15, 3) := by decide +kernel
theorem dX2_removeAll_4 : decode cX2_removeAll 4 = .ok (.istore_n 1, 1) := by decide +kernel
theorem dX2_removeAll_5 : decode cX2_removeAll 5 = .ok (.aload_n 0, 1) := by decide +kernel
theorem dX2_removeAll_6 : decode cX2_removeAll 6 = .ok (.iconst 0, 1) := by decide +kernel
theorem dX2_removeAll_7 : decode cX2_removeAll 7 = .ok (.putfield 15, 3) := by decide +kernel
theorem dX2_removeAll_10 : decode cX2_removeAll 10 = .ok (.iload_n 1, 1) := by decide +kernel
theorem dX2_removeAll_11 : decode cX2_removeAll 11 = .ok (.ireturn, 1) := by decide +kernel
theorem dX2_above_0 : decode cX2_above 0 = .ok (.lconst 0, 1) := by decide +kernel
theorem dX2_above_1 : decode cX2_above 1 = .ok (.lstore_n 1, 1) := by decide +kernel
theorem dX2_above_2 : decode cX2_above 2 = .ok (.lconst 0, 1) := by decide +kernel
theorem dX2_above_3 : decode cX2_above 3 = .ok (.lstore_n 3, 1) := by decide +kernel
theorem dX2_above_4 : decode cX2_above 4 = .ok (.lconst 0, 1) := by decide +kernel
theorem dX2_above_5 : decode cX2_above 5 = .ok (.lstore 5, 2) := by decide +kernel
theorem dX2_above_7 : decode cX2_above 7 = .ok (.iconst 0, 1) := by decide +kernel
theorem dX2_above_8 : decode cX2_above 8 = .ok (.istore 7, 2) := by decide +kernel
theorem dX2_above_10 : decode cX2_above 10 = .ok (.iload 7, 2) := by decide +kernel
theorem dX2_above_12 : decode cX2_above 12 = .ok (.aload_n 0, 1) := by decide +kernel
theorem dX2_above_13 : decode cX2_above 13 = .ok (.getfield 15, 3) := by decide +kernel
theorem dX2_above_16 : decode cX2_above 16 = .ok (.if_icmp .ge 41, 3) := by decide +kernel
theorem dX2_above_19 : decode cX2_above 19 = .ok (.lload_n 1, 1) := by decide +kernel
theorem dX2_above_20 : decode cX2_above 20 = .ok (.iload 7, 2) := by decide +kernel
theorem dX2_above_22 : decode cX2_above 22 = .ok (.i2l, 1) := by decide +kernel
theorem dX2_above_23 : decode cX2_above 23 = .ok (.ladd, 1) := by decide +kernel
theorem dX2_above_24 : decode cX2_above 24 = .ok (.lstore_n 1, 1) := by decide +kernel
theorem dX2_above_25 : decode cX2_above 25 = .ok (.lload_n 3, 1) := by decide +kernel
theorem dX2_above_26 : decode cX2_above 26 = .ok (.aload_n 0, 1) := by decide +kernel
theorem dX2_above_27 : decode cX2_above 27 = .ok (.getfield 9, 3) := by decide +kernel
theorem dX2_above_30 : decode cX2_above 30 = .ok (.iload 7, 2) := by decide +kernel
theorem dX2_above_32 : decode cX2_above 32 = .ok (.laload, 1) := by decide +kernel
theorem dX2_above_33 : decode cX2_above 33 = .ok (.ladd, 1) := by decide +kernel
theorem dX2_above_34 : decode cX2_above 34 = .ok (.lstore_n 3, 1) := by decide +kernel
theorem dX2_above_35 : decode cX2_above 35 = .ok (.lload 5, 2) := by decide +kernel
theorem dX2_above_37 : decode cX2_above 37 = .ok (.aload_n 0, 1) := by decide +kernel
theorem dX2_above_38 : decode cX2_above 38 = .ok (.getfield 9, 3) := by decide +kernel
theorem dX2_above_41 : decode cX2_above 41 = .ok (.iload 7, 2) := by decide +kernel
theorem dX2_above_43 : decode cX2_above 43 = .ok (.laload, 1) := by decide +kernel
theorem dX2_above_44 : decode cX2_above 44 = .ok (.iload 7, 2) := by decide +kernel
theorem dX2_above_46 : decode cX2_above 46 = .ok (.i2l, 1) := by decide +kernel
theorem dX2_above_47 : decode cX2_above 47 = .ok (.lmul, 1) := by decide +kernel
theorem dX2_above_48 : decode cX2_above 48 = .ok (.ladd, 1) := by decide +kernel
theorem dX2_above_49 : decode cX2_above 49 = .ok (.lstore 5, 2) := by decide +kernel
theorem dX2_above_51 : decode cX2_above 51 = .ok (.iinc 7 1, 3) := by decide +kernel
theorem dX2_above_54 : decode cX2_above 54 = .ok (.goto (-44), 3) := by decide +kernel
theorem dX2_above_57 : decode cX2_above 57 = .ok (.aload_n 0, 1) := by decide +kernel
theorem dX2_above_58 : decode cX2_above 58 = .ok (.getfield 15, 3) := by decide +kernel
theorem dX2_above_61 : decode cX2_above 61 = .ok (.i2l, 1) := by decide +kernel
theorem dX2_above_62 : decode cX2_above 62 = .ok (.lload 5, 2) := by decide +kernel
theorem dX2_above_64 : decode cX2_above 64 = .ok (.lmul, 1) := by decide +kernel
theorem dX2_above_65 : decode cX2_above 65 = .ok (.lload_n 1, 1) := by decide +kernel
theorem dX2_above_66 : decode cX2_above 66 = .ok (.lload_n 3, 1) := by decide +kernel
theorem dX2_above_67 : decode cX2_above 67 = .ok (.lmul, 1) := by decide +kernel
theorem dX2_above_68 : decode cX2_above 68 = .ok (.lsub, 1) := by decide +kernel
theorem dX2_above_69 : decode cX2_above 69 = .ok (.lreturn, 1) := by decide +kernel
theorem dX2_below_0 : decode cX2_below 0 = .ok (.lconst 0, 1) := by decide +kernel
theorem dX2_below_1 : decode cX2_below 1 = .ok (.lstore_n 1, 1) := by decide +kernel
theorem dX2_below_2 : decode cX2_below 2 = .ok (.lconst 0, 1) := by decide +kernel
theorem dX2_below_3 : decode cX2_below 3 = .ok (.lstore_n 3, 1) := by decide +kernel
theorem dX2_below_4 : decode cX2_below 4 = .ok (.iconst 0, 1) := by decide +kernel
theorem dX2_below_5 : decode cX2_below 5 = .ok (.istore 5, 2) := by decide +kernel
theorem dX2_below_7 : decode cX2_below 7 = .ok (.iload 5, 2) := by decide +kernel
theorem dX2_below_9 : decode cX2_below 9 = .ok (.aload_n 0, 1) := by decide +kernel
theorem dX2_below_10 : decode cX2_below 10 = .ok (.getfield 15, 3) := by decide +kernel
theorem dX2_below_13 : decode cX2_below 13 = .ok (.if_icmp .ge 25, 3) := by decide +kernel
theorem dX2_below_16 : decode cX2_below 16 = .ok (.lload_n 1, 1) := by decide +kernel
theorem dX2_below_17 : decode cX2_below 17 = .ok (.iload 5, 2) := by decide +kernel
theorem dX2_below_19 : decode cX2_below 19 = .ok (.i2l, 1) := by decide +kernel
theorem dX2_below_20 : decode cX2_below 20 = .ok (.ladd, 1) := by decide +kernel
theorem dX2_below_21 : decode cX2_below 21 = .ok (.lstore_n 1, 1) := by decide +kernel
theorem dX2_below_22 : decode cX2_below 22 = .ok (.lload_n 3, 1) := by decide +kernel
theorem dX2_below_23 : decode cX2_below 23 = .ok (.iload 5, 2) := by decide +kernel
theorem dX2_below_25 : decode cX2_below 25 = .ok (.i2l, 1) := by decide +kernel
theorem dX2_below_26 : decode cX2_below 26 = .ok (.iload 5, 2) := by decide +kernel
theorem dX2_below_28 : decode cX2_below 28 = .ok (.i2l, 1) := by decide +kernel
theorem dX2_below_29 : decode cX2_below 29 = .ok (.lmul, 1) := by decide +kernel
theorem dX2_below_30 : decode cX2_below 30 = .ok (.ladd, 1) := by decide +kernel
theorem dX2_below_31 : decode cX2_below 31 = .ok (.lstore_n 3, 1) := by decide +kernel
theorem dX2_below_32 : decode cX2_below 32 = .ok (.iinc 5 1, 3) := by decide +kernel
theorem dX2_below_35 : decode cX2_below 35 = .ok (.goto (-28), 3) := by decide +kernel
theorem dX2_below_38 : decode cX2_below 38 = .ok (.aload_n 0, 1) := by decide +kernel
theorem dX2_below_39 : decode cX2_below 39 = .ok (.getfield 15, 3) := by decide +kernel
theorem dX2_below_42 : decode cX2_below 42 = .ok (.i2l, 1) := by decide +kernel
theorem dX2_below_43 : decode cX2_below 43 = .ok (.lload_n 3, 1) := by decide +kernel
theorem dX2_below_44 : decode cX2_below 44 = .ok (.lmul, 1) := by decide +kernel
theorem dX2_below_45 : decode cX2_below 45 = .ok (.lload_n 1, 1) := by decide +kernel
theorem dX2_below_46 : decode cX2_below 46 = .ok (.lload_n 1, 1) := by decide +kernel
theorem dX2_below_47 : decode cX2_below 47 = .ok (.lmul, 1) := by decide +kernel
theorem dX2_below_48 : decode cX2_below 48 = .ok (.lsub, 1) := by decide +kernel
theorem dX2_below_49 : decode cX2_below 49 = .ok (.lreturn, 1) := by decide +kernel
theorem dJ9_floorDiv_7cf53_0 : decode cJ9_floorDiv_7cf53 0 = .ok (.iload_n 0, 1) := by decide +kernel
theorem dJ9_floorDiv_7cf53_1 : decode cJ9_floorDiv_7cf53 1 = .ok (.iload_n 1, 1) := by decide +kernel
theorem dJ9_floorDiv_7cf53_2 : decode cJ9_floorDiv_7cf53 2 = .ok (.idiv, 1) := by decide +kernel
theorem dJ9_floorDiv_7cf53_3 : decode cJ9_floorDiv_7cf53 3 = .ok (.istore_n 2, 1) := by decide +kernel
theorem dJ9_floorDiv_7cf53_4 : decode cJ9_floorDiv_7cf53 4 = .ok (.iload_n 0, 1) := by decide +kernel
theorem dJ9_floorDiv_7cf53_5 : decode cJ9_floorDiv_7cf53 5 = .ok (.iload_n 1, 1) := by decide +kernel
theorem dJ9_floorDiv_7cf53_6 : decode cJ9_floorDiv_7cf53 6 = .ok (.ixor, 1) := by decide +kernel
theorem dJ9_floorDiv_7cf53_7 : decode cJ9_floorDiv_7cf53 7 = .ok (.ifCond .ge 14, 3) := by decide +kernel
theorem dJ9_floorDiv_7cf53_10 : decode cJ9_floorDiv_7cf53 10 = .ok (.iload_n 2, 1) := by decide +kernel
theorem dJ9_floorDiv_7cf53_11 : decode cJ9_floorDiv_7cf53 11 = .ok (.iload_n 1, 1) := by decide +kernel
theorem dJ9_floorDiv_7cf53_12 : decode cJ9_floorDiv_7cf53 12 = .ok (.imul, 1) := by decide +kernel
theorem dJ9_floorDiv_7cf53_13 : decode cJ9_floorDiv_7cf53 13 = .ok (.iload_n 0, 1) := by decide +kernel
theorem dJ9_floorDiv_7cf53_14 : decode cJ9_floorDiv_7cf53 14 = .ok (.if_icmp .eq 7, 3) := by decide +kernel
theorem dJ9_floorDiv_7cf53_17 : decode cJ9_floorDiv_7cf53 17 = .ok (.iload_n 2, 1) := by decide +kernel
theorem dJ9_floorDiv_7cf53_18 : decode cJ9_floorDiv_7cf53 18 = .ok (.iconst 1, 1) := by decide +kernel
theorem dJ9_floorDiv_7cf53_19 : decode cJ9_floorDiv_7cf53 19 = .ok (.isub, 1) := by decide +kernel
theorem dJ9_floorDiv_7cf53_20 : decode cJ9_floorDiv_7cf53 20 = .ok (.ireturn, 1) := by decide +kernel
theorem dJ9_floorDiv_7cf53_21 : decode cJ9_floorDiv_7cf53 21 = .ok (.iload_n 2, 1) := by decide +kernel
theorem dJ9_floorDiv_7cf53_22 : decode cJ9_floorDiv_7cf53 22 = .ok (.ireturn, 1) := by decide +kernel
theorem dJ9_floorDiv_f86c9_0 : decode cJ9_floorDiv_f86c9 0 = .ok (.lload_n 0, 1) := by decide +kernel
theorem dJ9_floorDiv_f86c9_1 : decode cJ9_floorDiv_f86c9 1 = .ok (.lload_n 2, 1) := by decide +kernel
theorem dJ9_floorDiv_f86c9_2 : decode cJ9_floorDiv_f86c9 2 = .ok (.ldiv, 1) := by decide +kernel
theorem dJ9_floorDiv_f86c9_3 : decode cJ9_floorDiv_f86c9 3 = .ok (.lstore 4, 2) := by decide +kernel
theorem dJ9_floorDiv_f86c9_5 : decode cJ9_floorDiv_f86c9 5 = .ok (.lload_n 0, 1) := by decide +kernel
theorem dJ9_floorDiv_f86c9_6 : decode cJ9_floorDiv_f86c9 6 = .ok (.lload_n 2, 1) := by decide +kernel
theorem dJ9_floorDiv_f86c9_7 : decode cJ9_floorDiv_f86c9 7 = .ok (.lxor, 1) := by decide +kernel
theorem dJ9_floorDiv_f86c9_8 : decode cJ9_floorDiv_f86c9 8 = .ok (.lconst 0, 1) := by decide +kernel
theorem dJ9_floorDiv_f86c9_9 : decode cJ9_floorDiv_f86c9 9 = .ok (.lcmp, 1) := by decide +kernel
theorem dJ9_floorDiv_f86c9_10 : decode cJ9_floorDiv_f86c9 10 = .ok (.ifCond .ge 17, 3) := by decide +kernel
theorem dJ9_floorDiv_f86c9_13 : decode cJ9_floorDiv_f86c9 13 = .ok (.lload 4, 2) := by decide +kernel
theorem dJ9_floorDiv_f86c9_15 : decode cJ9_floorDiv_f86c9 15 = .ok (.lload_n 2, 1) := by decide +kernel
theorem dJ9_floorDiv_f86c9_16 : decode cJ9_floorDiv_f86c9 16 = .ok (.lmul, 1) := by decide +kernel
theorem dJ9_floorDiv_f86c9_17 : decode cJ9_floorDiv_f86c9 17 = .ok (.lload_n 0, 1) := by decide +kernel
theorem dJ9_floorDiv_f86c9_18 : decode cJ9_floorDiv_f86c9 18 = .ok (.lcmp, 1) := by decide +kernel
theorem dJ9_floorDiv_f86c9_19 : decode cJ9_floorDiv_f86c9 19 = .ok (.ifCond .eq 8, 3) := by decide +kernel
theorem dJ9_floorDiv_f86c9_22 : decode cJ9_floorDiv_f86c9 22 = .ok (.lload 4, 2) := by decide +kernel
theorem dJ9_floorDiv_f86c9_24 : decode cJ9_floorDiv_f86c9 24 = .ok (.lconst 1, 1) := by decide +kernel
theorem dJ9_floorDiv_f86c9_25 : decode cJ9_floorDiv_f86c9 25 = .ok (.lsub, 1) := by decide +kernel
theorem dJ9_floorDiv_f86c9_26 : decode cJ9_floorDiv_f86c9 26 = .ok (.lreturn, 1) := by decide +kernel
theorem dJ9_floorDiv_f86c9_27 : decode cJ9_floorDiv_f86c9 27 = .ok (.lload 4, 2) := by decide +kernel
theorem dJ9_floorDiv_f86c9_29 : decode cJ9_floorDiv_f86c9 29 = .ok (.lreturn, 1) := by decide +kernel
theorem dJ9_floorMod_f86c9_0 : decode cJ9_floorMod_f86c9 0 = .ok (.lload_n 0, 1) := by decide +kernel
theorem dJ9_floorMod_f86c9_1 : decode cJ9_floorMod_f86c9 1 = .ok (.lload_n 2, 1) := by decide +kernel
theorem dJ9_floorMod_f86c9_2 : decode cJ9_floorMod_f86c9 2 = .ok (.lrem, 1) := by decide +kernel
theorem dJ9_floorMod_f86c9_3 : decode cJ9_floorMod_f86c9 3 = .ok (.lstore 4, 2) := by decide +kernel
theorem dJ9_floorMod_f86c9_5 : decode cJ9_floorMod_f86c9 5 = .ok (.lload_n 0, 1) := by decide +kernel
theorem dJ9_floorMod_f86c9_6 : decode cJ9_floorMod_f86c9 6 = .ok (.lload_n 2, 1) := by decide +kernel
theorem dJ9_floorMod_f86c9_7 : decode cJ9_floorMod_f86c9 7 = .ok (.lxor, 1) := by decide +kernel
theorem dJ9_floorMod_f86c9_8 : decode cJ9_floorMod_f86c9 8 = .ok (.lconst 0, 1) := by decide +kernel
theorem dJ9_floorMod_f86c9_9 : decode cJ9_floorMod_f86c9 9 = .ok (.lcmp, 1) := by decide +kernel
theorem dJ9_floorMod_f86c9_10 : decode cJ9_floorMod_f86c9 10 = .ok (.ifCond .ge 15, 3) := by decide +kernel
theorem dJ9_floorMod_f86c9_13 : decode cJ9_floorMod_f86c9 13 = .ok (.lload 4, 2) := by decide +kernel
theorem dJ9_floorMod_f86c9_15 : decode cJ9_floorMod_f86c9 15 = .ok (.lconst 0, 1) := by decide +kernel
theorem dJ9_floorMod_f86c9_16 : decode cJ9_floorMod_f86c9 16 = .ok (.lcmp, 1) := by decide +kernel
theorem dJ9_floorMod_f86c9_17 : decode cJ9_floorMod_f86c9 17 = .ok (.ifCond .eq 8, 3) := by decide +kernel
theorem dJ9_floorMod_f86c9_20 : decode cJ9_floorMod_f86c9 20 = .ok (.lload 4, 2) := by decide +kernel
theorem dJ9_floorMod_f86c9_22 : decode cJ9_floorMod_f86c9 22 = .ok (.lload_n 2, 1) := by decide +kernel
theorem dJ9_floorMod_f86c9_23 : decode cJ9_floorMod_f86c9 23 = .ok (.ladd, 1) := by decide +kernel
theorem dJ9_floorMod_f86c9_24 : decode cJ9_floorMod_f86c9 24 = .ok (.lreturn, 1) := by decide +kernel
theorem dJ9_floorMod_f86c9_25 : decode cJ9_floorMod_f86c9 25 = .ok (.lload 4, 2) := by decide +kernel
theorem dJ9_floorMod_f86c9_27 : decode cJ9_floorMod_f86c9 27 = .ok (.lreturn, 1) := by decide +kernel
theorem dJ9_max_f86c9_0 : decode cJ9_max_f86c9 0 = .ok (.lload_n 0, 1) := by decide +kernel
theorem dJ9_max_f86c9_1 : decode cJ9_max_f86c9 1 = .ok (.lload_n 2, 1) := by decide +kernel
theorem dJ9_max_f86c9_2 : decode cJ9_max_f86c9 2 = .ok (.lcmp, 1) := by decide +kernel
theorem dJ9_max_f86c9_3 : decode cJ9_max_f86c9 3 = .ok (.ifCond .lt 7, 3) := by decide +kernel
theorem dJ9_max_f86c9_6 : decode cJ9_max_f86c9 6 = .ok (.lload_n 0, 1) := by decide +kernel
theorem dJ9_max_f86c9_7 : decode cJ9_max_f86c9 7 = .ok (.goto 4, 3) := by decide +kernel
theorem dJ9_max_f86c9_10 : decode cJ9_max_f86c9 10 = .ok (.lload_n 2, 1) := by decide +kernel
theorem dJ9_max_f86c9_11 : decode cJ9_max_f86c9 11 = .ok (.lreturn, 1) := by decide +kernel
theorem dJ9_min_7cf53_0 : decode cJ9_min_7cf53 0 = .ok (.iload_n 0, 1) := by decide +kernel
theorem dJ9_min_7cf53_1 : decode cJ9_min_7cf53 1 = .ok (.iload_n 1, 1) := by decide +kernel
theorem dJ9_min_7cf53_2 : decode cJ9_min_7cf53 2 = .ok (.if_icmp .gt 7, 3) := by decide +kernel
theorem dJ9_min_7cf53_5 : decode cJ9_min_7cf53 5 = .ok (.iload_n 0, 1) := by decide +kernel
theorem dJ9_min_7cf53_6 : decode cJ9_min_7cf53 6 = .ok (.goto 4, 3) := by decide +kernel
theorem dJ9_min_7cf53_9 : decode cJ9_min_7cf53 9 = .ok (.iload_n 1, 1) := by decide +kernel
theorem dJ9_min_7cf53_10 : decode cJ9_min_7cf53 10 = .ok (.ireturn, 1) := by decide +kernel
