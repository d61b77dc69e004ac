theorem dX4_init_0 : decode cX4_init 0 = .ok (.aload_n 0, 1) := by decide +kernel
theorem dX4_init_1 : decode cX4_init 1 = .ok (.invokespecial 1, 3) := by decide +kernel
theorem dX4_init_4 : decode cX4_init 4 = .ok (.aload_n 0, 1) := by decide +kernel
theorem dX4_init_5 : decode cX4_init 5 = .ok (.bipush 40, 2) := by decide +kernel
theorem dX4_init_7 : decode cX4_init 7 = .ok (.newarray .int, 2) := by decide +kernel
theorem dX4_init_9 : decode cX4_init 9 = .ok (.putfield 7, 3) := by decide +kernel
theorem dX4_init_12 : decode cX4_init 12 = .ok (.aload_n 0, 1) := by decide +kernel
theorem dX4_init_13 : decode cX4_init 13 = .ok (.bipush 40, 2) := by decide +kernel
theorem dX4_init_15 : decode cX4_init 15 = .ok (.newarray .int, 2) := by decide +kernel
theorem dX4_init_17 : decode cX4_init 17 = .ok (.putfield 13, 3) := by decide +kernel
theorem dX4_init_20 : decode cX4_init 20 = .ok (.aload_n 0, 1) := by decide +kernel
theorem dX4_init_21 : decode cX4_init 21 = .ok (.bipush 40, 2) := by decide +kernel
theorem dX4_init_23 : decode cX4_init 23 = .ok (.newarray .int, 2) := by decide +kernel
theorem dX4_init_25 : decode cX4_init 25 = .ok (.putfield 16, 3) := by decide +kernel
theorem dX4_init_28 : decode cX4_init 28 = .ok (.aload_n 0, 1) := by decide +kernel
theorem dX4_init_29 : decode cX4_init 29 = .ok (.bipush 40, 2) := by decide +kernel
theorem dX4_init_31 : decode cX4_init 31 = .ok (.newarray .int, 2) := by decide +kernel
theorem dX4_init_33 : decode cX4_init 33 = .ok (.putfield 19, 3) := by decide +kernel
theorem dX4_init_36 : decode cX4_init 36 = .ok (.aload_n 0, 1) := by decide +kernel
theorem dX4_init_37 : decode cX4_init 37 = .ok (.bipush 20, 2) := by decide +kernel
theorem dX4_init_39 : decode cX4_init 39 = .ok (.newarray .int, 2) := by decide +kernel
theorem dX4_init_41 : decode cX4_init 41 = .ok (.putfield 22, 3) := by decide +kernel
theorem dX4_init_44 : decode cX4_init 44 = .ok (.aload_n 0, 1) := by decide +kernel
theorem dX4_init_45 : decode cX4_init 45 = .ok (.bipush 20, 2) := by decide +kernel
theorem dX4_init_47 : decode cX4_init 47 = .ok (.newarray .int, 2) := by decide +kernel
theorem dX4_init_49 : decode cX4_init 49 = .ok (.putfield 25, 3) := by decide +kernel
theorem dX4_init_52 : decode cX4_init 52 = .ok (.aload_n 0, 1) := by decide +kernel
theorem dX4_init_53 : decode cX4_init 53 = .ok (.bipush 40, 2) := by decide +kernel
theorem dX4_init_55 : decode cX4_init 55 = .ok (.newarray .long, 2) := by decide +kernel
theorem dX4_init_57 : decode cX4_init 57 = .ok (.putfield 28, 3) := by decide +kernel
theorem dX4_init_60 : decode cX4_init 60 = .ok (.aload_n 0, 1) := by decide +kernel
theorem dX4_init_61 : decode cX4_init 61 = .ok (.iconst 0, 1) := by decide +kernel
theorem dX4_init_62 : decode cX4_init 62 = .ok (.putfield 32, 3) := by decide +kernel
theorem dX4_init_65 : decode cX4_init 65 = .ok (.return_, 1) := by decide +kernel
theorem dX4_in_0 : decode cX4_in 0 = .ok (.lload_n 0, 1) := by decide +kernel
theorem dX4_in_1 : decode cX4_in 1 = .ok (.lload_n 2, 1) := by decide +kernel
theorem dX4_in_2 : decode cX4_in 2 = .ok (.lcmp, 1) := by decide +kernel
theorem dX4_in_3 : decode cX4_in 3 = .ok (.ifCond .lt 14, 3) := by decide +kernel
theorem dX4_in_6 : decode cX4_in 6 = .ok (.lload_n 0, 1) := by decide +kernel
theorem dX4_in_7 : decode cX4_in 7 = .ok (.lload 4, 2) := by decide +kernel
theorem dX4_in_9 : decode cX4_in 9 = .ok (.lcmp, 1) := by decide +kernel
theorem dX4_in_10 : decode cX4_in 10 = .ok (.ifCond .gt 7, 3) := by decide +kernel
theorem dX4_in_13 : decode cX4_in 13 = .ok (.iconst 1, 1) := by decide +kernel
theorem dX4_in_14 : decode cX4_in 14 = .ok (.goto 4, 3) := by decide +kernel
theorem dX4_in_17 : decode cX4_in 17 = .ok (.iconst 0, 1) := by decide +kernel
theorem dX4_in_18 : decode cX4_in 18 = .ok (.ireturn, 1) := by decide +kernel
theorem dX4_markAt_0 : decode cX4_markAt 0 = .ok (.iconst (-1), 1) := by decide +kernel
theorem dX4_markAt_1 : decode cX4_markAt 1 = .ok (.istore_n 2, 1) := by decide +kernel
theorem dX4_markAt_2 : decode cX4_markAt 2 = .ok (.iconst 0, 1) := by decide +kernel
theorem dX4_markAt_3 : decode cX4_markAt 3 = .ok (.istore_n 3, 1) := by decide +kernel
theorem dX4_markAt_4 : decode cX4_markAt 4 = .ok (.iload_n 3, 1) := by decide +kernel
theorem dX4_markAt_5 : decode cX4_markAt 5 = .ok (.aload_n 0, 1) := by decide +kernel
theorem dX4_markAt_6 : decode cX4_markAt 6 = .ok (.getfield 32, 3) := by decide +kernel
theorem dX4_markAt_9 : decode cX4_markAt 9 = .ok (.if_icmp .ge 25, 3) := by decide +kernel
theorem dX4_markAt_12 : decode cX4_markAt 12 = .ok (.aload_n 0, 1) := by decide +kernel
theorem dX4_markAt_13 : decode cX4_markAt 13 = .ok (.getfield 7, 3) := by decide +kernel
theorem dX4_markAt_16 : decode cX4_markAt 16 = .ok (.iload_n 3, 1) := by decide +kernel
theorem dX4_markAt_17 : decode cX4_markAt 17 = .ok (.iaload, 1) := by decide +kernel
theorem dX4_markAt_18 : decode cX4_markAt 18 = .ok (.iload_n 1, 1) := by decide +kernel
theorem dX4_markAt_19 : decode cX4_markAt 19 = .ok (.if_icmp .ne 7, 3) := by decide +kernel
theorem dX4_markAt_22 : decode cX4_markAt 22 = .ok (.iload_n 3, 1) := by decide +kernel
theorem dX4_markAt_23 : decode cX4_markAt 23 = .ok (.goto 4, 3) := by decide +kernel
theorem dX4_markAt_26 : decode cX4_markAt 26 = .ok (.iload_n 2, 1) := by decide +kernel
theorem dX4_markAt_27 : decode cX4_markAt 27 = .ok (.istore_n 2, 1) := by decide +kernel
theorem dX4_markAt_28 : decode cX4_markAt 28 = .ok (.iinc 3 1, 3) := by decide +kernel
theorem dX4_markAt_31 : decode cX4_markAt 31 = .ok (.goto (-27), 3) := by decide +kernel
theorem dX4_markAt_34 : decode cX4_markAt 34 = .ok (.iload_n 2, 1) := by decide +kernel
theorem dX4_markAt_35 : decode cX4_markAt 35 = .ok (.ireturn, 1) := by decide +kernel
theorem dX4_isWithin_0 : decode cX4_isWithin 0 = .ok (.iconst 0, 1) := by decide +kernel
theorem dX4_isWithin_1 : decode cX4_isWithin 1 = .ok (.istore_n 3, 1) := by decide +kernel
theorem dX4_isWithin_2 : decode cX4_isWithin 2 = .ok (.iconst 0, 1) := by decide +kernel
theorem dX4_isWithin_3 : decode cX4_isWithin 3 = .ok (.istore 4, 2) := by decide +kernel
theorem dX4_isWithin_5 : decode cX4_isWithin 5 = .ok (.iload 4, 2) := by decide +kernel
theorem dX4_isWithin_7 : decode cX4_isWithin 7 = .ok (.aload_n 0, 1) := by decide +kernel
theorem dX4_isWithin_8 : decode cX4_isWithin 8 = .ok (.getfield 32, 3) := by decide +kernel
theorem dX4_isWithin_11 : decode cX4_isWithin 11 = .ok (.if_icmp .ge 55, 3) := by decide +kernel
theorem dX4_isWithin_14 : decode cX4_isWithin 14 = .ok (.iload_n 3, 1) := by decide +kernel
theorem dX4_isWithin_15 : decode cX4_isWithin 15 = .ok (.ifCond .ne 39, 3) := by decide +kernel
theorem dX4_isWithin_18 : decode cX4_isWithin 18 = .ok (.iload 4, 2) := by decide +kernel
theorem dX4_isWithin_20 : decode cX4_isWithin 20 = .ok (.iload_n 2, 1) := by decide +kernel
theorem dX4_isWithin_21 : decode cX4_isWithin 21 = .ok (.if_icmp .eq 37, 3) := by decide +kernel
theorem dX4_isWithin_24 : decode cX4_isWithin 24 = .ok (.iload_n 1, 1) := by decide +kernel
theorem dX4_isWithin_25 : decode cX4_isWithin 25 = .ok (.aload_n 0, 1) := by decide +kernel
theorem dX4_isWithin_26 : decode cX4_isWithin 26 = .ok (.getfield 7, 3) := by decide +kernel
theorem dX4_isWithin_29 : decode cX4_isWithin 29 = .ok (.iload 4, 2) := by decide +kernel
theorem dX4_isWithin_31 : decode cX4_isWithin 31 = .ok (.iaload, 1) := by decide +kernel
theorem dX4_isWithin_32 : decode cX4_isWithin 32 = .ok (.if_icmp .le 26, 3) := by decide +kernel
theorem dX4_isWithin_35 : decode cX4_isWithin 35 = .ok (.iload_n 1, 1) := by decide +kernel
theorem dX4_isWithin_36 : decode cX4_isWithin 36 = .ok (.aload_n 0, 1) := by decide +kernel
theorem dX4_isWithin_37 : decode cX4_isWithin 37 = .ok (.getfield 7, 3) := by decide +kernel
theorem dX4_isWithin_40 : decode cX4_isWithin 40 = .ok (.iload 4, 2) := by decide +kernel
theorem dX4_isWithin_42 : decode cX4_isWithin 42 = .ok (.iaload, 1) := by decide +kernel
theorem dX4_isWithin_43 : decode cX4_isWithin 43 = .ok (.aload_n 0, 1) := by decide +kernel
theorem dX4_isWithin_44 : decode cX4_isWithin 44 = .ok (.getfield 13, 3) := by decide +kernel
theorem dX4_isWithin_47 : decode cX4_isWithin 47 = .ok (.iload 4, 2) := by decide +kernel
theorem dX4_isWithin_49 : decode cX4_isWithin 49 = .ok (.iaload, 1) := by decide +kernel
theorem dX4_isWithin_50 : decode cX4_isWithin 50 = .ok (.iadd, 1) := by decide +kernel
theorem dX4_isWithin_51 : decode cX4_isWithin 51 = .ok (.if_icmp .ge 7, 3) := by decide +kernel
theorem dX4_isWithin_54 : decode cX4_isWithin 54 = .ok (.iconst 1, 1) := by decide +kernel
theorem dX4_isWithin_55 : decode cX4_isWithin 55 = .ok (.goto 4, 3) := by decide +kernel
theorem dX4_isWithin_58 : decode cX4_isWithin 58 = .ok (.iconst 0, 1) := by decide +kernel
theorem dX4_isWithin_59 : decode cX4_isWithin 59 = .ok (.istore_n 3, 1) := by decide +kernel
theorem dX4_isWithin_60 : decode cX4_isWithin 60 = .ok (.iinc 4 1, 3) := by decide +kernel
theorem dX4_isWithin_63 : decode cX4_isWithin 63 = .ok (.goto (-58), 3) := by decide +kernel
theorem dX4_isWithin_66 : decode cX4_isWithin 66 = .ok (.iload_n 3, 1) := by decide +kernel
theorem dX4_isWithin_67 : decode cX4_isWithin 67 = .ok (.ireturn, 1) := by decide +kernel
theorem dX4_holdsOther_0 : decode cX4_holdsOther 0 = .ok (.iconst 0, 1) := by decide +kernel
theorem dX4_holdsOther_1 : decode cX4_holdsOther 1 = .ok (.istore_n 3, 1) := by decide +kernel
theorem dX4_holdsOther_2 : decode cX4_holdsOther 2 = .ok (.iconst 0, 1) := by decide +kernel
theorem dX4_holdsOther_3 : decode cX4_holdsOther 3 = .ok (.istore 4, 2) := by decide +kernel
theorem dX4_holdsOther_5 : decode cX4_holdsOther 5 = .ok (.iload 4, 2) := by decide +kernel
theorem dX4_holdsOther_7 : decode cX4_holdsOther 7 = .ok (.aload_n 0, 1) := by decide +kernel
theorem dX4_holdsOther_8 : decode cX4_holdsOther 8 = .ok (.getfield 32, 3) := by decide +kernel
theorem dX4_holdsOther_11 : decode cX4_holdsOther 11 = .ok (.if_icmp .ge 43, 3) := by decide +kernel
theorem dX4_holdsOther_14 : decode cX4_holdsOther 14 = .ok (.iload_n 3, 1) := by decide +kernel
theorem dX4_holdsOther_15 : decode cX4_holdsOther 15 = .ok (.ifCond .ne 27, 3) := by decide +kernel
theorem dX4_holdsOther_18 : decode cX4_holdsOther 18 = .ok (.aload_n 0, 1) := by decide +kernel
theorem dX4_holdsOther_19 : decode cX4_holdsOther 19 = .ok (.getfield 7, 3) := by decide +kernel
theorem dX4_holdsOther_22 : decode cX4_holdsOther 22 = .ok (.iload 4, 2) := by decide +kernel
theorem dX4_holdsOther_24 : decode cX4_holdsOther 24 = .ok (.iaload, 1) := by decide +kernel
theorem dX4_holdsOther_25 : decode cX4_holdsOther 25 = .ok (.iload_n 1, 1) := by decide +kernel
theorem dX4_holdsOther_26 : decode cX4_holdsOther 26 = .ok (.if_icmp .le 20, 3) := by decide +kernel
theorem dX4_holdsOther_29 : decode cX4_holdsOther 29 = .ok (.aload_n 0, 1) := by decide +kernel
theorem dX4_holdsOther_30 : decode cX4_holdsOther 30 = .ok (.getfield 7, 3) := by decide +kernel
theorem dX4_holdsOther_33 : decode cX4_holdsOther 33 = .ok (.iload 4, 2) := by decide +kernel
theorem dX4_holdsOther_35 : decode cX4_holdsOther 35 = .ok (.iaload, 1) := by decide +kernel
theorem dX4_holdsOther_36 : decode cX4_holdsOther 36 = .ok (.iload_n 1, 1) := by decide +kernel
theorem dX4_holdsOther_37 : decode cX4_holdsOther 37 = .ok (.iload_n 2, 1) := by decide +kernel
theorem dX4_holdsOther_38 : decode cX4_holdsOther 38 = .ok (.iadd, 1) := by decide +kernel
theorem dX4_holdsOther_39 : decode cX4_holdsOther 39 = .ok (.if_icmp .ge 7, 3) := by decide +kernel
theorem dX4_holdsOther_42 : decode cX4_holdsOther 42 = .ok (.iconst 1, 1) := by decide +kernel
theorem dX4_holdsOther_43 : decode cX4_holdsOther 43 = .ok (.goto 4, 3) := by decide +kernel
theorem dX4_holdsOther_46 : decode cX4_holdsOther 46 = .ok (.iconst 0, 1) := by decide +kernel
theorem dX4_holdsOther_47 : decode cX4_holdsOther 47 = .ok (.istore_n 3, 1) := by decide +kernel
theorem dX4_holdsOther_48 : decode cX4_holdsOther 48 = .ok (.iinc 4 1, 3) := by decide +kernel
theorem dX4_holdsOther_51 : decode cX4_holdsOther 51 = .ok (.goto (-46), 3) := by decide +kernel
theorem dX4_holdsOther_54 : decode cX4_holdsOther 54 = .ok (.iload_n 3, 1) := by decide +kernel
theorem dX4_holdsOther_55 : decode cX4_holdsOther 55 = .ok (.ireturn, 1) := by decide +kernel
set_option maxRecDepth 20000 in
theorem ggX4_put_X4_markAt : GoodIn wsX4_put wsX4_markAt := goodIn_r _ [10, 1, 2, 19, 20, 21, 22, 23, 24, 25, 26, 27, 28, 29] (by decide +kernel) (by decide +kernel)
set_option maxRecDepth 20000 in
theorem gX4_put_X4_markAt : GoodIn wsX4_put (wsV RX4 36 RX4 yX4_markAt wsX4_markAt) := goodIn_app (goodIn_of _ (by decide +kernel)) ggX4_put_X4_markAt
set_option maxRecDepth 20000 in
theorem ggX4_put_X4_isWithin : GoodIn wsX4_put wsX4_isWithin := goodIn_r _ [14, 1, 2, 3, 19, 20, 21, 22, 23, 24, 25, 26, 27, 28, 29] (by decide +kernel) (by decide +kernel)
set_option maxRecDepth 20000 in
theorem gX4_put_X4_isWithin : GoodIn wsX4_put (wsV RX4 40 RX4 yX4_isWithin wsX4_isWithin) := goodIn_app (goodIn_of _ (by decide +kernel)) ggX4_put_X4_isWithin
set_option maxRecDepth 20000 in
theorem ggX4_put_X4_holdsOther : GoodIn wsX4_put wsX4_holdsOther := goodIn_r _ [18, 1, 2, 19, 20, 21, 22, 23, 24, 25, 26, 27, 28, 29] (by decide +kernel) (by decide +kernel)
set_option maxRecDepth 20000 in
theorem gX4_put_X4_holdsOther : GoodIn wsX4_put (wsV RX4 44 RX4 yX4_holdsOther wsX4_holdsOther) := goodIn_app (goodIn_of _ (by decide +kernel)) ggX4_put_X4_holdsOther
theorem dX4_put_0 : decode cX4_put 0 = .ok (.aload_n 0, 1) := by decide +kernel
theorem dX4_put_1 : decode cX4_put 1 = .ok (.iload_n 1, 1) := by decide +kernel
theorem dX4_put_2 : decode cX4_put 2 = .ok (.invokevirtual 36, 3) := by decide +kernel
theorem dX4_put_5 : decode cX4_put 5 = .ok (.istore 5, 2) := by decide +kernel
theorem dX4_put_7 : decode cX4_put 7 = .ok (.aload_n 0, 1) := by decide +kernel
theorem dX4_put_8 : decode cX4_put 8 = .ok (.iload_n 1, 1) := by decide +kernel
theorem dX4_put_9 : decode cX4_put 9 = .ok (.iload 5, 2) := by decide +kernel
theorem dX4_put_11 : decode cX4_put 11 = .ok (.invokevirtual 40, 3) := by decide +kernel
theorem dX4_put_14 : decode cX4_put 14 = .ok (.ifCond .ne 12, 3) := by decide +kernel
theorem dX4_put_17 : decode cX4_put 17 = .ok (.aload_n 0, 1) := by decide +kernel
theorem dX4_put_18 : decode cX4_put 18 = .ok (.iload_n 1, 1) := by decide +kernel
theorem dX4_put_19 : decode cX4_put 19 = .ok (.iload_n 2, 1) := by decide +kernel
theorem dX4_put_20 : decode cX4_put 20 = .ok (.invokevirtual 44, 3) := by decide +kernel
theorem dX4_put_23 : decode cX4_put 23 = .ok (.ifCond .eq 6, 3) := by decide +kernel
theorem dX4_put_26 : decode cX4_put 26 = .ok (.bipush (-3), 2) := by decide +kernel
theorem dX4_put_28 : decode cX4_put 28 = .ok (.ireturn, 1) := by decide +kernel
theorem dX4_put_29 : decode cX4_put 29 = .ok (.iload 5, 2) := by decide +kernel
theorem dX4_put_31 : decode cX4_put 31 = .ok (.iconst (-1), 1) := by decide +kernel
theorem dX4_put_32 : decode cX4_put 32 = .ok (.if_icmp .ne 15, 3) := by decide +kernel
theorem dX4_put_35 : decode cX4_put 35 = .ok (.aload_n 0, 1) := by decide +kernel
theorem dX4_put_36 : decode cX4_put 36 = .ok (.getfield 32, 3) := by decide +kernel
theorem dX4_put_39 : decode cX4_put 39 = .ok (.bipush 40, 2) := by decide +kernel
theorem dX4_put_41 : decode cX4_put 41 = .ok (.if_icmp .ne 6, 3) := by decide +kernel
theorem dX4_put_44 : decode cX4_put 44 = .ok (.bipush (-4), 2) := by decide +kernel
theorem dX4_put_46 : decode cX4_put 46 = .ok (.ireturn, 1) := by decide +kernel
theorem dX4_put_47 : decode cX4_put 47 = .ok (.iload 5, 2) := by decide +kernel
theorem dX4_put_49 : decode cX4_put 49 = .ok (.iconst (-1), 1) := by decide +kernel
theorem dX4_put_50 : decode cX4_put 50 = .ok (.if_icmp .ne 19, 3) := by decide +kernel
theorem dX4_put_53 : decode cX4_put 53 = .ok (.aload_n 0, 1) := by decide +kernel
theorem dX4_put_54 : decode cX4_put 54 = .ok (.getfield 32, 3) := by decide +kernel
theorem dX4_put_57 : decode cX4_put 57 = .ok (.istore 5, 2) := by decide +kernel
theorem dX4_put_59 : decode cX4_put 59 = .ok (.aload_n 0, 1) := by decide +kernel
theorem dX4_put_60 : decode cX4_put 60 = .ok (.dup, 1) := by decide +kernel
theorem dX4_put_61 : decode cX4_put 61 = .ok (.getfield 32, 3) := by decide +kernel
theorem dX4_put_64 : decode cX4_put 64 = .ok (.iconst 1, 1) := by decide +kernel
theorem dX4_put_65 : decode cX4_put 65 = .ok (.iadd, 1) := by decide +kernel
theorem dX4_put_66 : decode cX4_put 66 = .ok (.putfield 32, 3) := by decide +kernel
theorem dX4_put_69 : decode cX4_put 69 = .ok (.aload_n 0, 1) := by decide +kernel
theorem dX4_put_70 : decode cX4_put 70 = .ok (.getfield 7, 3) := by decide +kernel
theorem dX4_put_73 : decode cX4_put 73 = .ok (.iload 5, 2) := by decide +kernel
theorem dX4_put_75 : decode cX4_put 75 = .ok (.iload_n 1, 1) := by decide +kernel
theorem dX4_put_76 : decode cX4_put 76 = .ok (.iastore, 1) := by decide +kernel
theorem dX4_put_77 : decode cX4_put 77 = .ok (.aload_n 0, 1) := by decide +kernel
theorem dX4_put_78 : decode cX4_put 78 = .ok (.getfield 13, 3) := by decide +kernel
theorem dX4_put_81 : decode cX4_put 81 = .ok (.iload 5, 2) := by decide +kernel
theorem dX4_put_83 : decode cX4_put 83 = .ok (.iload_n 2, 1) := by decide +kernel
theorem dX4_put_84 : decode cX4_put 84 = .ok (.iastore, 1) := by decide +kernel
theorem dX4_put_85 : decode cX4_put 85 = .ok (.aload_n 0, 1) := by decide +kernel
theorem dX4_put_86 : decode cX4_put 86 = .ok (.getfield 16, 3) := by decide +kernel
theorem dX4_put_89 : decode cX4_put 89 = .ok (.iload 5, 2) := by decide +kernel
theorem dX4_put_91 : decode cX4_put 91 = .ok (.iload_n 3, 1) := by decide +kernel
theorem dX4_put_92 : decode cX4_put 92 = .ok (.iastore, 1) := by decide +kernel
theorem dX4_put_93 : decode cX4_put 93 = .ok (.aload_n 0, 1) := by decide +kernel
theorem dX4_put_94 : decode cX4_put 94 = .ok (.getfield 19, 3) := by decide +kernel
theorem dX4_put_97 : decode cX4_put 97 = .ok (.iload 5, 2) := by decide +kernel
theorem dX4_put_99 : decode cX4_put 99 = .ok (.iload 4, 2) := by decide +kernel
theorem dX4_put_101 : decode cX4_put 101 = .ok (.iastore, 1) := by decide +kernel
theorem dX4_put_102 : decode cX4_put 102 = .ok (.aload_n 0, 1) := by decide +kernel
theorem dX4_put_103 : decode cX4_put 103 = .ok (.getfield 32, 3) := by decide +kernel
theorem dX4_put_106 : decode cX4_put 106 = .ok (.ireturn, 1) := by decide +kernel
set_option maxRecDepth 20000 in
theorem ggX4_step_X4_in : GoodIn wsX4_step wsX4_in := goodIn_r _ [6] (by decide +kernel) (by decide +kernel)
set_option maxRecDepth 20000 in
theorem gX4_step_X4_in : GoodIn wsX4_step (va_wsS RX4 49 yX4_in wsX4_in) := goodIn_app (goodIn_of _ (by decide +kernel)) ggX4_step_X4_in
set_option maxRecDepth 20000 in
theorem ggX4_step_X4_put : GoodIn wsX4_step wsX4_put := goodIn_r _ [10, 11, 12, 13, 14, 15, 16, 17, 18, 5, 19, 20, 21, 22, 23, 24, 25, 26, 27, 28, 29, 30, 31, 32, 33, 34, 35, 36, 37, 38] (by decide +kernel) (by decide +kernel)
set_option maxRecDepth 20000 in
theorem gX4_step_X4_put : GoodIn wsX4_step (wsV RX4 55 RX4 yX4_put wsX4_put) := goodIn_app (goodIn_of _ (by decide +kernel)) ggX4_step_X4_put
theorem dX4_step_0 : decode cX4_step 0 = .ok (.iload_n 1, 1) := by decide +kernel
theorem dX4_step_1 : decode cX4_step 1 = .ok (.i2l, 1) := by decide +kernel
theorem dX4_step_2 : decode cX4_step 2 = .ok (.lconst 0, 1) := by decide +kernel
theorem dX4_step_3 : decode cX4_step 3 = .ok (.ldc2_w 47, 3) := by decide +kernel
theorem dX4_step_6 : decode cX4_step 6 = .ok (.invokestatic 49, 3) := by decide +kernel
theorem dX4_step_9 : decode cX4_step 9 = .ok (.ifCond .eq 15, 3) := by decide +kernel
theorem dX4_step_12 : decode cX4_step 12 = .ok (.iload_n 2, 1) := by decide +kernel
theorem dX4_step_13 : decode cX4_step 13 = .ok (.i2l, 1) := by decide +kernel
theorem dX4_step_14 : decode cX4_step 14 = .ok (.lconst 1, 1) := by decide +kernel
theorem dX4_step_15 : decode cX4_step 15 = .ok (.ldc2_w 53, 3) := by decide +kernel
theorem dX4_step_18 : decode cX4_step 18 = .ok (.invokestatic 49, 3) := by decide +kernel
theorem dX4_step_21 : decode cX4_step 21 = .ok (.ifCond .ne 6, 3) := by decide +kernel
theorem dX4_step_24 : decode cX4_step 24 = .ok (.bipush (-2), 2) := by decide +kernel
theorem dX4_step_26 : decode cX4_step 26 = .ok (.ireturn, 1) := by decide +kernel
theorem dX4_step_27 : decode cX4_step 27 = .ok (.aload_n 0, 1) := by decide +kernel
theorem dX4_step_28 : decode cX4_step 28 = .ok (.iload_n 1, 1) := by decide +kernel
theorem dX4_step_29 : decode cX4_step 29 = .ok (.iconst 0, 1) := by decide +kernel
theorem dX4_step_30 : decode cX4_step 30 = .ok (.iload_n 2, 1) := by decide +kernel
theorem dX4_step_31 : decode cX4_step 31 = .ok (.iload_n 2, 1) := by decide +kernel
theorem dX4_step_32 : decode cX4_step 32 = .ok (.invokevirtual 55, 3) := by decide +kernel
theorem dX4_step_35 : decode cX4_step 35 = .ok (.ireturn, 1) := by decide +kernel
set_option maxRecDepth 20000 in
theorem ggX4_slope_X4_in : GoodIn wsX4_slope wsX4_in := goodIn_r _ [8] (by decide +kernel) (by decide +kernel)
set_option maxRecDepth 20000 in
theorem gX4_slope_X4_in : GoodIn wsX4_slope (va_wsS RX4 49 yX4_in wsX4_in) := goodIn_app (goodIn_of _ (by decide +kernel)) ggX4_slope_X4_in
set_option maxRecDepth 20000 in
theorem ggX4_slope_X4_put : GoodIn wsX4_slope wsX4_put := goodIn_r _ [12, 13, 14, 15, 16, 17, 18, 19, 20, 7, 21, 22, 23, 24, 25, 26, 27, 28, 29, 30, 31, 32, 33, 34, 35, 36, 37, 38, 39, 40] (by decide +kernel) (by decide +kernel)
set_option maxRecDepth 20000 in
theorem gX4_slope_X4_put : GoodIn wsX4_slope (wsV RX4 55 RX4 yX4_put wsX4_put) := goodIn_app (goodIn_of _ (by decide +kernel)) ggX4_slope_X4_put
theorem dX4_slope_0 : decode cX4_slope 0 = .ok (.iload_n 1, 1) := by decide +kernel
theorem dX4_slope_1 : decode cX4_slope 1 = .ok (.i2l, 1) := by decide +kernel
theorem dX4_slope_2 : decode cX4_slope 2 = .ok (.lconst 0, 1) := by decide +kernel
theorem dX4_slope_3 : decode cX4_slope 3 = .ok (.ldc2_w 47, 3) := by decide +kernel
theorem dX4_slope_6 : decode cX4_slope 6 = .ok (.invokestatic 49, 3) := by decide +kernel
theorem dX4_slope_9 : decode cX4_slope 9 = .ok (.ifCond .eq 48, 3) := by decide +kernel
theorem dX4_slope_12 : decode cX4_slope 12 = .ok (.iload_n 2, 1) := by decide +kernel
theorem dX4_slope_13 : decode cX4_slope 13 = .ok (.i2l, 1) := by decide +kernel
theorem dX4_slope_14 : decode cX4_slope 14 = .ok (.lconst 1, 1) := by decide +kernel
theorem dX4_slope_15 : decode cX4_slope 15 = .ok (.ldc2_w 59, 3) := by decide +kernel
theorem dX4_slope_18 : decode cX4_slope 18 = .ok (.invokestatic 49, 3) := by decide +kernel
theorem dX4_slope_21 : decode cX4_slope 21 = .ok (.ifCond .eq 36, 3) := by decide +kernel
theorem dX4_slope_24 : decode cX4_slope 24 = .ok (.iload_n 3, 1) := by decide +kernel
theorem dX4_slope_25 : decode cX4_slope 25 = .ok (.i2l, 1) := by decide +kernel
theorem dX4_slope_26 : decode cX4_slope 26 = .ok (.lconst 1, 1) := by decide +kernel
theorem dX4_slope_27 : decode cX4_slope 27 = .ok (.ldc2_w 53, 3) := by decide +kernel
theorem dX4_slope_30 : decode cX4_slope 30 = .ok (.invokestatic 49, 3) := by decide +kernel
theorem dX4_slope_33 : decode cX4_slope 33 = .ok (.ifCond .eq 24, 3) := by decide +kernel
theorem dX4_slope_36 : decode cX4_slope 36 = .ok (.iload 4, 2) := by decide +kernel
theorem dX4_slope_38 : decode cX4_slope 38 = .ok (.i2l, 1) := by decide +kernel
theorem dX4_slope_39 : decode cX4_slope 39 = .ok (.lconst 1, 1) := by decide +kernel
theorem dX4_slope_40 : decode cX4_slope 40 = .ok (.ldc2_w 53, 3) := by decide +kernel
theorem dX4_slope_43 : decode cX4_slope 43 = .ok (.invokestatic 49, 3) := by decide +kernel
theorem dX4_slope_46 : decode cX4_slope 46 = .ok (.ifCond .eq 11, 3) := by decide +kernel
theorem dX4_slope_49 : decode cX4_slope 49 = .ok (.iload_n 1, 1) := by decide +kernel
theorem dX4_slope_50 : decode cX4_slope 50 = .ok (.iload_n 2, 1) := by decide +kernel
theorem dX4_slope_51 : decode cX4_slope 51 = .ok (.iadd, 1) := by decide +kernel
theorem dX4_slope_52 : decode cX4_slope 52 = .ok (.ldc 61, 2) := by decide +kernel
theorem dX4_slope_54 : decode cX4_slope 54 = .ok (.if_icmp .le 6, 3) := by decide +kernel
theorem dX4_slope_57 : decode cX4_slope 57 = .ok (.bipush (-2), 2) := by decide +kernel
theorem dX4_slope_59 : decode cX4_slope 59 = .ok (.ireturn, 1) := by decide +kernel
theorem dX4_slope_60 : decode cX4_slope 60 = .ok (.aload_n 0, 1) := by decide +kernel
theorem dX4_slope_61 : decode cX4_slope 61 = .ok (.iload_n 1, 1) := by decide +kernel
theorem dX4_slope_62 : decode cX4_slope 62 = .ok (.iload_n 2, 1) := by decide +kernel
theorem dX4_slope_63 : decode cX4_slope 63 = .ok (.iload_n 3, 1) := by decide +kernel
theorem dX4_slope_64 : decode cX4_slope 64 = .ok (.iload 4, 2) := by decide +kernel
theorem dX4_slope_66 : decode cX4_slope 66 = .ok (.invokevirtual 55, 3) := by decide +kernel
theorem dX4_slope_69 : decode cX4_slope 69 = .ok (.ireturn, 1) := by decide +kernel
set_option maxRecDepth 20000 in
theorem ggX4_modulate_X4_in : GoodIn wsX4_modulate wsX4_in := goodIn_r _ [7] (by decide +kernel) (by decide +kernel)
set_option maxRecDepth 20000 in
theorem gX4_modulate_X4_in : GoodIn wsX4_modulate (va_wsS RX4 49 yX4_in wsX4_in) := goodIn_app (goodIn_of _ (by decide +kernel)) ggX4_modulate_X4_in
set_option maxRecDepth 20000 in
theorem ggX4_modulate_X4_lasts : GoodIn wsX4_modulate wsX4_lasts := goodIn_r _ [11, 1, 4, 5, 6, 7, 12, 13, 14, 15, 16, 17, 18, 19, 20, 21, 22, 23, 24, 41, 42, 43, 44, 45, 46, 47, 48, 49, 50, 51] (by decide +kernel) (by decide +kernel)
set_option maxRecDepth 20000 in
theorem gX4_modulate_X4_lasts : GoodIn wsX4_modulate (wsV RX4 64 RX4 yX4_lasts wsX4_lasts) := goodIn_app (goodIn_of _ (by decide +kernel)) ggX4_modulate_X4_lasts
set_option maxRecDepth 20000 in
theorem ggX4_modulate_X4_put : GoodIn wsX4_modulate wsX4_put := goodIn_r _ [28, 24, 16, 17, 19, 18, 29, 30, 31, 6, 32, 33, 34, 35, 36, 37, 38, 39, 40, 41, 42, 43, 44, 45, 46, 47, 48, 49, 50, 51] (by decide +kernel) (by decide +kernel)
set_option maxRecDepth 20000 in
theorem gX4_modulate_X4_put : GoodIn wsX4_modulate (wsV RX4 55 RX4 yX4_put wsX4_put) := goodIn_app (goodIn_of _ (by decide +kernel)) ggX4_modulate_X4_put
theorem dX4_modulate_0 : decode cX4_modulate 0 = .ok (.iload_n 1, 1) := by decide +kernel
theorem dX4_modulate_1 : decode cX4_modulate 1 = .ok (.i2l, 1) := by decide +kernel
theorem dX4_modulate_2 : decode cX4_modulate 2 = .ok (.lconst 1, 1) := by decide +kernel
theorem dX4_modulate_3 : decode cX4_modulate 3 = .ok (.ldc2_w 47, 3) := by decide +kernel
theorem dX4_modulate_6 : decode cX4_modulate 6 = .ok (.invokestatic 49, 3) := by decide +kernel
theorem dX4_modulate_9 : decode cX4_modulate 9 = .ok (.ifCond .eq 27, 3) := by decide +kernel
theorem dX4_modulate_12 : decode cX4_modulate 12 = .ok (.iload_n 2, 1) := by decide +kernel
theorem dX4_modulate_13 : decode cX4_modulate 13 = .ok (.i2l, 1) := by decide +kernel
theorem dX4_modulate_14 : decode cX4_modulate 14 = .ok (.lconst 1, 1) := by decide +kernel
theorem dX4_modulate_15 : decode cX4_modulate 15 = .ok (.ldc2_w 62, 3) := by decide +kernel
theorem dX4_modulate_18 : decode cX4_modulate 18 = .ok (.invokestatic 49, 3) := by decide +kernel
theorem dX4_modulate_21 : decode cX4_modulate 21 = .ok (.ifCond .eq 15, 3) := by decide +kernel
theorem dX4_modulate_24 : decode cX4_modulate 24 = .ok (.iload_n 3, 1) := by decide +kernel
theorem dX4_modulate_25 : decode cX4_modulate 25 = .ok (.i2l, 1) := by decide +kernel
theorem dX4_modulate_26 : decode cX4_modulate 26 = .ok (.lconst 1, 1) := by decide +kernel
theorem dX4_modulate_27 : decode cX4_modulate 27 = .ok (.ldc2_w 62, 3) := by decide +kernel
theorem dX4_modulate_30 : decode cX4_modulate 30 = .ok (.invokestatic 49, 3) := by decide +kernel
theorem dX4_modulate_33 : decode cX4_modulate 33 = .ok (.ifCond .ne 6, 3) := by decide +kernel
theorem dX4_modulate_36 : decode cX4_modulate 36 = .ok (.bipush (-2), 2) := by decide +kernel
theorem dX4_modulate_38 : decode cX4_modulate 38 = .ok (.ireturn, 1) := by decide +kernel
theorem dX4_modulate_39 : decode cX4_modulate 39 = .ok (.aload_n 0, 1) := by decide +kernel
theorem dX4_modulate_40 : decode cX4_modulate 40 = .ok (.iload_n 1, 1) := by decide +kernel
theorem dX4_modulate_41 : decode cX4_modulate 41 = .ok (.iconst 1, 1) := by decide +kernel
theorem dX4_modulate_42 : decode cX4_modulate 42 = .ok (.isub, 1) := by decide +kernel
theorem dX4_modulate_43 : decode cX4_modulate 43 = .ok (.invokevirtual 64, 3) := by decide +kernel
theorem dX4_modulate_46 : decode cX4_modulate 46 = .ok (.i2l, 1) := by decide +kernel
theorem dX4_modulate_47 : decode cX4_modulate 47 = .ok (.iload_n 2, 1) := by decide +kernel
theorem dX4_modulate_48 : decode cX4_modulate 48 = .ok (.i2l, 1) := by decide +kernel
theorem dX4_modulate_49 : decode cX4_modulate 49 = .ok (.lmul, 1) := by decide +kernel
theorem dX4_modulate_50 : decode cX4_modulate 50 = .ok (.iload_n 3, 1) := by decide +kernel
theorem dX4_modulate_51 : decode cX4_modulate 51 = .ok (.i2l, 1) := by decide +kernel
theorem dX4_modulate_52 : decode cX4_modulate 52 = .ok (.ldiv, 1) := by decide +kernel
theorem dX4_modulate_53 : decode cX4_modulate 53 = .ok (.lstore 4, 2) := by decide +kernel
theorem dX4_modulate_55 : decode cX4_modulate 55 = .ok (.lload 4, 2) := by decide +kernel
theorem dX4_modulate_57 : decode cX4_modulate 57 = .ok (.lconst 1, 1) := by decide +kernel
theorem dX4_modulate_58 : decode cX4_modulate 58 = .ok (.ldc2_w 53, 3) := by decide +kernel
theorem dX4_modulate_61 : decode cX4_modulate 61 = .ok (.invokestatic 49, 3) := by decide +kernel
theorem dX4_modulate_64 : decode cX4_modulate 64 = .ok (.ifCond .ne 6, 3) := by decide +kernel
theorem dX4_modulate_67 : decode cX4_modulate 67 = .ok (.bipush (-3), 2) := by decide +kernel
theorem dX4_modulate_69 : decode cX4_modulate 69 = .ok (.ireturn, 1) := by decide +kernel
theorem dX4_modulate_70 : decode cX4_modulate 70 = .ok (.aload_n 0, 1) := by decide +kernel
theorem dX4_modulate_71 : decode cX4_modulate 71 = .ok (.iload_n 1, 1) := by decide +kernel
theorem dX4_modulate_72 : decode cX4_modulate 72 = .ok (.iconst 0, 1) := by decide +kernel
theorem dX4_modulate_73 : decode cX4_modulate 73 = .ok (.lload 4, 2) := by decide +kernel
theorem dX4_modulate_75 : decode cX4_modulate 75 = .ok (.l2i, 1) := by decide +kernel
theorem dX4_modulate_76 : decode cX4_modulate 76 = .ok (.lload 4, 2) := by decide +kernel
theorem dX4_modulate_78 : decode cX4_modulate 78 = .ok (.l2i, 1) := by decide +kernel
theorem dX4_modulate_79 : decode cX4_modulate 79 = .ok (.invokevirtual 55, 3) := by decide +kernel
theorem dX4_modulate_82 : decode cX4_modulate 82 = .ok (.istore 6, 2) := by decide +kernel
theorem dX4_modulate_84 : decode cX4_modulate 84 = .ok (.iload 6, 2) := by decide +kernel
theorem dX4_modulate_86 : decode cX4_modulate 86 = .ok (.ifCond .ge 8, 3) := by decide +kernel
theorem dX4_modulate_89 : decode cX4_modulate 89 = .ok (.iload 6, 2) := by decide +kernel
theorem dX4_modulate_91 : decode cX4_modulate 91 = .ok (.goto 6, 3) := by decide +kernel
theorem dX4_modulate_94 : decode cX4_modulate 94 = .ok (.lload 4, 2) := by decide +kernel
theorem dX4_modulate_96 : decode cX4_modulate 96 = .ok (.l2i, 1) := by decide +kernel
theorem dX4_modulate_97 : decode cX4_modulate 97 = .ok (.ireturn, 1) := by decide +kernel
set_option maxRecDepth 20000 in
theorem ggX4_drop_X4_markAt : GoodIn wsX4_drop wsX4_markAt := goodIn_r _ [10, 1, 2, 11, 12, 13, 14, 15, 16, 17, 18, 19, 20, 21] (by decide +kernel) (by decide +kernel)
set_option maxRecDepth 20000 in
theorem gX4_drop_X4_markAt : GoodIn wsX4_drop (wsV RX4 36 RX4 yX4_markAt wsX4_markAt) := goodIn_app (goodIn_of _ (by decide +kernel)) ggX4_drop_X4_markAt
theorem dX4_drop_0 : decode cX4_drop 0 = .ok (.aload_n 0, 1) := by decide +kernel
theorem dX4_drop_1 : decode cX4_drop 1 = .ok (.iload_n 1, 1) := by decide +kernel
theorem dX4_drop_2 : decode cX4_drop 2 = .ok (.invokevirtual 36, 3) := by decide +kernel
theorem dX4_drop_5 : decode cX4_drop 5 = .ok (.istore_n 2, 1) := by decide +kernel
theorem dX4_drop_6 : decode cX4_drop 6 = .ok (.iload_n 2, 1) := by decide +kernel
theorem dX4_drop_7 : decode cX4_drop 7 = .ok (.iconst (-1), 1) := by decide +kernel
theorem dX4_drop_8 : decode cX4_drop 8 = .ok (.if_icmp .ne 6, 3) := by decide +kernel
theorem dX4_drop_11 : decode cX4_drop 11 = .ok (.bipush (-3), 2) := by decide +kernel
theorem dX4_drop_13 : decode cX4_drop 13 = .ok (.ireturn, 1) := by decide +kernel
theorem dX4_drop_14 : decode cX4_drop 14 = .ok (.aload_n 0, 1) := by decide +kernel
theorem dX4_drop_15 : decode cX4_drop 15 = .ok (.dup, 1) := by decide +kernel
theorem dX4_drop_16 : decode cX4_drop 16 = .ok (.getfield 32, 3) := by decide +kernel
theorem dX4_drop_19 : decode cX4_drop 19 = .ok (.iconst 1, 1) := by decide +kernel
theorem dX4_drop_20 : decode cX4_drop 20 = .ok (.isub, 1) := by decide +kernel
theorem dX4_drop_21 : decode cX4_drop 21 = .ok (.putfield 32, 3) := by decide +kernel
theorem dX4_drop_24 : decode cX4_drop 24 = .ok (.aload_n 0, 1) := by decide +kernel
theorem dX4_drop_25 : decode cX4_drop 25 = .ok (.getfield 7, 3) := by decide +kernel
theorem dX4_drop_28 : decode cX4_drop 28 = .ok (.iload_n 2, 1) := by decide +kernel
theorem dX4_drop_29 : decode cX4_drop 29 = .ok (.aload_n 0, 1) := by decide +kernel
theorem dX4_drop_30 : decode cX4_drop 30 = .ok (.getfield 7, 3) := by decide +kernel
theorem dX4_drop_33 : decode cX4_drop 33 = .ok (.aload_n 0, 1) := by decide +kernel
theorem dX4_drop_34 : decode cX4_drop 34 = .ok (.getfield 32, 3) := by decide +kernel
theorem dX4_drop_37 : decode cX4_drop 37 = .ok (.iaload, 1) := by decide +kernel
theorem dX4_drop_38 : decode cX4_drop 38 = .ok (.iastore, 1) := by decide +kernel
theorem dX4_drop_39 : decode cX4_drop 39 = .ok (.aload_n 0, 1) := by decide +kernel
theorem dX4_drop_40 : decode cX4_drop 40 = .ok (.getfield 13, 3) := by decide +kernel
theorem dX4_drop_43 : decode cX4_drop 43 = .ok (.iload_n 2, 1) := by decide +kernel
theorem dX4_drop_44 : decode cX4_drop 44 = .ok (.aload_n 0, 1) := by decide +kernel
theorem dX4_drop_45 : decode cX4_drop 45 = .ok (.getfield 13, 3) := by decide +kernel
theorem dX4_drop_48 : decode cX4_drop 48 = .ok (.aload_n 0, 1) := by decide +kernel
theorem dX4_drop_49 : decode cX4_drop 49 = .ok (.getfield 32, 3) := by decide +kernel
theorem dX4_drop_52 : decode cX4_drop 52 = .ok (.iaload, 1) := by decide +kernel
theorem dX4_drop_53 : decode cX4_drop 53 = .ok (.iastore, 1) := by decide +kernel
theorem dX4_drop_54 : decode cX4_drop 54 = .ok (.aload_n 0, 1) := by decide +kernel
theorem dX4_drop_55 : decode cX4_drop 55 = .ok (.getfield 16, 3) := by decide +kernel
theorem dX4_drop_58 : decode cX4_drop 58 = .ok (.iload_n 2, 1) := by decide +kernel
theorem dX4_drop_59 : decode cX4_drop 59 = .ok (.aload_n 0, 1) := by decide +kernel
theorem dX4_drop_60 : decode cX4_drop 60 = .ok (.getfield 16, 3) := by decide +kernel
theorem dX4_drop_63 : decode cX4_drop 63 = .ok (.aload_n 0, 1) := by decide +kernel
theorem dX4_drop_64 : decode cX4_drop 64 = .ok (.getfield 32, 3) := by decide +kernel
theorem dX4_drop_67 : decode cX4_drop 67 = .ok (.iaload, 1) := by decide +kernel
theorem dX4_drop_68 : decode cX4_drop 68 = .ok (.iastore, 1) := by decide +kernel
theorem dX4_drop_69 : decode cX4_drop 69 = .ok (.aload_n 0, 1) := by decide +kernel
theorem dX4_drop_70 : decode cX4_drop 70 = .ok (.getfield 19, 3) := by decide +kernel
theorem dX4_drop_73 : decode cX4_drop 73 = .ok (.iload_n 2, 1) := by decide +kernel
theorem dX4_drop_74 : decode cX4_drop 74 = .ok (.aload_n 0, 1) := by decide +kernel
theorem dX4_drop_75 : decode cX4_drop 75 = .ok (.getfield 19, 3) := by decide +kernel
theorem dX4_drop_78 : decode cX4_drop 78 = .ok (.aload_n 0, 1) := by decide +kernel
theorem dX4_drop_79 : decode cX4_drop 79 = .ok (.getfield 32, 3) := by decide +kernel
theorem dX4_drop_82 : decode cX4_drop 82 = .ok (.iaload, 1) := by decide +kernel
theorem dX4_drop_83 : decode cX4_drop 83 = .ok (.iastore, 1) := by decide +kernel
theorem dX4_drop_84 : decode cX4_drop 84 = .ok (.aload_n 0, 1) := by decide +kernel
theorem dX4_drop_85 : decode cX4_drop 85 = .ok (.getfield 32, 3) := by decide +kernel
theorem dX4_drop_88 : decode cX4_drop 88 = .ok (.ireturn, 1) := by decide +kernel
theorem dX4_holdAt_0 : decode cX4_holdAt 0 = .ok (.iconst (-1), 1) := by decide +kernel
theorem dX4_holdAt_1 : decode cX4_holdAt 1 = .ok (.istore_n 2, 1) := by decide +kernel
theorem dX4_holdAt_2 : decode cX4_holdAt 2 = .ok (.iconst 0, 1) := by decide +kernel
theorem dX4_holdAt_3 : decode cX4_holdAt 3 = .ok (.istore_n 3, 1) := by decide +kernel
theorem dX4_holdAt_4 : decode cX4_holdAt 4 = .ok (.iload_n 3, 1) := by decide +kernel
theorem dX4_holdAt_5 : decode cX4_holdAt 5 = .ok (.aload_n 0, 1) := by decide +kernel
theorem dX4_holdAt_6 : decode cX4_holdAt 6 = .ok (.getfield 67, 3) := by decide +kernel
theorem dX4_holdAt_9 : decode cX4_holdAt 9 = .ok (.if_icmp .ge 25, 3) := by decide +kernel
theorem dX4_holdAt_12 : decode cX4_holdAt 12 = .ok (.aload_n 0, 1) := by decide +kernel
theorem dX4_holdAt_13 : decode cX4_holdAt 13 = .ok (.getfield 22, 3) := by decide +kernel
theorem dX4_holdAt_16 : decode cX4_holdAt 16 = .ok (.iload_n 3, 1) := by decide +kernel
theorem dX4_holdAt_17 : decode cX4_holdAt 17 = .ok (.iaload, 1) := by decide +kernel
theorem dX4_holdAt_18 : decode cX4_holdAt 18 = .ok (.iload_n 1, 1) := by decide +kernel
theorem dX4_holdAt_19 : decode cX4_holdAt 19 = .ok (.if_icmp .ne 7, 3) := by decide +kernel
theorem dX4_holdAt_22 : decode cX4_holdAt 22 = .ok (.iload_n 3, 1) := by decide +kernel
theorem dX4_holdAt_23 : decode cX4_holdAt 23 = .ok (.goto 4, 3) := by decide +kernel
theorem dX4_holdAt_26 : decode cX4_holdAt 26 = .ok (.iload_n 2, 1) := by decide +kernel
theorem dX4_holdAt_27 : decode cX4_holdAt 27 = .ok (.istore_n 2, 1) := by decide +kernel
theorem dX4_holdAt_28 : decode cX4_holdAt 28 = .ok (.iinc 3 1, 3) := by decide +kernel
theorem dX4_holdAt_31 : decode cX4_holdAt 31 = .ok (.goto (-27), 3) := by decide +kernel
theorem dX4_holdAt_34 : decode cX4_holdAt 34 = .ok (.iload_n 2, 1) := by decide +kernel
theorem dX4_holdAt_35 : decode cX4_holdAt 35 = .ok (.ireturn, 1) := by decide +kernel
set_option maxRecDepth 20000 in
theorem ggX4_hold_X4_in : GoodIn wsX4_hold wsX4_in := goodIn_r _ [9] (by decide +kernel) (by decide +kernel)
set_option maxRecDepth 20000 in
theorem gX4_hold_X4_in : GoodIn wsX4_hold (va_wsS RX4 49 yX4_in wsX4_in) := goodIn_app (goodIn_of _ (by decide +kernel)) ggX4_hold_X4_in
set_option maxRecDepth 20000 in
theorem ggX4_hold_X4_holdAt : GoodIn wsX4_hold wsX4_holdAt := goodIn_r _ [13, 3, 4, 14, 15, 16, 17, 18, 19, 20, 21, 22, 23, 24] (by decide +kernel) (by decide +kernel)
set_option maxRecDepth 20000 in
theorem gX4_hold_X4_holdAt : GoodIn wsX4_hold (wsV RX4 72 RX4 yX4_holdAt wsX4_holdAt) := goodIn_app (goodIn_of _ (by decide +kernel)) ggX4_hold_X4_holdAt
theorem dX4_hold_0 : decode cX4_hold 0 = .ok (.iload_n 1, 1) := by decide +kernel
theorem dX4_hold_1 : decode cX4_hold 1 = .ok (.i2l, 1) := by decide +kernel
theorem dX4_hold_2 : decode cX4_hold 2 = .ok (.lconst 0, 1) := by decide +kernel
theorem dX4_hold_3 : decode cX4_hold 3 = .ok (.ldc2_w 53, 3) := by decide +kernel
theorem dX4_hold_6 : decode cX4_hold 6 = .ok (.invokestatic 49, 3) := by decide +kernel
theorem dX4_hold_9 : decode cX4_hold 9 = .ok (.ifCond .eq 15, 3) := by decide +kernel
theorem dX4_hold_12 : decode cX4_hold 12 = .ok (.iload_n 2, 1) := by decide +kernel
theorem dX4_hold_13 : decode cX4_hold 13 = .ok (.i2l, 1) := by decide +kernel
theorem dX4_hold_14 : decode cX4_hold 14 = .ok (.lconst 0, 1) := by decide +kernel
theorem dX4_hold_15 : decode cX4_hold 15 = .ok (.ldc2_w 70, 3) := by decide +kernel
theorem dX4_hold_18 : decode cX4_hold 18 = .ok (.invokestatic 49, 3) := by decide +kernel
theorem dX4_hold_21 : decode cX4_hold 21 = .ok (.ifCond .ne 6, 3) := by decide +kernel
theorem dX4_hold_24 : decode cX4_hold 24 = .ok (.bipush (-2), 2) := by decide +kernel
theorem dX4_hold_26 : decode cX4_hold 26 = .ok (.ireturn, 1) := by decide +kernel
theorem dX4_hold_27 : decode cX4_hold 27 = .ok (.aload_n 0, 1) := by decide +kernel
theorem dX4_hold_28 : decode cX4_hold 28 = .ok (.iload_n 1, 1) := by decide +kernel
theorem dX4_hold_29 : decode cX4_hold 29 = .ok (.invokevirtual 72, 3) := by decide +kernel
theorem dX4_hold_32 : decode cX4_hold 32 = .ok (.istore_n 3, 1) := by decide +kernel
theorem dX4_hold_33 : decode cX4_hold 33 = .ok (.iload_n 2, 1) := by decide +kernel
theorem dX4_hold_34 : decode cX4_hold 34 = .ok (.ifCond .ne 53, 3) := by decide +kernel
theorem dX4_hold_37 : decode cX4_hold 37 = .ok (.iload_n 3, 1) := by decide +kernel
theorem dX4_hold_38 : decode cX4_hold 38 = .ok (.iconst (-1), 1) := by decide +kernel
theorem dX4_hold_39 : decode cX4_hold 39 = .ok (.if_icmp .eq 43, 3) := by decide +kernel
theorem dX4_hold_42 : decode cX4_hold 42 = .ok (.aload_n 0, 1) := by decide +kernel
theorem dX4_hold_43 : decode cX4_hold 43 = .ok (.dup, 1) := by decide +kernel
theorem dX4_hold_44 : decode cX4_hold 44 = .ok (.getfield 67, 3) := by decide +kernel
theorem dX4_hold_47 : decode cX4_hold 47 = .ok (.iconst 1, 1) := by decide +kernel
theorem dX4_hold_48 : decode cX4_hold 48 = .ok (.isub, 1) := by decide +kernel
theorem dX4_hold_49 : decode cX4_hold 49 = .ok (.putfield 67, 3) := by decide +kernel
theorem dX4_hold_52 : decode cX4_hold 52 = .ok (.aload_n 0, 1) := by decide +kernel
theorem dX4_hold_53 : decode cX4_hold 53 = .ok (.getfield 22, 3) := by decide +kernel
theorem dX4_hold_56 : decode cX4_hold 56 = .ok (.iload_n 3, 1) := by decide +kernel
theorem dX4_hold_57 : decode cX4_hold 57 = .ok (.aload_n 0, 1) := by decide +kernel
theorem dX4_hold_58 : decode cX4_hold 58 = .ok (.getfield 22, 3) := by decide +kernel
theorem dX4_hold_61 : decode cX4_hold 61 = .ok (.aload_n 0, 1) := by decide +kernel
theorem dX4_hold_62 : decode cX4_hold 62 = .ok (.getfield 67, 3) := by decide +kernel
theorem dX4_hold_65 : decode cX4_hold 65 = .ok (.iaload, 1) := by decide +kernel
theorem dX4_hold_66 : decode cX4_hold 66 = .ok (.iastore, 1) := by decide +kernel
theorem dX4_hold_67 : decode cX4_hold 67 = .ok (.aload_n 0, 1) := by decide +kernel
theorem dX4_hold_68 : decode cX4_hold 68 = .ok (.getfield 25, 3) := by decide +kernel
theorem dX4_hold_71 : decode cX4_hold 71 = .ok (.iload_n 3, 1) := by decide +kernel
theorem dX4_hold_72 : decode cX4_hold 72 = .ok (.aload_n 0, 1) := by decide +kernel
theorem dX4_hold_73 : decode cX4_hold 73 = .ok (.getfield 25, 3) := by decide +kernel
theorem dX4_hold_76 : decode cX4_hold 76 = .ok (.aload_n 0, 1) := by decide +kernel
theorem dX4_hold_77 : decode cX4_hold 77 = .ok (.getfield 67, 3) := by decide +kernel
theorem dX4_hold_80 : decode cX4_hold 80 = .ok (.iaload, 1) := by decide +kernel
theorem dX4_hold_81 : decode cX4_hold 81 = .ok (.iastore, 1) := by decide +kernel
theorem dX4_hold_82 : decode cX4_hold 82 = .ok (.aload_n 0, 1) := by decide +kernel
theorem dX4_hold_83 : decode cX4_hold 83 = .ok (.getfield 67, 3) := by decide +kernel
theorem dX4_hold_86 : decode cX4_hold 86 = .ok (.ireturn, 1) := by decide +kernel
theorem dX4_hold_87 : decode cX4_hold 87 = .ok (.iload_n 3, 1) := by decide +kernel
theorem dX4_hold_88 : decode cX4_hold 88 = .ok (.iconst (-1), 1) := by decide +kernel
theorem dX4_hold_89 : decode cX4_hold 89 = .ok (.if_icmp .ne 15, 3) := by decide +kernel
theorem dX4_hold_92 : decode cX4_hold 92 = .ok (.aload_n 0, 1) := by decide +kernel
theorem dX4_hold_93 : decode cX4_hold 93 = .ok (.getfield 67, 3) := by decide +kernel
theorem dX4_hold_96 : decode cX4_hold 96 = .ok (.bipush 20, 2) := by decide +kernel
theorem dX4_hold_98 : decode cX4_hold 98 = .ok (.if_icmp .ne 6, 3) := by decide +kernel
theorem dX4_hold_101 : decode cX4_hold 101 = .ok (.bipush (-4), 2) := by decide +kernel
theorem dX4_hold_103 : decode cX4_hold 103 = .ok (.ireturn, 1) := by decide +kernel
theorem dX4_hold_104 : decode cX4_hold 104 = .ok (.iload_n 3, 1) := by decide +kernel
theorem dX4_hold_105 : decode cX4_hold 105 = .ok (.iconst (-1), 1) := by decide +kernel
theorem dX4_hold_106 : decode cX4_hold 106 = .ok (.if_icmp .ne 18, 3) := by decide +kernel
theorem dX4_hold_109 : decode cX4_hold 109 = .ok (.aload_n 0, 1) := by decide +kernel
theorem dX4_hold_110 : decode cX4_hold 110 = .ok (.getfield 67, 3) := by decide +kernel
theorem dX4_hold_113 : decode cX4_hold 113 = .ok (.istore_n 3, 1) := by decide +kernel
theorem dX4_hold_114 : decode cX4_hold 114 = .ok (.aload_n 0, 1) := by decide +kernel
theorem dX4_hold_115 : decode cX4_hold 115 = .ok (.dup, 1) := by decide +kernel
theorem dX4_hold_116 : decode cX4_hold 116 = .ok (.getfield 67, 3) := by decide +kernel
theorem dX4_hold_119 : decode cX4_hold 119 = .ok (.iconst 1, 1) := by decide +kernel
theorem dX4_hold_120 : decode cX4_hold 120 = .ok (.iadd, 1) := by decide +kernel
theorem dX4_hold_121 : decode cX4_hold 121 = .ok (.putfield 67, 3) := by decide +kernel
theorem dX4_hold_124 : decode cX4_hold 124 = .ok (.aload_n 0, 1) := by decide +kernel
theorem dX4_hold_125 : decode cX4_hold 125 = .ok (.getfield 22, 3) := by decide +kernel
theorem dX4_hold_128 : decode cX4_hold 128 = .ok (.iload_n 3, 1) := by decide +kernel
theorem dX4_hold_129 : decode cX4_hold 129 = .ok (.iload_n 1, 1) := by decide +kernel
theorem dX4_hold_130 : decode cX4_hold 130 = .ok (.iastore, 1) := by decide +kernel
theorem dX4_hold_131 : decode cX4_hold 131 = .ok (.aload_n 0, 1) := by decide +kernel
theorem dX4_hold_132 : decode cX4_hold 132 = .ok (.getfield 25, 3) := by decide +kernel
theorem dX4_hold_135 : decode cX4_hold 135 = .ok (.iload_n 3, 1) := by decide +kernel
theorem dX4_hold_136 : decode cX4_hold 136 = .ok (.iload_n 2, 1) := by decide +kernel
theorem dX4_hold_137 : decode cX4_hold 137 = .ok (.iastore, 1) := by decide +kernel
theorem dX4_hold_138 : decode cX4_hold 138 = .ok (.aload_n 0, 1) := by decide +kernel
theorem dX4_hold_139 : decode cX4_hold 139 = .ok (.getfield 67, 3) := by decide +kernel
theorem dX4_hold_142 : decode cX4_hold 142 = .ok (.ireturn, 1) := by decide +kernel
set_option maxRecDepth 20000 in
theorem ggX4_mark_X4_in : GoodIn wsX4_mark wsX4_in := goodIn_r _ [10] (by decide +kernel) (by decide +kernel)
set_option maxRecDepth 20000 in
theorem gX4_mark_X4_in : GoodIn wsX4_mark (va_wsS RX4 49 yX4_in wsX4_in) := goodIn_app (goodIn_of _ (by decide +kernel)) ggX4_mark_X4_in
theorem dX4_mark_0 : decode cX4_mark 0 = .ok (.iload_n 2, 1) := by decide +kernel
theorem dX4_mark_1 : decode cX4_mark 1 = .ok (.i2l, 1) := by decide +kernel
theorem dX4_mark_2 : decode cX4_mark 2 = .ok (.lconst 0, 1) := by decide +kernel
theorem dX4_mark_3 : decode cX4_mark 3 = .ok (.ldc2_w 75, 3) := by decide +kernel
theorem dX4_mark_6 : decode cX4_mark 6 = .ok (.invokestatic 49, 3) := by decide +kernel
theorem dX4_mark_9 : decode cX4_mark 9 = .ok (.ifCond .ne 6, 3) := by decide +kernel
theorem dX4_mark_12 : decode cX4_mark 12 = .ok (.bipush (-2), 2) := by decide +kernel
theorem dX4_mark_14 : decode cX4_mark 14 = .ok (.ireturn, 1) := by decide +kernel
theorem dX4_mark_15 : decode cX4_mark 15 = .ok (.iload_n 1, 1) := by decide +kernel
theorem dX4_mark_16 : decode cX4_mark 16 = .ok (.i2l, 1) := by decide +kernel
theorem dX4_mark_17 : decode cX4_mark 17 = .ok (.lconst 0, 1) := by decide +kernel
theorem dX4_mark_18 : decode cX4_mark 18 = .ok (.aload_n 0, 1) := by decide +kernel
theorem dX4_mark_19 : decode cX4_mark 19 = .ok (.getfield 32, 3) := by decide +kernel
theorem dX4_mark_22 : decode cX4_mark 22 = .ok (.iconst 1, 1) := by decide +kernel
theorem dX4_mark_23 : decode cX4_mark 23 = .ok (.isub, 1) := by decide +kernel
theorem dX4_mark_24 : decode cX4_mark 24 = .ok (.i2l, 1) := by decide +kernel
theorem dX4_mark_25 : decode cX4_mark 25 = .ok (.invokestatic 49, 3) := by decide +kernel
theorem dX4_mark_28 : decode cX4_mark 28 = .ok (.ifCond .ne 5, 3) := by decide +kernel
theorem dX4_mark_31 : decode cX4_mark 31 = .ok (.iconst (-1), 1) := by decide +kernel
theorem dX4_mark_32 : decode cX4_mark 32 = .ok (.ireturn, 1) := by decide +kernel
theorem dX4_mark_33 : decode cX4_mark 33 = .ok (.iconst (-1), 1) := by decide +kernel
theorem dX4_mark_34 : decode cX4_mark 34 = .ok (.istore_n 3, 1) := by decide +kernel
theorem dX4_mark_35 : decode cX4_mark 35 = .ok (.iconst 0, 1) := by decide +kernel
theorem dX4_mark_36 : decode cX4_mark 36 = .ok (.istore 4, 2) := by decide +kernel
theorem dX4_mark_38 : decode cX4_mark 38 = .ok (.iload 4, 2) := by decide +kernel
theorem dX4_mark_40 : decode cX4_mark 40 = .ok (.aload_n 0, 1) := by decide +kernel
theorem dX4_mark_41 : decode cX4_mark 41 = .ok (.getfield 32, 3) := by decide +kernel
theorem dX4_mark_44 : decode cX4_mark 44 = .ok (.if_icmp .ge 70, 3) := by decide +kernel
theorem dX4_mark_47 : decode cX4_mark 47 = .ok (.iconst 0, 1) := by decide +kernel
theorem dX4_mark_48 : decode cX4_mark 48 = .ok (.istore 5, 2) := by decide +kernel
theorem dX4_mark_50 : decode cX4_mark 50 = .ok (.iconst 0, 1) := by decide +kernel
theorem dX4_mark_51 : decode cX4_mark 51 = .ok (.istore 6, 2) := by decide +kernel
theorem dX4_mark_53 : decode cX4_mark 53 = .ok (.iload 6, 2) := by decide +kernel
theorem dX4_mark_55 : decode cX4_mark 55 = .ok (.aload_n 0, 1) := by decide +kernel
theorem dX4_mark_56 : decode cX4_mark 56 = .ok (.getfield 32, 3) := by decide +kernel
theorem dX4_mark_59 : decode cX4_mark 59 = .ok (.if_icmp .ge 36, 3) := by decide +kernel
theorem dX4_mark_62 : decode cX4_mark 62 = .ok (.iload 5, 2) := by decide +kernel
theorem dX4_mark_64 : decode cX4_mark 64 = .ok (.aload_n 0, 1) := by decide +kernel
theorem dX4_mark_65 : decode cX4_mark 65 = .ok (.getfield 7, 3) := by decide +kernel
theorem dX4_mark_68 : decode cX4_mark 68 = .ok (.iload 6, 2) := by decide +kernel
theorem dX4_mark_70 : decode cX4_mark 70 = .ok (.iaload, 1) := by decide +kernel
theorem dX4_mark_71 : decode cX4_mark 71 = .ok (.aload_n 0, 1) := by decide +kernel
theorem dX4_mark_72 : decode cX4_mark 72 = .ok (.getfield 7, 3) := by decide +kernel
theorem dX4_mark_75 : decode cX4_mark 75 = .ok (.iload 4, 2) := by decide +kernel
theorem dX4_mark_77 : decode cX4_mark 77 = .ok (.iaload, 1) := by decide +kernel
theorem dX4_mark_78 : decode cX4_mark 78 = .ok (.if_icmp .ge 7, 3) := by decide +kernel
theorem dX4_mark_81 : decode cX4_mark 81 = .ok (.iconst 1, 1) := by decide +kernel
theorem dX4_mark_82 : decode cX4_mark 82 = .ok (.goto 4, 3) := by decide +kernel
theorem dX4_mark_85 : decode cX4_mark 85 = .ok (.iconst 0, 1) := by decide +kernel
theorem dX4_mark_86 : decode cX4_mark 86 = .ok (.iadd, 1) := by decide +kernel
theorem dX4_mark_87 : decode cX4_mark 87 = .ok (.istore 5, 2) := by decide +kernel
theorem dX4_mark_89 : decode cX4_mark 89 = .ok (.iinc 6 1, 3) := by decide +kernel
theorem dX4_mark_92 : decode cX4_mark 92 = .ok (.goto (-39), 3) := by decide +kernel
theorem dX4_mark_95 : decode cX4_mark 95 = .ok (.iload 5, 2) := by decide +kernel
theorem dX4_mark_97 : decode cX4_mark 97 = .ok (.iload_n 1, 1) := by decide +kernel
theorem dX4_mark_98 : decode cX4_mark 98 = .ok (.if_icmp .ne 8, 3) := by decide +kernel
theorem dX4_mark_101 : decode cX4_mark 101 = .ok (.iload 4, 2) := by decide +kernel
theorem dX4_mark_103 : decode cX4_mark 103 = .ok (.goto 4, 3) := by decide +kernel
theorem dX4_mark_106 : decode cX4_mark 106 = .ok (.iload_n 3, 1) := by decide +kernel
theorem dX4_mark_107 : decode cX4_mark 107 = .ok (.istore_n 3, 1) := by decide +kernel
theorem dX4_mark_108 : decode cX4_mark 108 = .ok (.iinc 4 1, 3) := by decide +kernel
theorem dX4_mark_111 : decode cX4_mark 111 = .ok (.goto (-73), 3) := by decide +kernel
theorem dX4_mark_114 : decode cX4_mark 114 = .ok (.iload_n 2, 1) := by decide +kernel
theorem dX4_mark_115 : decode cX4_mark 115 = .ok (.ifCond .ne 12, 3) := by decide +kernel
theorem dX4_mark_118 : decode cX4_mark 118 = .ok (.aload_n 0, 1) := by decide +kernel
theorem dX4_mark_119 : decode cX4_mark 119 = .ok (.getfield 7, 3) := by decide +kernel
theorem dX4_mark_122 : decode cX4_mark 122 = .ok (.iload_n 3, 1) := by decide +kernel
theorem dX4_mark_123 : decode cX4_mark 123 = .ok (.iaload, 1) := by decide +kernel
theorem dX4_mark_124 : decode cX4_mark 124 = .ok (.goto 59, 3) := by decide +kernel
theorem dX4_mark_127 : decode cX4_mark 127 = .ok (.iload_n 2, 1) := by decide +kernel
theorem dX4_mark_128 : decode cX4_mark 128 = .ok (.iconst 1, 1) := by decide +kernel
theorem dX4_mark_129 : decode cX4_mark 129 = .ok (.if_icmp .ne 20, 3) := by decide +kernel
theorem dX4_mark_132 : decode cX4_mark 132 = .ok (.aload_n 0, 1) := by decide +kernel
theorem dX4_mark_133 : decode cX4_mark 133 = .ok (.getfield 13, 3) := by decide +kernel
theorem dX4_mark_136 : decode cX4_mark 136 = .ok (.iload_n 3, 1) := by decide +kernel
theorem dX4_mark_137 : decode cX4_mark 137 = .ok (.iaload, 1) := by decide +kernel
theorem dX4_mark_138 : decode cX4_mark 138 = .ok (.ifCond .le 7, 3) := by decide +kernel
theorem dX4_mark_141 : decode cX4_mark 141 = .ok (.iconst 1, 1) := by decide +kernel
theorem dX4_mark_142 : decode cX4_mark 142 = .ok (.goto 41, 3) := by decide +kernel
theorem dX4_mark_145 : decode cX4_mark 145 = .ok (.iconst 0, 1) := by decide +kernel
theorem dX4_mark_146 : decode cX4_mark 146 = .ok (.goto 37, 3) := by decide +kernel
theorem dX4_mark_149 : decode cX4_mark 149 = .ok (.iload_n 2, 1) := by decide +kernel
theorem dX4_mark_150 : decode cX4_mark 150 = .ok (.iconst 2, 1) := by decide +kernel
theorem dX4_mark_151 : decode cX4_mark 151 = .ok (.if_icmp .ne 12, 3) := by decide +kernel
theorem dX4_mark_154 : decode cX4_mark 154 = .ok (.aload_n 0, 1) := by decide +kernel
theorem dX4_mark_155 : decode cX4_mark 155 = .ok (.getfield 16, 3) := by decide +kernel
theorem dX4_mark_158 : decode cX4_mark 158 = .ok (.iload_n 3, 1) := by decide +kernel
theorem dX4_mark_159 : decode cX4_mark 159 = .ok (.iaload, 1) := by decide +kernel
theorem dX4_mark_160 : decode cX4_mark 160 = .ok (.goto 23, 3) := by decide +kernel
theorem dX4_mark_163 : decode cX4_mark 163 = .ok (.iload_n 2, 1) := by decide +kernel
theorem dX4_mark_164 : decode cX4_mark 164 = .ok (.iconst 3, 1) := by decide +kernel
theorem dX4_mark_165 : decode cX4_mark 165 = .ok (.if_icmp .ne 12, 3) := by decide +kernel
theorem dX4_mark_168 : decode cX4_mark 168 = .ok (.aload_n 0, 1) := by decide +kernel
theorem dX4_mark_169 : decode cX4_mark 169 = .ok (.getfield 19, 3) := by decide +kernel
theorem dX4_mark_172 : decode cX4_mark 172 = .ok (.iload_n 3, 1) := by decide +kernel
theorem dX4_mark_173 : decode cX4_mark 173 = .ok (.iaload, 1) := by decide +kernel
theorem dX4_mark_174 : decode cX4_mark 174 = .ok (.goto 9, 3) := by decide +kernel
theorem dX4_mark_177 : decode cX4_mark 177 = .ok (.aload_n 0, 1) := by decide +kernel
theorem dX4_mark_178 : decode cX4_mark 178 = .ok (.getfield 13, 3) := by decide +kernel
theorem dX4_mark_181 : decode cX4_mark 181 = .ok (.iload_n 3, 1) := by decide +kernel
theorem dX4_mark_182 : decode cX4_mark 182 = .ok (.iaload, 1) := by decide +kernel
theorem dX4_mark_183 : decode cX4_mark 183 = .ok (.ireturn, 1) := by decide +kernel
theorem dX4_count_0 : decode cX4_count 0 = .ok (.iload_n 1, 1) := by decide +kernel
theorem dX4_count_1 : decode cX4_count 1 = .ok (.ifCond .ne 10, 3) := by decide +kernel
theorem dX4_count_4 : decode cX4_count 4 = .ok (.aload_n 0, 1) := by decide +kernel
theorem dX4_count_5 : decode cX4_count 5 = .ok (.getfield 32, 3) := by decide +kernel
theorem dX4_count_8 : decode cX4_count 8 = .ok (.goto 29, 3) := by decide +kernel
theorem dX4_count_11 : decode cX4_count 11 = .ok (.iload_n 1, 1) := by decide +kernel
theorem dX4_count_12 : decode cX4_count 12 = .ok (.iconst 1, 1) := by decide +kernel
theorem dX4_count_13 : decode cX4_count 13 = .ok (.if_icmp .ne 10, 3) := by decide +kernel
theorem dX4_count_16 : decode cX4_count 16 = .ok (.aload_n 0, 1) := by decide +kernel
theorem dX4_count_17 : decode cX4_count 17 = .ok (.getfield 67, 3) := by decide +kernel
theorem dX4_count_20 : decode cX4_count 20 = .ok (.goto 17, 3) := by decide +kernel
theorem dX4_count_23 : decode cX4_count 23 = .ok (.iload_n 1, 1) := by decide +kernel
theorem dX4_count_24 : decode cX4_count 24 = .ok (.iconst 2, 1) := by decide +kernel
theorem dX4_count_25 : decode cX4_count 25 = .ok (.if_icmp .ne 10, 3) := by decide +kernel
theorem dX4_count_28 : decode cX4_count 28 = .ok (.aload_n 0, 1) := by decide +kernel
theorem dX4_count_29 : decode cX4_count 29 = .ok (.getfield 77, 3) := by decide +kernel
theorem dX4_count_32 : decode cX4_count 32 = .ok (.goto 5, 3) := by decide +kernel
theorem dX4_count_35 : decode cX4_count 35 = .ok (.bipush (-2), 2) := by decide +kernel
theorem dX4_count_37 : decode cX4_count 37 = .ok (.ireturn, 1) := by decide +kernel
theorem dX4_markOf_0 : decode cX4_markOf 0 = .ok (.iconst (-1), 1) := by decide +kernel
theorem dX4_markOf_1 : decode cX4_markOf 1 = .ok (.istore_n 2, 1) := by decide +kernel
theorem dX4_markOf_2 : decode cX4_markOf 2 = .ok (.iconst 0, 1) := by decide +kernel
theorem dX4_markOf_3 : decode cX4_markOf 3 = .ok (.istore_n 3, 1) := by decide +kernel
theorem dX4_markOf_4 : decode cX4_markOf 4 = .ok (.iload_n 3, 1) := by decide +kernel
theorem dX4_markOf_5 : decode cX4_markOf 5 = .ok (.aload_n 0, 1) := by decide +kernel
theorem dX4_markOf_6 : decode cX4_markOf 6 = .ok (.getfield 32, 3) := by decide +kernel
theorem dX4_markOf_9 : decode cX4_markOf 9 = .ok (.if_icmp .ge 45, 3) := by decide +kernel
theorem dX4_markOf_12 : decode cX4_markOf 12 = .ok (.aload_n 0, 1) := by decide +kernel
theorem dX4_markOf_13 : decode cX4_markOf 13 = .ok (.getfield 7, 3) := by decide +kernel
theorem dX4_markOf_16 : decode cX4_markOf 16 = .ok (.iload_n 3, 1) := by decide +kernel
theorem dX4_markOf_17 : decode cX4_markOf 17 = .ok (.iaload, 1) := by decide +kernel
theorem dX4_markOf_18 : decode cX4_markOf 18 = .ok (.iload_n 1, 1) := by decide +kernel
theorem dX4_markOf_19 : decode cX4_markOf 19 = .ok (.if_icmp .gt 27, 3) := by decide +kernel
theorem dX4_markOf_22 : decode cX4_markOf 22 = .ok (.iload_n 2, 1) := by decide +kernel
theorem dX4_markOf_23 : decode cX4_markOf 23 = .ok (.iconst (-1), 1) := by decide +kernel
theorem dX4_markOf_24 : decode cX4_markOf 24 = .ok (.if_icmp .eq 18, 3) := by decide +kernel
theorem dX4_markOf_27 : decode cX4_markOf 27 = .ok (.aload_n 0, 1) := by decide +kernel
theorem dX4_markOf_28 : decode cX4_markOf 28 = .ok (.getfield 7, 3) := by decide +kernel
theorem dX4_markOf_31 : decode cX4_markOf 31 = .ok (.iload_n 3, 1) := by decide +kernel
theorem dX4_markOf_32 : decode cX4_markOf 32 = .ok (.iaload, 1) := by decide +kernel
theorem dX4_markOf_33 : decode cX4_markOf 33 = .ok (.aload_n 0, 1) := by decide +kernel
theorem dX4_markOf_34 : decode cX4_markOf 34 = .ok (.getfield 7, 3) := by decide +kernel
theorem dX4_markOf_37 : decode cX4_markOf 37 = .ok (.iload_n 2, 1) := by decide +kernel
theorem dX4_markOf_38 : decode cX4_markOf 38 = .ok (.iaload, 1) := by decide +kernel
theorem dX4_markOf_39 : decode cX4_markOf 39 = .ok (.if_icmp .le 7, 3) := by decide +kernel
theorem dX4_markOf_42 : decode cX4_markOf 42 = .ok (.iload_n 3, 1) := by decide +kernel
theorem dX4_markOf_43 : decode cX4_markOf 43 = .ok (.goto 4, 3) := by decide +kernel
theorem dX4_markOf_46 : decode cX4_markOf 46 = .ok (.iload_n 2, 1) := by decide +kernel
theorem dX4_markOf_47 : decode cX4_markOf 47 = .ok (.istore_n 2, 1) := by decide +kernel
theorem dX4_markOf_48 : decode cX4_markOf 48 = .ok (.iinc 3 1, 3) := by decide +kernel
theorem dX4_markOf_51 : decode cX4_markOf 51 = .ok (.goto (-47), 3) := by decide +kernel
theorem dX4_markOf_54 : decode cX4_markOf 54 = .ok (.iload_n 2, 1) := by decide +kernel
theorem dX4_markOf_55 : decode cX4_markOf 55 = .ok (.ireturn, 1) := by decide +kernel
set_option maxRecDepth 20000 in
theorem ggX4_paceAt_X4_markOf : GoodIn wsX4_paceAt wsX4_markOf := goodIn_r _ [9, 10, 1, 11, 12, 13, 14, 15, 16, 17, 18, 19, 20, 21] (by decide +kernel) (by decide +kernel)
set_option maxRecDepth 20000 in
theorem gX4_paceAt_X4_markOf : GoodIn wsX4_paceAt (wsV RX4 80 RX4 yX4_markOf wsX4_markOf) := goodIn_app (goodIn_of _ (by decide +kernel)) ggX4_paceAt_X4_markOf
theorem dX4_paceAt_0 : decode cX4_paceAt 0 = .ok (.aload_n 0, 1) := by decide +kernel
theorem dX4_paceAt_1 : decode cX4_paceAt 1 = .ok (.iload_n 1, 1) := by decide +kernel
theorem dX4_paceAt_2 : decode cX4_paceAt 2 = .ok (.invokevirtual 80, 3) := by decide +kernel
theorem dX4_paceAt_5 : decode cX4_paceAt 5 = .ok (.istore_n 2, 1) := by decide +kernel
theorem dX4_paceAt_6 : decode cX4_paceAt 6 = .ok (.iload_n 2, 1) := by decide +kernel
theorem dX4_paceAt_7 : decode cX4_paceAt 7 = .ok (.iconst (-1), 1) := by decide +kernel
theorem dX4_paceAt_8 : decode cX4_paceAt 8 = .ok (.if_icmp .ne 7, 3) := by decide +kernel
theorem dX4_paceAt_11 : decode cX4_paceAt 11 = .ok (.sipush 1000, 3) := by decide +kernel
theorem dX4_paceAt_14 : decode cX4_paceAt 14 = .ok (.ireturn, 1) := by decide +kernel
theorem dX4_paceAt_15 : decode cX4_paceAt 15 = .ok (.iload_n 1, 1) := by decide +kernel
theorem dX4_paceAt_16 : decode cX4_paceAt 16 = .ok (.aload_n 0, 1) := by decide +kernel
theorem dX4_paceAt_17 : decode cX4_paceAt 17 = .ok (.getfield 7, 3) := by decide +kernel
theorem dX4_paceAt_20 : decode cX4_paceAt 20 = .ok (.iload_n 2, 1) := by decide +kernel
theorem dX4_paceAt_21 : decode cX4_paceAt 21 = .ok (.iaload, 1) := by decide +kernel
theorem dX4_paceAt_22 : decode cX4_paceAt 22 = .ok (.isub, 1) := by decide +kernel
theorem dX4_paceAt_23 : decode cX4_paceAt 23 = .ok (.istore_n 3, 1) := by decide +kernel
theorem dX4_paceAt_24 : decode cX4_paceAt 24 = .ok (.iload_n 3, 1) := by decide +kernel
theorem dX4_paceAt_25 : decode cX4_paceAt 25 = .ok (.aload_n 0, 1) := by decide +kernel
theorem dX4_paceAt_26 : decode cX4_paceAt 26 = .ok (.getfield 13, 3) := by decide +kernel
theorem dX4_paceAt_29 : decode cX4_paceAt 29 = .ok (.iload_n 2, 1) := by decide +kernel
theorem dX4_paceAt_30 : decode cX4_paceAt 30 = .ok (.iaload, 1) := by decide +kernel
theorem dX4_paceAt_31 : decode cX4_paceAt 31 = .ok (.if_icmp .lt 10, 3) := by decide +kernel
theorem dX4_paceAt_34 : decode cX4_paceAt 34 = .ok (.aload_n 0, 1) := by decide +kernel
theorem dX4_paceAt_35 : decode cX4_paceAt 35 = .ok (.getfield 19, 3) := by decide +kernel
theorem dX4_paceAt_38 : decode cX4_paceAt 38 = .ok (.iload_n 2, 1) := by decide +kernel
theorem dX4_paceAt_39 : decode cX4_paceAt 39 = .ok (.iaload, 1) := by decide +kernel
theorem dX4_paceAt_40 : decode cX4_paceAt 40 = .ok (.ireturn, 1) := by decide +kernel
theorem dX4_paceAt_41 : decode cX4_paceAt 41 = .ok (.aload_n 0, 1) := by decide +kernel
theorem dX4_paceAt_42 : decode cX4_paceAt 42 = .ok (.getfield 19, 3) := by decide +kernel
theorem dX4_paceAt_45 : decode cX4_paceAt 45 = .ok (.iload_n 2, 1) := by decide +kernel
theorem dX4_paceAt_46 : decode cX4_paceAt 46 = .ok (.iaload, 1) := by decide +kernel
theorem dX4_paceAt_47 : decode cX4_paceAt 47 = .ok (.aload_n 0, 1) := by decide +kernel
theorem dX4_paceAt_48 : decode cX4_paceAt 48 = .ok (.getfield 16, 3) := by decide +kernel
theorem dX4_paceAt_51 : decode cX4_paceAt 51 = .ok (.iload_n 2, 1) := by decide +kernel
theorem dX4_paceAt_52 : decode cX4_paceAt 52 = .ok (.iaload, 1) := by decide +kernel
theorem dX4_paceAt_53 : decode cX4_paceAt 53 = .ok (.isub, 1) := by decide +kernel
theorem dX4_paceAt_54 : decode cX4_paceAt 54 = .ok (.i2l, 1) := by decide +kernel
theorem dX4_paceAt_55 : decode cX4_paceAt 55 = .ok (.iload_n 3, 1) := by decide +kernel
theorem dX4_paceAt_56 : decode cX4_paceAt 56 = .ok (.i2l, 1) := by decide +kernel
theorem dX4_paceAt_57 : decode cX4_paceAt 57 = .ok (.lmul, 1) := by decide +kernel
theorem dX4_paceAt_58 : decode cX4_paceAt 58 = .ok (.lstore 4, 2) := by decide +kernel
theorem dX4_paceAt_60 : decode cX4_paceAt 60 = .ok (.aload_n 0, 1) := by decide +kernel
theorem dX4_paceAt_61 : decode cX4_paceAt 61 = .ok (.getfield 13, 3) := by decide +kernel
theorem dX4_paceAt_64 : decode cX4_paceAt 64 = .ok (.iload_n 2, 1) := by decide +kernel
theorem dX4_paceAt_65 : decode cX4_paceAt 65 = .ok (.iaload, 1) := by decide +kernel
theorem dX4_paceAt_66 : decode cX4_paceAt 66 = .ok (.i2l, 1) := by decide +kernel
theorem dX4_paceAt_67 : decode cX4_paceAt 67 = .ok (.lstore 6, 2) := by decide +kernel
theorem dX4_paceAt_69 : decode cX4_paceAt 69 = .ok (.lload 4, 2) := by decide +kernel
theorem dX4_paceAt_71 : decode cX4_paceAt 71 = .ok (.lconst 0, 1) := by decide +kernel
theorem dX4_paceAt_72 : decode cX4_paceAt 72 = .ok (.lcmp, 1) := by decide +kernel
theorem dX4_paceAt_73 : decode cX4_paceAt 73 = .ok (.ifCond .lt 11, 3) := by decide +kernel
theorem dX4_paceAt_76 : decode cX4_paceAt 76 = .ok (.lload 4, 2) := by decide +kernel
theorem dX4_paceAt_78 : decode cX4_paceAt 78 = .ok (.lload 6, 2) := by decide +kernel
theorem dX4_paceAt_80 : decode cX4_paceAt 80 = .ok (.ldiv, 1) := by decide +kernel
theorem dX4_paceAt_81 : decode cX4_paceAt 81 = .ok (.goto 15, 3) := by decide +kernel
theorem dX4_paceAt_84 : decode cX4_paceAt 84 = .ok (.lload 4, 2) := by decide +kernel
theorem dX4_paceAt_86 : decode cX4_paceAt 86 = .ok (.lneg, 1) := by decide +kernel
theorem dX4_paceAt_87 : decode cX4_paceAt 87 = .ok (.lload 6, 2) := by decide +kernel
theorem dX4_paceAt_89 : decode cX4_paceAt 89 = .ok (.ladd, 1) := by decide +kernel
theorem dX4_paceAt_90 : decode cX4_paceAt 90 = .ok (.lconst 1, 1) := by decide +kernel
theorem dX4_paceAt_91 : decode cX4_paceAt 91 = .ok (.lsub, 1) := by decide +kernel
theorem dX4_paceAt_92 : decode cX4_paceAt 92 = .ok (.lload 6, 2) := by decide +kernel
theorem dX4_paceAt_94 : decode cX4_paceAt 94 = .ok (.ldiv, 1) := by decide +kernel
theorem dX4_paceAt_95 : decode cX4_paceAt 95 = .ok (.lneg, 1) := by decide +kernel
theorem dX4_paceAt_96 : decode cX4_paceAt 96 = .ok (.lstore 8, 2) := by decide +kernel
theorem dX4_paceAt_98 : decode cX4_paceAt 98 = .ok (.aload_n 0, 1) := by decide +kernel
theorem dX4_paceAt_99 : decode cX4_paceAt 99 = .ok (.getfield 16, 3) := by decide +kernel
theorem dX4_paceAt_102 : decode cX4_paceAt 102 = .ok (.iload_n 2, 1) := by decide +kernel
theorem dX4_paceAt_103 : decode cX4_paceAt 103 = .ok (.iaload, 1) := by decide +kernel
theorem dX4_paceAt_104 : decode cX4_paceAt 104 = .ok (.lload 8, 2) := by decide +kernel
theorem dX4_paceAt_106 : decode cX4_paceAt 106 = .ok (.l2i, 1) := by decide +kernel
theorem dX4_paceAt_107 : decode cX4_paceAt 107 = .ok (.iadd, 1) := by decide +kernel
theorem dX4_paceAt_108 : decode cX4_paceAt 108 = .ok (.ireturn, 1) := by decide +kernel
set_option maxRecDepth 20000 in
theorem ggX4_lasts_X4_in : GoodIn wsX4_lasts wsX4_in := goodIn_r _ [5] (by decide +kernel) (by decide +kernel)
set_option maxRecDepth 20000 in
theorem gX4_lasts_X4_in : GoodIn wsX4_lasts (va_wsS RX4 49 yX4_in wsX4_in) := goodIn_app (goodIn_of _ (by decide +kernel)) ggX4_lasts_X4_in
set_option maxRecDepth 20000 in
theorem ggX4_lasts_X4_paceAt : GoodIn wsX4_lasts wsX4_paceAt := goodIn_r _ [9, 10, 11, 12, 13, 14, 15, 16, 4, 17, 18, 19, 20, 21, 22, 23, 24, 25, 26, 27, 28, 29] (by decide +kernel) (by decide +kernel)
set_option maxRecDepth 20000 in
theorem gX4_lasts_X4_paceAt : GoodIn wsX4_lasts (wsV RX4 83 RX4 yX4_paceAt wsX4_paceAt) := goodIn_app (goodIn_of _ (by decide +kernel)) ggX4_lasts_X4_paceAt
theorem dX4_lasts_0 : decode cX4_lasts 0 = .ok (.iload_n 1, 1) := by decide +kernel
theorem dX4_lasts_1 : decode cX4_lasts 1 = .ok (.i2l, 1) := by decide +kernel
theorem dX4_lasts_2 : decode cX4_lasts 2 = .ok (.lconst 0, 1) := by decide +kernel
theorem dX4_lasts_3 : decode cX4_lasts 3 = .ok (.ldc2_w 47, 3) := by decide +kernel
theorem dX4_lasts_6 : decode cX4_lasts 6 = .ok (.invokestatic 49, 3) := by decide +kernel
theorem dX4_lasts_9 : decode cX4_lasts 9 = .ok (.ifCond .eq 11, 3) := by decide +kernel
theorem dX4_lasts_12 : decode cX4_lasts 12 = .ok (.aload_n 0, 1) := by decide +kernel
theorem dX4_lasts_13 : decode cX4_lasts 13 = .ok (.iload_n 1, 1) := by decide +kernel
theorem dX4_lasts_14 : decode cX4_lasts 14 = .ok (.invokevirtual 83, 3) := by decide +kernel
theorem dX4_lasts_17 : decode cX4_lasts 17 = .ok (.goto 5, 3) := by decide +kernel
theorem dX4_lasts_20 : decode cX4_lasts 20 = .ok (.bipush (-2), 2) := by decide +kernel
theorem dX4_lasts_22 : decode cX4_lasts 22 = .ok (.ireturn, 1) := by decide +kernel
set_option maxRecDepth 20000 in
theorem ggX4_alikeTo_X4_markOf : GoodIn wsX4_alikeTo wsX4_markOf := goodIn_r _ [8, 3, 1, 9, 10, 11, 12, 13, 14, 15, 16, 17, 18, 19] (by decide +kernel) (by decide +kernel)
set_option maxRecDepth 20000 in
theorem gX4_alikeTo_X4_markOf : GoodIn wsX4_alikeTo (wsV RX4 80 RX4 yX4_markOf wsX4_markOf) := goodIn_app (goodIn_of _ (by decide +kernel)) ggX4_alikeTo_X4_markOf
theorem dX4_alikeTo_0 : decode cX4_alikeTo 0 = .ok (.aload_n 0, 1) := by decide +kernel
theorem dX4_alikeTo_1 : decode cX4_alikeTo 1 = .ok (.iload_n 1, 1) := by decide +kernel
theorem dX4_alikeTo_2 : decode cX4_alikeTo 2 = .ok (.invokevirtual 80, 3) := by decide +kernel
theorem dX4_alikeTo_5 : decode cX4_alikeTo 5 = .ok (.istore_n 3, 1) := by decide +kernel
theorem dX4_alikeTo_6 : decode cX4_alikeTo 6 = .ok (.iload_n 3, 1) := by decide +kernel
theorem dX4_alikeTo_7 : decode cX4_alikeTo 7 = .ok (.iconst (-1), 1) := by decide +kernel
theorem dX4_alikeTo_8 : decode cX4_alikeTo 8 = .ok (.if_icmp .eq 26, 3) := by decide +kernel
theorem dX4_alikeTo_11 : decode cX4_alikeTo 11 = .ok (.iload_n 1, 1) := by decide +kernel
theorem dX4_alikeTo_12 : decode cX4_alikeTo 12 = .ok (.aload_n 0, 1) := by decide +kernel
theorem dX4_alikeTo_13 : decode cX4_alikeTo 13 = .ok (.getfield 7, 3) := by decide +kernel
theorem dX4_alikeTo_16 : decode cX4_alikeTo 16 = .ok (.iload_n 3, 1) := by decide +kernel
theorem dX4_alikeTo_17 : decode cX4_alikeTo 17 = .ok (.iaload, 1) := by decide +kernel
theorem dX4_alikeTo_18 : decode cX4_alikeTo 18 = .ok (.aload_n 0, 1) := by decide +kernel
theorem dX4_alikeTo_19 : decode cX4_alikeTo 19 = .ok (.getfield 13, 3) := by decide +kernel
theorem dX4_alikeTo_22 : decode cX4_alikeTo 22 = .ok (.iload_n 3, 1) := by decide +kernel
theorem dX4_alikeTo_23 : decode cX4_alikeTo 23 = .ok (.iaload, 1) := by decide +kernel
theorem dX4_alikeTo_24 : decode cX4_alikeTo 24 = .ok (.iadd, 1) := by decide +kernel
theorem dX4_alikeTo_25 : decode cX4_alikeTo 25 = .ok (.if_icmp .ge 9, 3) := by decide +kernel
theorem dX4_alikeTo_28 : decode cX4_alikeTo 28 = .ok (.iload_n 1, 1) := by decide +kernel
theorem dX4_alikeTo_29 : decode cX4_alikeTo 29 = .ok (.iconst 1, 1) := by decide +kernel
theorem dX4_alikeTo_30 : decode cX4_alikeTo 30 = .ok (.iadd, 1) := by decide +kernel
theorem dX4_alikeTo_31 : decode cX4_alikeTo 31 = .ok (.goto 4, 3) := by decide +kernel
theorem dX4_alikeTo_34 : decode cX4_alikeTo 34 = .ok (.iload_n 2, 1) := by decide +kernel
theorem dX4_alikeTo_35 : decode cX4_alikeTo 35 = .ok (.istore 4, 2) := by decide +kernel
theorem dX4_alikeTo_37 : decode cX4_alikeTo 37 = .ok (.iconst 0, 1) := by decide +kernel
theorem dX4_alikeTo_38 : decode cX4_alikeTo 38 = .ok (.istore 5, 2) := by decide +kernel
theorem dX4_alikeTo_40 : decode cX4_alikeTo 40 = .ok (.iload 5, 2) := by decide +kernel
theorem dX4_alikeTo_42 : decode cX4_alikeTo 42 = .ok (.aload_n 0, 1) := by decide +kernel
theorem dX4_alikeTo_43 : decode cX4_alikeTo 43 = .ok (.getfield 32, 3) := by decide +kernel
theorem dX4_alikeTo_46 : decode cX4_alikeTo 46 = .ok (.if_icmp .ge 46, 3) := by decide +kernel
theorem dX4_alikeTo_49 : decode cX4_alikeTo 49 = .ok (.aload_n 0, 1) := by decide +kernel
theorem dX4_alikeTo_50 : decode cX4_alikeTo 50 = .ok (.getfield 7, 3) := by decide +kernel
theorem dX4_alikeTo_53 : decode cX4_alikeTo 53 = .ok (.iload 5, 2) := by decide +kernel
theorem dX4_alikeTo_55 : decode cX4_alikeTo 55 = .ok (.iaload, 1) := by decide +kernel
theorem dX4_alikeTo_56 : decode cX4_alikeTo 56 = .ok (.iload_n 1, 1) := by decide +kernel
theorem dX4_alikeTo_57 : decode cX4_alikeTo 57 = .ok (.if_icmp .le 25, 3) := by decide +kernel
theorem dX4_alikeTo_60 : decode cX4_alikeTo 60 = .ok (.aload_n 0, 1) := by decide +kernel
theorem dX4_alikeTo_61 : decode cX4_alikeTo 61 = .ok (.getfield 7, 3) := by decide +kernel
theorem dX4_alikeTo_64 : decode cX4_alikeTo 64 = .ok (.iload 5, 2) := by decide +kernel
theorem dX4_alikeTo_66 : decode cX4_alikeTo 66 = .ok (.iaload, 1) := by decide +kernel
theorem dX4_alikeTo_67 : decode cX4_alikeTo 67 = .ok (.iload 4, 2) := by decide +kernel
theorem dX4_alikeTo_69 : decode cX4_alikeTo 69 = .ok (.if_icmp .ge 13, 3) := by decide +kernel
theorem dX4_alikeTo_72 : decode cX4_alikeTo 72 = .ok (.aload_n 0, 1) := by decide +kernel
theorem dX4_alikeTo_73 : decode cX4_alikeTo 73 = .ok (.getfield 7, 3) := by decide +kernel
theorem dX4_alikeTo_76 : decode cX4_alikeTo 76 = .ok (.iload 5, 2) := by decide +kernel
theorem dX4_alikeTo_78 : decode cX4_alikeTo 78 = .ok (.iaload, 1) := by decide +kernel
theorem dX4_alikeTo_79 : decode cX4_alikeTo 79 = .ok (.goto 5, 3) := by decide +kernel
theorem dX4_alikeTo_82 : decode cX4_alikeTo 82 = .ok (.iload 4, 2) := by decide +kernel
theorem dX4_alikeTo_84 : decode cX4_alikeTo 84 = .ok (.istore 4, 2) := by decide +kernel
theorem dX4_alikeTo_86 : decode cX4_alikeTo 86 = .ok (.iinc 5 1, 3) := by decide +kernel
theorem dX4_alikeTo_89 : decode cX4_alikeTo 89 = .ok (.goto (-49), 3) := by decide +kernel
theorem dX4_alikeTo_92 : decode cX4_alikeTo 92 = .ok (.iload 4, 2) := by decide +kernel
theorem dX4_alikeTo_94 : decode cX4_alikeTo 94 = .ok (.iload_n 2, 1) := by decide +kernel
theorem dX4_alikeTo_95 : decode cX4_alikeTo 95 = .ok (.if_icmp .ge 8, 3) := by decide +kernel
theorem dX4_alikeTo_98 : decode cX4_alikeTo 98 = .ok (.iload 4, 2) := by decide +kernel
theorem dX4_alikeTo_100 : decode cX4_alikeTo 100 = .ok (.goto 4, 3) := by decide +kernel
theorem dX4_alikeTo_103 : decode cX4_alikeTo 103 = .ok (.iload_n 2, 1) := by decide +kernel
theorem dX4_alikeTo_104 : decode cX4_alikeTo 104 = .ok (.ireturn, 1) := by decide +kernel
set_option maxRecDepth 20000 in
theorem ggX4_heldAt_X4_holdAt : GoodIn wsX4_heldAt wsX4_holdAt := goodIn_r _ [6, 7, 8, 9, 10, 11, 12, 13, 14, 15, 16, 17, 18, 19] (by decide +kernel) (by decide +kernel)
set_option maxRecDepth 20000 in
theorem gX4_heldAt_X4_holdAt : GoodIn wsX4_heldAt (wsV RX4 72 RX4 yX4_holdAt wsX4_holdAt) := goodIn_app (goodIn_of _ (by decide +kernel)) ggX4_heldAt_X4_holdAt
theorem dX4_heldAt_0 : decode cX4_heldAt 0 = .ok (.aload_n 0, 1) := by decide +kernel
theorem dX4_heldAt_1 : decode cX4_heldAt 1 = .ok (.iload_n 1, 1) := by decide +kernel
theorem dX4_heldAt_2 : decode cX4_heldAt 2 = .ok (.invokevirtual 72, 3) := by decide +kernel
theorem dX4_heldAt_5 : decode cX4_heldAt 5 = .ok (.istore_n 2, 1) := by decide +kernel
theorem dX4_heldAt_6 : decode cX4_heldAt 6 = .ok (.iload_n 2, 1) := by decide +kernel
theorem dX4_heldAt_7 : decode cX4_heldAt 7 = .ok (.iconst (-1), 1) := by decide +kernel
theorem dX4_heldAt_8 : decode cX4_heldAt 8 = .ok (.if_icmp .ne 7, 3) := by decide +kernel
theorem dX4_heldAt_11 : decode cX4_heldAt 11 = .ok (.iconst 0, 1) := by decide +kernel
theorem dX4_heldAt_12 : decode cX4_heldAt 12 = .ok (.goto 9, 3) := by decide +kernel
theorem dX4_heldAt_15 : decode cX4_heldAt 15 = .ok (.aload_n 0, 1) := by decide +kernel
theorem dX4_heldAt_16 : decode cX4_heldAt 16 = .ok (.getfield 25, 3) := by decide +kernel
theorem dX4_heldAt_19 : decode cX4_heldAt 19 = .ok (.iload_n 2, 1) := by decide +kernel
theorem dX4_heldAt_20 : decode cX4_heldAt 20 = .ok (.iaload, 1) := by decide +kernel
theorem dX4_heldAt_21 : decode cX4_heldAt 21 = .ok (.ireturn, 1) := by decide +kernel
set_option maxRecDepth 20000 in
theorem ggX4_time_X4_in : GoodIn wsX4_time wsX4_in := goodIn_r _ [9] (by decide +kernel) (by decide +kernel)
set_option maxRecDepth 20000 in
theorem gX4_time_X4_in : GoodIn wsX4_time (va_wsS RX4 49 yX4_in wsX4_in) := goodIn_app (goodIn_of _ (by decide +kernel)) ggX4_time_X4_in
set_option maxRecDepth 20000 in
theorem ggX4_time_X4_alikeTo : GoodIn wsX4_time wsX4_alikeTo := goodIn_r _ [13, 14, 15, 16, 17, 18, 19, 8, 20, 27, 28, 29, 30, 31, 32, 33, 34, 35, 36, 37] (by decide +kernel) (by decide +kernel)
set_option maxRecDepth 20000 in
theorem gX4_time_X4_alikeTo : GoodIn wsX4_time (wsV RX4 88 RX4 yX4_alikeTo wsX4_alikeTo) := goodIn_app (goodIn_of _ (by decide +kernel)) ggX4_time_X4_alikeTo
set_option maxRecDepth 20000 in
theorem ggX4_time_X4_paceAt : GoodIn wsX4_time wsX4_paceAt := goodIn_r _ [24, 14, 15, 25, 26, 17, 18, 19, 8, 20, 16, 27, 28, 29, 30, 31, 32, 33, 34, 35, 36, 37] (by decide +kernel) (by decide +kernel)
set_option maxRecDepth 20000 in
theorem gX4_time_X4_paceAt : GoodIn wsX4_time (wsV RX4 83 RX4 yX4_paceAt wsX4_paceAt) := goodIn_app (goodIn_of _ (by decide +kernel)) ggX4_time_X4_paceAt
theorem dX4_time_0 : decode cX4_time 0 = .ok (.iload_n 1, 1) := by decide +kernel
theorem dX4_time_1 : decode cX4_time 1 = .ok (.i2l, 1) := by decide +kernel
theorem dX4_time_2 : decode cX4_time 2 = .ok (.lconst 0, 1) := by decide +kernel
theorem dX4_time_3 : decode cX4_time 3 = .ok (.ldc2_w 53, 3) := by decide +kernel
theorem dX4_time_6 : decode cX4_time 6 = .ok (.invokestatic 49, 3) := by decide +kernel
theorem dX4_time_9 : decode cX4_time 9 = .ok (.ifCond .ne 7, 3) := by decide +kernel
theorem dX4_time_12 : decode cX4_time 12 = .ok (.ldc2_w 86, 3) := by decide +kernel
theorem dX4_time_15 : decode cX4_time 15 = .ok (.lreturn, 1) := by decide +kernel
theorem dX4_time_16 : decode cX4_time 16 = .ok (.lconst 0, 1) := by decide +kernel
theorem dX4_time_17 : decode cX4_time 17 = .ok (.lstore_n 2, 1) := by decide +kernel
theorem dX4_time_18 : decode cX4_time 18 = .ok (.iconst 0, 1) := by decide +kernel
theorem dX4_time_19 : decode cX4_time 19 = .ok (.istore 4, 2) := by decide +kernel
theorem dX4_time_21 : decode cX4_time 21 = .ok (.iload 4, 2) := by decide +kernel
theorem dX4_time_23 : decode cX4_time 23 = .ok (.iload_n 1, 1) := by decide +kernel
theorem dX4_time_24 : decode cX4_time 24 = .ok (.if_icmp .ge 36, 3) := by decide +kernel
theorem dX4_time_27 : decode cX4_time 27 = .ok (.aload_n 0, 1) := by decide +kernel
theorem dX4_time_28 : decode cX4_time 28 = .ok (.iload 4, 2) := by decide +kernel
theorem dX4_time_30 : decode cX4_time 30 = .ok (.iload_n 1, 1) := by decide +kernel
theorem dX4_time_31 : decode cX4_time 31 = .ok (.invokevirtual 88, 3) := by decide +kernel
theorem dX4_time_34 : decode cX4_time 34 = .ok (.istore 5, 2) := by decide +kernel
theorem dX4_time_36 : decode cX4_time 36 = .ok (.lload_n 2, 1) := by decide +kernel
theorem dX4_time_37 : decode cX4_time 37 = .ok (.iload 5, 2) := by decide +kernel
theorem dX4_time_39 : decode cX4_time 39 = .ok (.iload 4, 2) := by decide +kernel
theorem dX4_time_41 : decode cX4_time 41 = .ok (.isub, 1) := by decide +kernel
theorem dX4_time_42 : decode cX4_time 42 = .ok (.i2l, 1) := by decide +kernel
theorem dX4_time_43 : decode cX4_time 43 = .ok (.aload_n 0, 1) := by decide +kernel
theorem dX4_time_44 : decode cX4_time 44 = .ok (.iload 4, 2) := by decide +kernel
theorem dX4_time_46 : decode cX4_time 46 = .ok (.invokevirtual 83, 3) := by decide +kernel
theorem dX4_time_49 : decode cX4_time 49 = .ok (.i2l, 1) := by decide +kernel
theorem dX4_time_50 : decode cX4_time 50 = .ok (.lmul, 1) := by decide +kernel
theorem dX4_time_51 : decode cX4_time 51 = .ok (.ladd, 1) := by decide +kernel
theorem dX4_time_52 : decode cX4_time 52 = .ok (.lstore_n 2, 1) := by decide +kernel
theorem dX4_time_53 : decode cX4_time 53 = .ok (.iload 5, 2) := by decide +kernel
theorem dX4_time_55 : decode cX4_time 55 = .ok (.istore 4, 2) := by decide +kernel
theorem dX4_time_57 : decode cX4_time 57 = .ok (.goto (-36), 3) := by decide +kernel
theorem dX4_time_60 : decode cX4_time 60 = .ok (.iconst 0, 1) := by decide +kernel
theorem dX4_time_61 : decode cX4_time 61 = .ok (.istore 5, 2) := by decide +kernel
theorem dX4_time_63 : decode cX4_time 63 = .ok (.iload 5, 2) := by decide +kernel
theorem dX4_time_65 : decode cX4_time 65 = .ok (.aload_n 0, 1) := by decide +kernel
theorem dX4_time_66 : decode cX4_time 66 = .ok (.getfield 67, 3) := by decide +kernel
theorem dX4_time_69 : decode cX4_time 69 = .ok (.if_icmp .ge 35, 3) := by decide +kernel
theorem dX4_time_72 : decode cX4_time 72 = .ok (.lload_n 2, 1) := by decide +kernel
theorem dX4_time_73 : decode cX4_time 73 = .ok (.aload_n 0, 1) := by decide +kernel
theorem dX4_time_74 : decode cX4_time 74 = .ok (.getfield 22, 3) := by decide +kernel
theorem dX4_time_77 : decode cX4_time 77 = .ok (.iload 5, 2) := by decide +kernel
theorem dX4_time_79 : decode cX4_time 79 = .ok (.iaload, 1) := by decide +kernel
theorem dX4_time_80 : decode cX4_time 80 = .ok (.iload_n 1, 1) := by decide +kernel
theorem dX4_time_81 : decode cX4_time 81 = .ok (.if_icmp .gt 14, 3) := by decide +kernel
theorem dX4_time_84 : decode cX4_time 84 = .ok (.aload_n 0, 1) := by decide +kernel
theorem dX4_time_85 : decode cX4_time 85 = .ok (.getfield 25, 3) := by decide +kernel
theorem dX4_time_88 : decode cX4_time 88 = .ok (.iload 5, 2) := by decide +kernel
theorem dX4_time_90 : decode cX4_time 90 = .ok (.iaload, 1) := by decide +kernel
theorem dX4_time_91 : decode cX4_time 91 = .ok (.i2l, 1) := by decide +kernel
theorem dX4_time_92 : decode cX4_time 92 = .ok (.goto 4, 3) := by decide +kernel
theorem dX4_time_95 : decode cX4_time 95 = .ok (.lconst 0, 1) := by decide +kernel
theorem dX4_time_96 : decode cX4_time 96 = .ok (.ladd, 1) := by decide +kernel
theorem dX4_time_97 : decode cX4_time 97 = .ok (.lstore_n 2, 1) := by decide +kernel
theorem dX4_time_98 : decode cX4_time 98 = .ok (.iinc 5 1, 3) := by decide +kernel
theorem dX4_time_101 : decode cX4_time 101 = .ok (.goto (-38), 3) := by decide +kernel
theorem dX4_time_104 : decode cX4_time 104 = .ok (.lload_n 2, 1) := by decide +kernel
theorem dX4_time_105 : decode cX4_time 105 = .ok (.lreturn, 1) := by decide +kernel
set_option maxRecDepth 20000 in
theorem ggX4_lastBegun_X4_heldAt : GoodIn wsX4_lastBegun wsX4_heldAt := goodIn_r _ [9, 10, 11, 12, 13, 8, 14, 3, 4, 32, 33, 34, 35, 36, 37, 38, 39, 40, 41, 42] (by decide +kernel) (by decide +kernel)
set_option maxRecDepth 20000 in
theorem gX4_lastBegun_X4_heldAt : GoodIn wsX4_lastBegun (wsV RX4 92 RX4 yX4_heldAt wsX4_heldAt) := goodIn_app (goodIn_of _ (by decide +kernel)) ggX4_lastBegun_X4_heldAt
set_option maxRecDepth 20000 in
theorem ggX4_lastBegun_X4_alikeTo : GoodIn wsX4_lastBegun wsX4_alikeTo := goodIn_r _ [18, 19, 20, 21, 22, 23, 24, 8, 25, 32, 33, 34, 35, 36, 37, 38, 39, 40, 41, 42] (by decide +kernel) (by decide +kernel)
set_option maxRecDepth 20000 in
theorem gX4_lastBegun_X4_alikeTo : GoodIn wsX4_lastBegun (wsV RX4 88 RX4 yX4_alikeTo wsX4_alikeTo) := goodIn_app (goodIn_of _ (by decide +kernel)) ggX4_lastBegun_X4_alikeTo
set_option maxRecDepth 20000 in
theorem ggX4_lastBegun_X4_paceAt : GoodIn wsX4_lastBegun wsX4_paceAt := goodIn_r _ [29, 19, 20, 30, 31, 22, 23, 24, 8, 25, 21, 32, 33, 34, 35, 36, 37, 38, 39, 40, 41, 42] (by decide +kernel) (by decide +kernel)
set_option maxRecDepth 20000 in
theorem gX4_lastBegun_X4_paceAt : GoodIn wsX4_lastBegun (wsV RX4 83 RX4 yX4_paceAt wsX4_paceAt) := goodIn_app (goodIn_of _ (by decide +kernel)) ggX4_lastBegun_X4_paceAt
theorem dX4_lastBegun_0 : decode cX4_lastBegun 0 = .ok (.aload_n 0, 1) := by decide +kernel
theorem dX4_lastBegun_1 : decode cX4_lastBegun 1 = .ok (.aload_n 0, 1) := by decide +kernel
theorem dX4_lastBegun_2 : decode cX4_lastBegun 2 = .ok (.iconst 0, 1) := by decide +kernel
theorem dX4_lastBegun_3 : decode cX4_lastBegun 3 = .ok (.invokevirtual 92, 3) := by decide +kernel
theorem dX4_lastBegun_6 : decode cX4_lastBegun 6 = .ok (.i2l, 1) := by decide +kernel
theorem dX4_lastBegun_7 : decode cX4_lastBegun 7 = .ok (.putfield 95, 3) := by decide +kernel
theorem dX4_lastBegun_10 : decode cX4_lastBegun 10 = .ok (.lload_n 1, 1) := by decide +kernel
theorem dX4_lastBegun_11 : decode cX4_lastBegun 11 = .ok (.aload_n 0, 1) := by decide +kernel
theorem dX4_lastBegun_12 : decode cX4_lastBegun 12 = .ok (.getfield 95, 3) := by decide +kernel
theorem dX4_lastBegun_15 : decode cX4_lastBegun 15 = .ok (.lcmp, 1) := by decide +kernel
theorem dX4_lastBegun_16 : decode cX4_lastBegun 16 = .ok (.ifCond .ge 5, 3) := by decide +kernel
theorem dX4_lastBegun_19 : decode cX4_lastBegun 19 = .ok (.iconst (-1), 1) := by decide +kernel
theorem dX4_lastBegun_20 : decode cX4_lastBegun 20 = .ok (.ireturn, 1) := by decide +kernel
theorem dX4_lastBegun_21 : decode cX4_lastBegun 21 = .ok (.iconst 0, 1) := by decide +kernel
theorem dX4_lastBegun_22 : decode cX4_lastBegun 22 = .ok (.istore_n 3, 1) := by decide +kernel
theorem dX4_lastBegun_23 : decode cX4_lastBegun 23 = .ok (.iload_n 3, 1) := by decide +kernel
theorem dX4_lastBegun_24 : decode cX4_lastBegun 24 = .ok (.ldc 61, 2) := by decide +kernel
theorem dX4_lastBegun_26 : decode cX4_lastBegun 26 = .ok (.if_icmp .ge 192, 3) := by decide +kernel
theorem dX4_lastBegun_29 : decode cX4_lastBegun 29 = .ok (.aload_n 0, 1) := by decide +kernel
theorem dX4_lastBegun_30 : decode cX4_lastBegun 30 = .ok (.iload_n 3, 1) := by decide +kernel
theorem dX4_lastBegun_31 : decode cX4_lastBegun 31 = .ok (.ldc 61, 2) := by decide +kernel
theorem dX4_lastBegun_33 : decode cX4_lastBegun 33 = .ok (.invokevirtual 88, 3) := by decide +kernel
theorem dX4_lastBegun_36 : decode cX4_lastBegun 36 = .ok (.istore 4, 2) := by decide +kernel
theorem dX4_lastBegun_38 : decode cX4_lastBegun 38 = .ok (.iconst 0, 1) := by decide +kernel
theorem dX4_lastBegun_39 : decode cX4_lastBegun 39 = .ok (.istore 5, 2) := by decide +kernel
theorem dX4_lastBegun_41 : decode cX4_lastBegun 41 = .ok (.iload 5, 2) := by decide +kernel
theorem dX4_lastBegun_43 : decode cX4_lastBegun 43 = .ok (.aload_n 0, 1) := by decide +kernel
theorem dX4_lastBegun_44 : decode cX4_lastBegun 44 = .ok (.getfield 67, 3) := by decide +kernel
theorem dX4_lastBegun_47 : decode cX4_lastBegun 47 = .ok (.if_icmp .ge 46, 3) := by decide +kernel
theorem dX4_lastBegun_50 : decode cX4_lastBegun 50 = .ok (.aload_n 0, 1) := by decide +kernel
theorem dX4_lastBegun_51 : decode cX4_lastBegun 51 = .ok (.getfield 22, 3) := by decide +kernel
theorem dX4_lastBegun_54 : decode cX4_lastBegun 54 = .ok (.iload 5, 2) := by decide +kernel
theorem dX4_lastBegun_56 : decode cX4_lastBegun 56 = .ok (.iaload, 1) := by decide +kernel
theorem dX4_lastBegun_57 : decode cX4_lastBegun 57 = .ok (.iload_n 3, 1) := by decide +kernel
theorem dX4_lastBegun_58 : decode cX4_lastBegun 58 = .ok (.if_icmp .le 25, 3) := by decide +kernel
theorem dX4_lastBegun_61 : decode cX4_lastBegun 61 = .ok (.aload_n 0, 1) := by decide +kernel
theorem dX4_lastBegun_62 : decode cX4_lastBegun 62 = .ok (.getfield 22, 3) := by decide +kernel
theorem dX4_lastBegun_65 : decode cX4_lastBegun 65 = .ok (.iload 5, 2) := by decide +kernel
theorem dX4_lastBegun_67 : decode cX4_lastBegun 67 = .ok (.iaload, 1) := by decide +kernel
theorem dX4_lastBegun_68 : decode cX4_lastBegun 68 = .ok (.iload 4, 2) := by decide +kernel
theorem dX4_lastBegun_70 : decode cX4_lastBegun 70 = .ok (.if_icmp .ge 13, 3) := by decide +kernel
theorem dX4_lastBegun_73 : decode cX4_lastBegun 73 = .ok (.aload_n 0, 1) := by decide +kernel
theorem dX4_lastBegun_74 : decode cX4_lastBegun 74 = .ok (.getfield 22, 3) := by decide +kernel
theorem dX4_lastBegun_77 : decode cX4_lastBegun 77 = .ok (.iload 5, 2) := by decide +kernel
theorem dX4_lastBegun_79 : decode cX4_lastBegun 79 = .ok (.iaload, 1) := by decide +kernel
theorem dX4_lastBegun_80 : decode cX4_lastBegun 80 = .ok (.goto 5, 3) := by decide +kernel
theorem dX4_lastBegun_83 : decode cX4_lastBegun 83 = .ok (.iload 4, 2) := by decide +kernel
theorem dX4_lastBegun_85 : decode cX4_lastBegun 85 = .ok (.istore 4, 2) := by decide +kernel
theorem dX4_lastBegun_87 : decode cX4_lastBegun 87 = .ok (.iinc 5 1, 3) := by decide +kernel
theorem dX4_lastBegun_90 : decode cX4_lastBegun 90 = .ok (.goto (-49), 3) := by decide +kernel
theorem dX4_lastBegun_93 : decode cX4_lastBegun 93 = .ok (.aload_n 0, 1) := by decide +kernel
theorem dX4_lastBegun_94 : decode cX4_lastBegun 94 = .ok (.iload_n 3, 1) := by decide +kernel
theorem dX4_lastBegun_95 : decode cX4_lastBegun 95 = .ok (.invokevirtual 83, 3) := by decide +kernel
theorem dX4_lastBegun_98 : decode cX4_lastBegun 98 = .ok (.i2l, 1) := by decide +kernel
theorem dX4_lastBegun_99 : decode cX4_lastBegun 99 = .ok (.lstore 5, 2) := by decide +kernel
theorem dX4_lastBegun_101 : decode cX4_lastBegun 101 = .ok (.iload 4, 2) := by decide +kernel
theorem dX4_lastBegun_103 : decode cX4_lastBegun 103 = .ok (.iload_n 3, 1) := by decide +kernel
theorem dX4_lastBegun_104 : decode cX4_lastBegun 104 = .ok (.isub, 1) := by decide +kernel
theorem dX4_lastBegun_105 : decode cX4_lastBegun 105 = .ok (.i2l, 1) := by decide +kernel
theorem dX4_lastBegun_106 : decode cX4_lastBegun 106 = .ok (.lload 5, 2) := by decide +kernel
theorem dX4_lastBegun_108 : decode cX4_lastBegun 108 = .ok (.lmul, 1) := by decide +kernel
theorem dX4_lastBegun_109 : decode cX4_lastBegun 109 = .ok (.lstore 7, 2) := by decide +kernel
theorem dX4_lastBegun_111 : decode cX4_lastBegun 111 = .ok (.lload_n 1, 1) := by decide +kernel
theorem dX4_lastBegun_112 : decode cX4_lastBegun 112 = .ok (.aload_n 0, 1) := by decide +kernel
theorem dX4_lastBegun_113 : decode cX4_lastBegun 113 = .ok (.getfield 95, 3) := by decide +kernel
theorem dX4_lastBegun_116 : decode cX4_lastBegun 116 = .ok (.lsub, 1) := by decide +kernel
theorem dX4_lastBegun_117 : decode cX4_lastBegun 117 = .ok (.lload 7, 2) := by decide +kernel
theorem dX4_lastBegun_119 : decode cX4_lastBegun 119 = .ok (.lcmp, 1) := by decide +kernel
theorem dX4_lastBegun_120 : decode cX4_lastBegun 120 = .ok (.ifCond .ge 34, 3) := by decide +kernel
theorem dX4_lastBegun_123 : decode cX4_lastBegun 123 = .ok (.lload_n 1, 1) := by decide +kernel
theorem dX4_lastBegun_124 : decode cX4_lastBegun 124 = .ok (.aload_n 0, 1) := by decide +kernel
theorem dX4_lastBegun_125 : decode cX4_lastBegun 125 = .ok (.getfield 95, 3) := by decide +kernel
theorem dX4_lastBegun_128 : decode cX4_lastBegun 128 = .ok (.lsub, 1) := by decide +kernel
theorem dX4_lastBegun_129 : decode cX4_lastBegun 129 = .ok (.lload 5, 2) := by decide +kernel
theorem dX4_lastBegun_131 : decode cX4_lastBegun 131 = .ok (.ldiv, 1) := by decide +kernel
theorem dX4_lastBegun_132 : decode cX4_lastBegun 132 = .ok (.lstore 9, 2) := by decide +kernel
theorem dX4_lastBegun_134 : decode cX4_lastBegun 134 = .ok (.aload_n 0, 1) := by decide +kernel
theorem dX4_lastBegun_135 : decode cX4_lastBegun 135 = .ok (.dup, 1) := by decide +kernel
theorem dX4_lastBegun_136 : decode cX4_lastBegun 136 = .ok (.getfield 95, 3) := by decide +kernel
theorem dX4_lastBegun_139 : decode cX4_lastBegun 139 = .ok (.lload 9, 2) := by decide +kernel
theorem dX4_lastBegun_141 : decode cX4_lastBegun 141 = .ok (.lload 5, 2) := by decide +kernel
theorem dX4_lastBegun_143 : decode cX4_lastBegun 143 = .ok (.lmul, 1) := by decide +kernel
theorem dX4_lastBegun_144 : decode cX4_lastBegun 144 = .ok (.ladd, 1) := by decide +kernel
theorem dX4_lastBegun_145 : decode cX4_lastBegun 145 = .ok (.putfield 95, 3) := by decide +kernel
theorem dX4_lastBegun_148 : decode cX4_lastBegun 148 = .ok (.iload_n 3, 1) := by decide +kernel
theorem dX4_lastBegun_149 : decode cX4_lastBegun 149 = .ok (.lload 9, 2) := by decide +kernel
theorem dX4_lastBegun_151 : decode cX4_lastBegun 151 = .ok (.l2i, 1) := by decide +kernel
theorem dX4_lastBegun_152 : decode cX4_lastBegun 152 = .ok (.iadd, 1) := by decide +kernel
theorem dX4_lastBegun_153 : decode cX4_lastBegun 153 = .ok (.ireturn, 1) := by decide +kernel
theorem dX4_lastBegun_154 : decode cX4_lastBegun 154 = .ok (.lload_n 1, 1) := by decide +kernel
theorem dX4_lastBegun_155 : decode cX4_lastBegun 155 = .ok (.aload_n 0, 1) := by decide +kernel
theorem dX4_lastBegun_156 : decode cX4_lastBegun 156 = .ok (.getfield 95, 3) := by decide +kernel
theorem dX4_lastBegun_159 : decode cX4_lastBegun 159 = .ok (.lsub, 1) := by decide +kernel
theorem dX4_lastBegun_160 : decode cX4_lastBegun 160 = .ok (.lload 7, 2) := by decide +kernel
theorem dX4_lastBegun_162 : decode cX4_lastBegun 162 = .ok (.aload_n 0, 1) := by decide +kernel
theorem dX4_lastBegun_163 : decode cX4_lastBegun 163 = .ok (.iload 4, 2) := by decide +kernel
theorem dX4_lastBegun_165 : decode cX4_lastBegun 165 = .ok (.invokevirtual 92, 3) := by decide +kernel
theorem dX4_lastBegun_168 : decode cX4_lastBegun 168 = .ok (.i2l, 1) := by decide +kernel
theorem dX4_lastBegun_169 : decode cX4_lastBegun 169 = .ok (.ladd, 1) := by decide +kernel
theorem dX4_lastBegun_170 : decode cX4_lastBegun 170 = .ok (.lcmp, 1) := by decide +kernel
theorem dX4_lastBegun_171 : decode cX4_lastBegun 171 = .ok (.ifCond .ge 22, 3) := by decide +kernel
theorem dX4_lastBegun_174 : decode cX4_lastBegun 174 = .ok (.aload_n 0, 1) := by decide +kernel
theorem dX4_lastBegun_175 : decode cX4_lastBegun 175 = .ok (.dup, 1) := by decide +kernel
theorem dX4_lastBegun_176 : decode cX4_lastBegun 176 = .ok (.getfield 95, 3) := by decide +kernel
theorem dX4_lastBegun_179 : decode cX4_lastBegun 179 = .ok (.lload 7, 2) := by decide +kernel
theorem dX4_lastBegun_181 : decode cX4_lastBegun 181 = .ok (.lload 5, 2) := by decide +kernel
theorem dX4_lastBegun_183 : decode cX4_lastBegun 183 = .ok (.lsub, 1) := by decide +kernel
theorem dX4_lastBegun_184 : decode cX4_lastBegun 184 = .ok (.ladd, 1) := by decide +kernel
theorem dX4_lastBegun_185 : decode cX4_lastBegun 185 = .ok (.putfield 95, 3) := by decide +kernel
theorem dX4_lastBegun_188 : decode cX4_lastBegun 188 = .ok (.iload 4, 2) := by decide +kernel
theorem dX4_lastBegun_190 : decode cX4_lastBegun 190 = .ok (.iconst 1, 1) := by decide +kernel
theorem dX4_lastBegun_191 : decode cX4_lastBegun 191 = .ok (.isub, 1) := by decide +kernel
theorem dX4_lastBegun_192 : decode cX4_lastBegun 192 = .ok (.ireturn, 1) := by decide +kernel
theorem dX4_lastBegun_193 : decode cX4_lastBegun 193 = .ok (.aload_n 0, 1) := by decide +kernel
theorem dX4_lastBegun_194 : decode cX4_lastBegun 194 = .ok (.dup, 1) := by decide +kernel
theorem dX4_lastBegun_195 : decode cX4_lastBegun 195 = .ok (.getfield 95, 3) := by decide +kernel
theorem dX4_lastBegun_198 : decode cX4_lastBegun 198 = .ok (.lload 7, 2) := by decide +kernel
theorem dX4_lastBegun_200 : decode cX4_lastBegun 200 = .ok (.aload_n 0, 1) := by decide +kernel
theorem dX4_lastBegun_201 : decode cX4_lastBegun 201 = .ok (.iload 4, 2) := by decide +kernel
theorem dX4_lastBegun_203 : decode cX4_lastBegun 203 = .ok (.invokevirtual 92, 3) := by decide +kernel
theorem dX4_lastBegun_206 : decode cX4_lastBegun 206 = .ok (.i2l, 1) := by decide +kernel
theorem dX4_lastBegun_207 : decode cX4_lastBegun 207 = .ok (.ladd, 1) := by decide +kernel
theorem dX4_lastBegun_208 : decode cX4_lastBegun 208 = .ok (.ladd, 1) := by decide +kernel
theorem dX4_lastBegun_209 : decode cX4_lastBegun 209 = .ok (.putfield 95, 3) := by decide +kernel
theorem dX4_lastBegun_212 : decode cX4_lastBegun 212 = .ok (.iload 4, 2) := by decide +kernel
theorem dX4_lastBegun_214 : decode cX4_lastBegun 214 = .ok (.istore_n 3, 1) := by decide +kernel
theorem dX4_lastBegun_215 : decode cX4_lastBegun 215 = .ok (.goto (-192), 3) := by decide +kernel
theorem dX4_lastBegun_218 : decode cX4_lastBegun 218 = .ok (.ldc 61, 2) := by decide +kernel
theorem dX4_lastBegun_220 : decode cX4_lastBegun 220 = .ok (.ireturn, 1) := by decide +kernel
set_option maxRecDepth 20000 in
theorem ggX4_tick_X4_lastBegun : GoodIn wsX4_tick wsX4_lastBegun := goodIn_r _ [5, 6, 7, 8, 9, 10, 11, 12, 4, 13, 14, 15, 16, 17, 18, 19, 20, 21, 22, 23, 24, 25, 26, 27, 28, 29, 30, 31, 32, 33, 34, 35, 36, 37, 38, 39, 40, 41, 42, 43, 44, 45, 46] (by decide +kernel) (by decide +kernel)
set_option maxRecDepth 20000 in
theorem gX4_tick_X4_lastBegun : GoodIn wsX4_tick (wsV RX4 99 RX4 yX4_lastBegun wsX4_lastBegun) := goodIn_app (goodIn_of _ (by decide +kernel)) ggX4_tick_X4_lastBegun
theorem dX4_tick_0 : decode cX4_tick 0 = .ok (.lload_n 1, 1) := by decide +kernel
theorem dX4_tick_1 : decode cX4_tick 1 = .ok (.lconst 0, 1) := by decide +kernel
theorem dX4_tick_2 : decode cX4_tick 2 = .ok (.lcmp, 1) := by decide +kernel
theorem dX4_tick_3 : decode cX4_tick 3 = .ok (.ifCond .ge 8, 3) := by decide +kernel
theorem dX4_tick_6 : decode cX4_tick 6 = .ok (.bipush (-2), 2) := by decide +kernel
theorem dX4_tick_8 : decode cX4_tick 8 = .ok (.goto 8, 3) := by decide +kernel
theorem dX4_tick_11 : decode cX4_tick 11 = .ok (.aload_n 0, 1) := by decide +kernel
theorem dX4_tick_12 : decode cX4_tick 12 = .ok (.lload_n 1, 1) := by decide +kernel
theorem dX4_tick_13 : decode cX4_tick 13 = .ok (.invokevirtual 99, 3) := by decide +kernel
theorem dX4_tick_16 : decode cX4_tick 16 = .ok (.ireturn, 1) := by decide +kernel
set_option maxRecDepth 20000 in
theorem ggX4_held_X4_lastBegun : GoodIn wsX4_held wsX4_lastBegun := goodIn_r _ [7, 2, 1, 8, 9, 10, 11, 12, 6, 13, 14, 15, 16, 17, 18, 19, 20, 21, 22, 23, 24, 25, 26, 27, 28, 29, 30, 31, 32, 33, 34, 35, 36, 37, 38, 39, 40, 41, 42, 43, 44, 45, 46] (by decide +kernel) (by decide +kernel)
set_option maxRecDepth 20000 in
theorem gX4_held_X4_lastBegun : GoodIn wsX4_held (wsV RX4 99 RX4 yX4_lastBegun wsX4_lastBegun) := goodIn_app (goodIn_of _ (by decide +kernel)) ggX4_held_X4_lastBegun
set_option maxRecDepth 20000 in
theorem ggX4_held_X4_paceAt : GoodIn wsX4_held wsX4_paceAt := goodIn_r _ [33, 23, 24, 34, 35, 26, 27, 28, 6, 29, 25, 36, 37, 38, 39, 40, 41, 42, 43, 44, 45, 46] (by decide +kernel) (by decide +kernel)
set_option maxRecDepth 20000 in
theorem gX4_held_X4_paceAt : GoodIn wsX4_held (wsV RX4 83 RX4 yX4_paceAt wsX4_paceAt) := goodIn_app (goodIn_of _ (by decide +kernel)) ggX4_held_X4_paceAt
theorem dX4_held_0 : decode cX4_held 0 = .ok (.lload_n 1, 1) := by decide +kernel
theorem dX4_held_1 : decode cX4_held 1 = .ok (.lconst 0, 1) := by decide +kernel
theorem dX4_held_2 : decode cX4_held 2 = .ok (.lcmp, 1) := by decide +kernel
theorem dX4_held_3 : decode cX4_held 3 = .ok (.ifCond .ge 6, 3) := by decide +kernel
theorem dX4_held_6 : decode cX4_held 6 = .ok (.bipush (-2), 2) := by decide +kernel
theorem dX4_held_8 : decode cX4_held 8 = .ok (.ireturn, 1) := by decide +kernel
theorem dX4_held_9 : decode cX4_held 9 = .ok (.aload_n 0, 1) := by decide +kernel
theorem dX4_held_10 : decode cX4_held 10 = .ok (.lload_n 1, 1) := by decide +kernel
theorem dX4_held_11 : decode cX4_held 11 = .ok (.invokevirtual 99, 3) := by decide +kernel
theorem dX4_held_14 : decode cX4_held 14 = .ok (.istore_n 3, 1) := by decide +kernel
theorem dX4_held_15 : decode cX4_held 15 = .ok (.iload_n 3, 1) := by decide +kernel
theorem dX4_held_16 : decode cX4_held 16 = .ok (.iconst (-1), 1) := by decide +kernel
theorem dX4_held_17 : decode cX4_held 17 = .ok (.if_icmp .eq 25, 3) := by decide +kernel
theorem dX4_held_20 : decode cX4_held 20 = .ok (.iload_n 3, 1) := by decide +kernel
theorem dX4_held_21 : decode cX4_held 21 = .ok (.ldc 61, 2) := by decide +kernel
theorem dX4_held_23 : decode cX4_held 23 = .ok (.if_icmp .eq 19, 3) := by decide +kernel
theorem dX4_held_26 : decode cX4_held 26 = .ok (.lload_n 1, 1) := by decide +kernel
theorem dX4_held_27 : decode cX4_held 27 = .ok (.aload_n 0, 1) := by decide +kernel
theorem dX4_held_28 : decode cX4_held 28 = .ok (.getfield 95, 3) := by decide +kernel
theorem dX4_held_31 : decode cX4_held 31 = .ok (.aload_n 0, 1) := by decide +kernel
theorem dX4_held_32 : decode cX4_held 32 = .ok (.iload_n 3, 1) := by decide +kernel
theorem dX4_held_33 : decode cX4_held 33 = .ok (.invokevirtual 83, 3) := by decide +kernel
theorem dX4_held_36 : decode cX4_held 36 = .ok (.i2l, 1) := by decide +kernel
theorem dX4_held_37 : decode cX4_held 37 = .ok (.ladd, 1) := by decide +kernel
theorem dX4_held_38 : decode cX4_held 38 = .ok (.lcmp, 1) := by decide +kernel
theorem dX4_held_39 : decode cX4_held 39 = .ok (.ifCond .lt 7, 3) := by decide +kernel
theorem dX4_held_42 : decode cX4_held 42 = .ok (.iconst 1, 1) := by decide +kernel
theorem dX4_held_43 : decode cX4_held 43 = .ok (.goto 4, 3) := by decide +kernel
theorem dX4_held_46 : decode cX4_held 46 = .ok (.iconst 0, 1) := by decide +kernel
theorem dX4_held_47 : decode cX4_held 47 = .ok (.ireturn, 1) := by decide +kernel
set_option maxRecDepth 20000 in
theorem ggX4_frame_X4_in : GoodIn wsX4_frame wsX4_in := goodIn_r _ [7] (by decide +kernel) (by decide +kernel)
set_option maxRecDepth 20000 in
theorem gX4_frame_X4_in : GoodIn wsX4_frame (va_wsS RX4 49 yX4_in wsX4_in) := goodIn_app (goodIn_of _ (by decide +kernel)) ggX4_frame_X4_in
set_option maxRecDepth 20000 in
theorem ggX4_frame_X4_time : GoodIn wsX4_frame wsX4_time := goodIn_r _ [11, 1, 3, 12, 13, 14, 4, 5, 6, 7, 15, 16, 17, 18, 19, 20, 21, 22, 23, 24, 25, 26, 27, 28, 29, 30, 31, 32, 33, 34, 35, 36, 37, 38, 39, 40, 41, 42] (by decide +kernel) (by decide +kernel)
set_option maxRecDepth 20000 in
theorem gX4_frame_X4_time : GoodIn wsX4_frame (wsV RX4 105 RX4 yX4_time wsX4_time) := goodIn_app (goodIn_of _ (by decide +kernel)) ggX4_frame_X4_time
theorem dX4_frame_0 : decode cX4_frame 0 = .ok (.iload_n 1, 1) := by decide +kernel
theorem dX4_frame_1 : decode cX4_frame 1 = .ok (.i2l, 1) := by decide +kernel
theorem dX4_frame_2 : decode cX4_frame 2 = .ok (.lconst 0, 1) := by decide +kernel
theorem dX4_frame_3 : decode cX4_frame 3 = .ok (.ldc2_w 53, 3) := by decide +kernel
theorem dX4_frame_6 : decode cX4_frame 6 = .ok (.invokestatic 49, 3) := by decide +kernel
theorem dX4_frame_9 : decode cX4_frame 9 = .ok (.ifCond .eq 15, 3) := by decide +kernel
theorem dX4_frame_12 : decode cX4_frame 12 = .ok (.iload_n 2, 1) := by decide +kernel
theorem dX4_frame_13 : decode cX4_frame 13 = .ok (.i2l, 1) := by decide +kernel
theorem dX4_frame_14 : decode cX4_frame 14 = .ok (.lconst 1, 1) := by decide +kernel
theorem dX4_frame_15 : decode cX4_frame 15 = .ok (.ldc2_w 103, 3) := by decide +kernel
theorem dX4_frame_18 : decode cX4_frame 18 = .ok (.invokestatic 49, 3) := by decide +kernel
theorem dX4_frame_21 : decode cX4_frame 21 = .ok (.ifCond .ne 7, 3) := by decide +kernel
theorem dX4_frame_24 : decode cX4_frame 24 = .ok (.ldc2_w 86, 3) := by decide +kernel
theorem dX4_frame_27 : decode cX4_frame 27 = .ok (.lreturn, 1) := by decide +kernel
theorem dX4_frame_28 : decode cX4_frame 28 = .ok (.aload_n 0, 1) := by decide +kernel
theorem dX4_frame_29 : decode cX4_frame 29 = .ok (.iload_n 1, 1) := by decide +kernel
theorem dX4_frame_30 : decode cX4_frame 30 = .ok (.invokevirtual 105, 3) := by decide +kernel
theorem dX4_frame_33 : decode cX4_frame 33 = .ok (.iload_n 2, 1) := by decide +kernel
theorem dX4_frame_34 : decode cX4_frame 34 = .ok (.i2l, 1) := by decide +kernel
theorem dX4_frame_35 : decode cX4_frame 35 = .ok (.lmul, 1) := by decide +kernel
theorem dX4_frame_36 : decode cX4_frame 36 = .ok (.ldc2_w 53, 3) := by decide +kernel
theorem dX4_frame_39 : decode cX4_frame 39 = .ok (.ldiv, 1) := by decide +kernel
theorem dX4_frame_40 : decode cX4_frame 40 = .ok (.lreturn, 1) := by decide +kernel
set_option maxRecDepth 20000 in
theorem ggX4_tickOf_X4_in : GoodIn wsX4_tickOf wsX4_in := goodIn_r _ [8] (by decide +kernel) (by decide +kernel)
set_option maxRecDepth 20000 in
theorem gX4_tickOf_X4_in : GoodIn wsX4_tickOf (va_wsS RX4 49 yX4_in wsX4_in) := goodIn_app (goodIn_of _ (by decide +kernel)) ggX4_tickOf_X4_in
set_option maxRecDepth 20000 in
theorem ggX4_tickOf_X4_lastBegun : GoodIn wsX4_tickOf wsX4_lastBegun := goodIn_r _ [12, 13, 4, 14, 15, 16, 17, 18, 7, 19, 20, 21, 22, 23, 24, 25, 26, 27, 28, 29, 30, 31, 32, 33, 34, 35, 36, 37, 38, 39, 40, 41, 42, 43, 44, 45, 46, 47, 48, 49, 50, 51, 52] (by decide +kernel) (by decide +kernel)
set_option maxRecDepth 20000 in
theorem gX4_tickOf_X4_lastBegun : GoodIn wsX4_tickOf (wsV RX4 99 RX4 yX4_lastBegun wsX4_lastBegun) := goodIn_app (goodIn_of _ (by decide +kernel)) ggX4_tickOf_X4_lastBegun
theorem dX4_tickOf_0 : decode cX4_tickOf 0 = .ok (.lload_n 1, 1) := by decide +kernel
theorem dX4_tickOf_1 : decode cX4_tickOf 1 = .ok (.lconst 0, 1) := by decide +kernel
theorem dX4_tickOf_2 : decode cX4_tickOf 2 = .ok (.lcmp, 1) := by decide +kernel
theorem dX4_tickOf_3 : decode cX4_tickOf 3 = .ok (.ifCond .lt 15, 3) := by decide +kernel
theorem dX4_tickOf_6 : decode cX4_tickOf 6 = .ok (.iload_n 3, 1) := by decide +kernel
theorem dX4_tickOf_7 : decode cX4_tickOf 7 = .ok (.i2l, 1) := by decide +kernel
theorem dX4_tickOf_8 : decode cX4_tickOf 8 = .ok (.lconst 1, 1) := by decide +kernel
theorem dX4_tickOf_9 : decode cX4_tickOf 9 = .ok (.ldc2_w 103, 3) := by decide +kernel
theorem dX4_tickOf_12 : decode cX4_tickOf 12 = .ok (.invokestatic 49, 3) := by decide +kernel
theorem dX4_tickOf_15 : decode cX4_tickOf 15 = .ok (.ifCond .ne 6, 3) := by decide +kernel
theorem dX4_tickOf_18 : decode cX4_tickOf 18 = .ok (.bipush (-2), 2) := by decide +kernel
theorem dX4_tickOf_20 : decode cX4_tickOf 20 = .ok (.ireturn, 1) := by decide +kernel
theorem dX4_tickOf_21 : decode cX4_tickOf 21 = .ok (.lload_n 1, 1) := by decide +kernel
theorem dX4_tickOf_22 : decode cX4_tickOf 22 = .ok (.lconst 0, 1) := by decide +kernel
theorem dX4_tickOf_23 : decode cX4_tickOf 23 = .ok (.lcmp, 1) := by decide +kernel
theorem dX4_tickOf_24 : decode cX4_tickOf 24 = .ok (.ifCond .ne 5, 3) := by decide +kernel
theorem dX4_tickOf_27 : decode cX4_tickOf 27 = .ok (.iconst 0, 1) := by decide +kernel
theorem dX4_tickOf_28 : decode cX4_tickOf 28 = .ok (.ireturn, 1) := by decide +kernel
theorem dX4_tickOf_29 : decode cX4_tickOf 29 = .ok (.lload_n 1, 1) := by decide +kernel
theorem dX4_tickOf_30 : decode cX4_tickOf 30 = .ok (.ldc2_w 109, 3) := by decide +kernel
theorem dX4_tickOf_33 : decode cX4_tickOf 33 = .ok (.lcmp, 1) := by decide +kernel
theorem dX4_tickOf_34 : decode cX4_tickOf 34 = .ok (.ifCond .le 5, 3) := by decide +kernel
theorem dX4_tickOf_37 : decode cX4_tickOf 37 = .ok (.iconst (-1), 1) := by decide +kernel
theorem dX4_tickOf_38 : decode cX4_tickOf 38 = .ok (.ireturn, 1) := by decide +kernel
theorem dX4_tickOf_39 : decode cX4_tickOf 39 = .ok (.lload_n 1, 1) := by decide +kernel
theorem dX4_tickOf_40 : decode cX4_tickOf 40 = .ok (.ldc2_w 53, 3) := by decide +kernel
theorem dX4_tickOf_43 : decode cX4_tickOf 43 = .ok (.lmul, 1) := by decide +kernel
theorem dX4_tickOf_44 : decode cX4_tickOf 44 = .ok (.iload_n 3, 1) := by decide +kernel
theorem dX4_tickOf_45 : decode cX4_tickOf 45 = .ok (.i2l, 1) := by decide +kernel
theorem dX4_tickOf_46 : decode cX4_tickOf 46 = .ok (.ladd, 1) := by decide +kernel
theorem dX4_tickOf_47 : decode cX4_tickOf 47 = .ok (.lconst 1, 1) := by decide +kernel
theorem dX4_tickOf_48 : decode cX4_tickOf 48 = .ok (.lsub, 1) := by decide +kernel
theorem dX4_tickOf_49 : decode cX4_tickOf 49 = .ok (.iload_n 3, 1) := by decide +kernel
theorem dX4_tickOf_50 : decode cX4_tickOf 50 = .ok (.i2l, 1) := by decide +kernel
theorem dX4_tickOf_51 : decode cX4_tickOf 51 = .ok (.ldiv, 1) := by decide +kernel
theorem dX4_tickOf_52 : decode cX4_tickOf 52 = .ok (.lstore 4, 2) := by decide +kernel
theorem dX4_tickOf_54 : decode cX4_tickOf 54 = .ok (.aload_n 0, 1) := by decide +kernel
theorem dX4_tickOf_55 : decode cX4_tickOf 55 = .ok (.lload 4, 2) := by decide +kernel
theorem dX4_tickOf_57 : decode cX4_tickOf 57 = .ok (.lconst 1, 1) := by decide +kernel
theorem dX4_tickOf_58 : decode cX4_tickOf 58 = .ok (.lsub, 1) := by decide +kernel
theorem dX4_tickOf_59 : decode cX4_tickOf 59 = .ok (.invokevirtual 99, 3) := by decide +kernel
theorem dX4_tickOf_62 : decode cX4_tickOf 62 = .ok (.istore 6, 2) := by decide +kernel
theorem dX4_tickOf_64 : decode cX4_tickOf 64 = .ok (.iload 6, 2) := by decide +kernel
theorem dX4_tickOf_66 : decode cX4_tickOf 66 = .ok (.ldc 61, 2) := by decide +kernel
theorem dX4_tickOf_68 : decode cX4_tickOf 68 = .ok (.if_icmp .ne 7, 3) := by decide +kernel
theorem dX4_tickOf_71 : decode cX4_tickOf 71 = .ok (.iconst (-1), 1) := by decide +kernel
theorem dX4_tickOf_72 : decode cX4_tickOf 72 = .ok (.goto 7, 3) := by decide +kernel
theorem dX4_tickOf_75 : decode cX4_tickOf 75 = .ok (.iload 6, 2) := by decide +kernel
theorem dX4_tickOf_77 : decode cX4_tickOf 77 = .ok (.iconst 1, 1) := by decide +kernel
theorem dX4_tickOf_78 : decode cX4_tickOf 78 = .ok (.iadd, 1) := by decide +kernel
theorem dX4_tickOf_79 : decode cX4_tickOf 79 = .ok (.ireturn, 1) := by decide +kernel
set_option maxRecDepth 20000 in
theorem ggX4_tap_X4_in : GoodIn wsX4_tap wsX4_in := goodIn_r _ [7] (by decide +kernel) (by decide +kernel)
set_option maxRecDepth 20000 in
theorem gX4_tap_X4_in : GoodIn wsX4_tap (va_wsS RX4 49 yX4_in wsX4_in) := goodIn_app (goodIn_of _ (by decide +kernel)) ggX4_tap_X4_in
theorem dX4_tap_0 : decode cX4_tap 0 = .ok (.lload_n 1, 1) := by decide +kernel
theorem dX4_tap_1 : decode cX4_tap 1 = .ok (.lconst 0, 1) := by decide +kernel
theorem dX4_tap_2 : decode cX4_tap 2 = .ok (.ldc2_w 111, 3) := by decide +kernel
theorem dX4_tap_5 : decode cX4_tap 5 = .ok (.invokestatic 49, 3) := by decide +kernel
theorem dX4_tap_8 : decode cX4_tap 8 = .ok (.ifCond .ne 6, 3) := by decide +kernel
theorem dX4_tap_11 : decode cX4_tap 11 = .ok (.bipush (-2), 2) := by decide +kernel
theorem dX4_tap_13 : decode cX4_tap 13 = .ok (.ireturn, 1) := by decide +kernel
theorem dX4_tap_14 : decode cX4_tap 14 = .ok (.aload_n 0, 1) := by decide +kernel
theorem dX4_tap_15 : decode cX4_tap 15 = .ok (.getfield 77, 3) := by decide +kernel
theorem dX4_tap_18 : decode cX4_tap 18 = .ok (.ifCond .le 22, 3) := by decide +kernel
theorem dX4_tap_21 : decode cX4_tap 21 = .ok (.lload_n 1, 1) := by decide +kernel
theorem dX4_tap_22 : decode cX4_tap 22 = .ok (.aload_n 0, 1) := by decide +kernel
theorem dX4_tap_23 : decode cX4_tap 23 = .ok (.getfield 28, 3) := by decide +kernel
theorem dX4_tap_26 : decode cX4_tap 26 = .ok (.aload_n 0, 1) := by decide +kernel
theorem dX4_tap_27 : decode cX4_tap 27 = .ok (.getfield 77, 3) := by decide +kernel
theorem dX4_tap_30 : decode cX4_tap 30 = .ok (.iconst 1, 1) := by decide +kernel
theorem dX4_tap_31 : decode cX4_tap 31 = .ok (.isub, 1) := by decide +kernel
theorem dX4_tap_32 : decode cX4_tap 32 = .ok (.laload, 1) := by decide +kernel
theorem dX4_tap_33 : decode cX4_tap 33 = .ok (.lcmp, 1) := by decide +kernel
theorem dX4_tap_34 : decode cX4_tap 34 = .ok (.ifCond .gt 6, 3) := by decide +kernel
theorem dX4_tap_37 : decode cX4_tap 37 = .ok (.bipush (-3), 2) := by decide +kernel
theorem dX4_tap_39 : decode cX4_tap 39 = .ok (.ireturn, 1) := by decide +kernel
theorem dX4_tap_40 : decode cX4_tap 40 = .ok (.aload_n 0, 1) := by decide +kernel
theorem dX4_tap_41 : decode cX4_tap 41 = .ok (.getfield 77, 3) := by decide +kernel
theorem dX4_tap_44 : decode cX4_tap 44 = .ok (.bipush 40, 2) := by decide +kernel
theorem dX4_tap_46 : decode cX4_tap 46 = .ok (.if_icmp .ne 6, 3) := by decide +kernel
theorem dX4_tap_49 : decode cX4_tap 49 = .ok (.bipush (-4), 2) := by decide +kernel
theorem dX4_tap_51 : decode cX4_tap 51 = .ok (.ireturn, 1) := by decide +kernel
theorem dX4_tap_52 : decode cX4_tap 52 = .ok (.aload_n 0, 1) := by decide +kernel
theorem dX4_tap_53 : decode cX4_tap 53 = .ok (.getfield 28, 3) := by decide +kernel
theorem dX4_tap_56 : decode cX4_tap 56 = .ok (.aload_n 0, 1) := by decide +kernel
theorem dX4_tap_57 : decode cX4_tap 57 = .ok (.getfield 77, 3) := by decide +kernel
theorem dX4_tap_60 : decode cX4_tap 60 = .ok (.lload_n 1, 1) := by decide +kernel
theorem dX4_tap_61 : decode cX4_tap 61 = .ok (.lastore, 1) := by decide +kernel
theorem dX4_tap_62 : decode cX4_tap 62 = .ok (.aload_n 0, 1) := by decide +kernel
theorem dX4_tap_63 : decode cX4_tap 63 = .ok (.dup, 1) := by decide +kernel
theorem dX4_tap_64 : decode cX4_tap 64 = .ok (.getfield 77, 3) := by decide +kernel
theorem dX4_tap_67 : decode cX4_tap 67 = .ok (.iconst 1, 1) := by decide +kernel
theorem dX4_tap_68 : decode cX4_tap 68 = .ok (.iadd, 1) := by decide +kernel
theorem dX4_tap_69 : decode cX4_tap 69 = .ok (.putfield 77, 3) := by decide +kernel
theorem dX4_tap_72 : decode cX4_tap 72 = .ok (.aload_n 0, 1) := by decide +kernel
theorem dX4_tap_73 : decode cX4_tap 73 = .ok (.getfield 77, 3) := by decide +kernel
theorem dX4_tap_76 : decode cX4_tap 76 = .ok (.ireturn, 1) := by decide +kernel
theorem dX4_noTaps_0 : decode cX4_noTaps 0 = .ok (.aload_n 0, 1) := by decide +kernel
theorem dX4_noTaps_1 : decode cX4_noTaps 1 = .ok (.getfield 77, 3) := by decide +kernel
theorem dX4_noTaps_4 : decode cX4_noTaps 4 = .ok (.istore_n 1, 1) := by decide +kernel
theorem dX4_noTaps_5 : decode cX4_noTaps 5 = .ok (.aload_n 0, 1) := by decide +kernel
theorem dX4_noTaps_6 : decode cX4_noTaps 6 = .ok (.iconst 0, 1) := by decide +kernel
theorem dX4_noTaps_7 : decode cX4_noTaps 7 = .ok (.putfield 77, 3) := by decide +kernel
theorem dX4_noTaps_10 : decode cX4_noTaps 10 = .ok (.iload_n 1, 1) := by decide +kernel
theorem dX4_noTaps_11 : decode cX4_noTaps 11 = .ok (.ireturn, 1) := by decide +kernel
theorem dX4_above_0 : decode cX4_above 0 = .ok (.lconst 0, 1) := by decide +kernel
theorem dX4_above_1 : decode cX4_above 1 = .ok (.lstore_n 1, 1) := by decide +kernel
theorem dX4_above_2 : decode cX4_above 2 = .ok (.iconst 0, 1) := by decide +kernel
theorem dX4_above_3 : decode cX4_above 3 = .ok (.istore_n 3, 1) := by decide +kernel
theorem dX4_above_4 : decode cX4_above 4 = .ok (.iload_n 3, 1) := by decide +kernel
theorem dX4_above_5 : decode cX4_above 5 = .ok (.aload_n 0, 1) := by decide +kernel
theorem dX4_above_6 : decode cX4_above 6 = .ok (.getfield 77, 3) := by decide +kernel
theorem dX4_above_9 : decode cX4_above 9 = .ok (.if_icmp .ge 33, 3) := by decide +kernel
theorem dX4_above_12 : decode cX4_above 12 = .ok (.lload_n 1, 1) := by decide +kernel
theorem dX4_above_13 : decode cX4_above 13 = .ok (.ldc2_w 113, 3) := by decide +kernel
theorem dX4_above_16 : decode cX4_above 16 = .ok (.iload_n 3, 1) := by decide +kernel
theorem dX4_above_17 : decode cX4_above 17 = .ok (.i2l, 1) := by decide +kernel
theorem dX4_above_18 : decode cX4_above 18 = .ok (.lmul, 1) := by decide +kernel
theorem dX4_above_19 : decode cX4_above 19 = .ok (.aload_n 0, 1) := by decide +kernel
theorem dX4_above_20 : decode cX4_above 20 = .ok (.getfield 77, 3) := by decide +kernel
theorem dX4_above_23 : decode cX4_above 23 = .ok (.i2l, 1) := by decide +kernel
theorem dX4_above_24 : decode cX4_above 24 = .ok (.lsub, 1) := by decide +kernel
theorem dX4_above_25 : decode cX4_above 25 = .ok (.lconst 1, 1) := by decide +kernel
theorem dX4_above_26 : decode cX4_above 26 = .ok (.ladd, 1) := by decide +kernel
theorem dX4_above_27 : decode cX4_above 27 = .ok (.aload_n 0, 1) := by decide +kernel
theorem dX4_above_28 : decode cX4_above 28 = .ok (.getfield 28, 3) := by decide +kernel
theorem dX4_above_31 : decode cX4_above 31 = .ok (.iload_n 3, 1) := by decide +kernel
theorem dX4_above_32 : decode cX4_above 32 = .ok (.laload, 1) := by decide +kernel
theorem dX4_above_33 : decode cX4_above 33 = .ok (.lmul, 1) := by decide +kernel
theorem dX4_above_34 : decode cX4_above 34 = .ok (.ladd, 1) := by decide +kernel
theorem dX4_above_35 : decode cX4_above 35 = .ok (.lstore_n 1, 1) := by decide +kernel
theorem dX4_above_36 : decode cX4_above 36 = .ok (.iinc 3 1, 3) := by decide +kernel
theorem dX4_above_39 : decode cX4_above 39 = .ok (.goto (-35), 3) := by decide +kernel
theorem dX4_above_42 : decode cX4_above 42 = .ok (.ldc2_w 115, 3) := by decide +kernel
theorem dX4_above_45 : decode cX4_above 45 = .ok (.lload_n 1, 1) := by decide +kernel
theorem dX4_above_46 : decode cX4_above 46 = .ok (.lmul, 1) := by decide +kernel
theorem dX4_above_47 : decode cX4_above 47 = .ok (.lreturn, 1) := by decide +kernel
theorem dX4_below_0 : decode cX4_below 0 = .ok (.aload_n 0, 1) := by decide +kernel
theorem dX4_below_1 : decode cX4_below 1 = .ok (.getfield 77, 3) := by decide +kernel
theorem dX4_below_4 : decode cX4_below 4 = .ok (.i2l, 1) := by decide +kernel
theorem dX4_below_5 : decode cX4_below 5 = .ok (.aload_n 0, 1) := by decide +kernel
theorem dX4_below_6 : decode cX4_below 6 = .ok (.getfield 77, 3) := by decide +kernel
theorem dX4_below_9 : decode cX4_below 9 = .ok (.i2l, 1) := by decide +kernel
theorem dX4_below_10 : decode cX4_below 10 = .ok (.aload_n 0, 1) := by decide +kernel
theorem dX4_below_11 : decode cX4_below 11 = .ok (.getfield 77, 3) := by decide +kernel
theorem dX4_below_14 : decode cX4_below 14 = .ok (.i2l, 1) := by decide +kernel
theorem dX4_below_15 : decode cX4_below 15 = .ok (.lmul, 1) := by decide +kernel
theorem dX4_below_16 : decode cX4_below 16 = .ok (.lconst 1, 1) := by decide +kernel
theorem dX4_below_17 : decode cX4_below 17 = .ok (.lsub, 1) := by decide +kernel
theorem dX4_below_18 : decode cX4_below 18 = .ok (.lmul, 1) := by decide +kernel
theorem dX4_below_19 : decode cX4_below 19 = .ok (.lreturn, 1) := by decide +kernel
theorem dX4_common_0 : decode cX4_common 0 = .ok (.lload_n 0, 1) := by decide +kernel
theorem dX4_common_1 : decode cX4_common 1 = .ok (.lconst 0, 1) := by decide +kernel
theorem dX4_common_2 : decode cX4_common 2 = .ok (.lcmp, 1) := by decide +kernel
theorem dX4_common_3 : decode cX4_common 3 = .ok (.ifCond .ge 8, 3) := by decide +kernel
theorem dX4_common_6 : decode cX4_common 6 = .ok (.lload_n 0, 1) := by decide +kernel
theorem dX4_common_7 : decode cX4_common 7 = .ok (.lneg, 1) := by decide +kernel
theorem dX4_common_8 : decode cX4_common 8 = .ok (.goto 4, 3) := by decide +kernel
theorem dX4_common_11 : decode cX4_common 11 = .ok (.lload_n 0, 1) := by decide +kernel
theorem dX4_common_12 : decode cX4_common 12 = .ok (.lstore 4, 2) := by decide +kernel
theorem dX4_common_14 : decode cX4_common 14 = .ok (.lload_n 2, 1) := by decide +kernel
theorem dX4_common_15 : decode cX4_common 15 = .ok (.lstore 6, 2) := by decide +kernel
theorem dX4_common_17 : decode cX4_common 17 = .ok (.lload 6, 2) := by decide +kernel
theorem dX4_common_19 : decode cX4_common 19 = .ok (.lconst 0, 1) := by decide +kernel
theorem dX4_common_20 : decode cX4_common 20 = .ok (.lcmp, 1) := by decide +kernel
theorem dX4_common_21 : decode cX4_common 21 = .ok (.ifCond .le 21, 3) := by decide +kernel
theorem dX4_common_24 : decode cX4_common 24 = .ok (.lload 4, 2) := by decide +kernel
theorem dX4_common_26 : decode cX4_common 26 = .ok (.lload 6, 2) := by decide +kernel
theorem dX4_common_28 : decode cX4_common 28 = .ok (.lrem, 1) := by decide +kernel
theorem dX4_common_29 : decode cX4_common 29 = .ok (.lstore 8, 2) := by decide +kernel
theorem dX4_common_31 : decode cX4_common 31 = .ok (.lload 6, 2) := by decide +kernel
theorem dX4_common_33 : decode cX4_common 33 = .ok (.lstore 4, 2) := by decide +kernel
theorem dX4_common_35 : decode cX4_common 35 = .ok (.lload 8, 2) := by decide +kernel
theorem dX4_common_37 : decode cX4_common 37 = .ok (.lstore 6, 2) := by decide +kernel
theorem dX4_common_39 : decode cX4_common 39 = .ok (.goto (-22), 3) := by decide +kernel
theorem dX4_common_42 : decode cX4_common 42 = .ok (.lload 4, 2) := by decide +kernel
theorem dX4_common_44 : decode cX4_common 44 = .ok (.lreturn, 1) := by decide +kernel
set_option maxRecDepth 20000 in
theorem ggX4_fit_X4_in : GoodIn wsX4_fit wsX4_in := goodIn_r _ [7] (by decide +kernel) (by decide +kernel)
set_option maxRecDepth 20000 in
theorem gX4_fit_X4_in : GoodIn wsX4_fit (va_wsS RX4 49 yX4_in wsX4_in) := goodIn_app (goodIn_of _ (by decide +kernel)) ggX4_fit_X4_in
set_option maxRecDepth 20000 in
theorem ggX4_fit_X4_above : GoodIn wsX4_fit wsX4_above := goodIn_r _ [11, 2, 12, 13, 14, 22, 23, 24, 25, 26, 27, 28, 29, 30, 31, 32] (by decide +kernel) (by decide +kernel)
set_option maxRecDepth 20000 in
theorem gX4_fit_X4_above : GoodIn wsX4_fit (wsV RX4 119 RX4 yX4_above wsX4_above) := goodIn_app (goodIn_of _ (by decide +kernel)) ggX4_fit_X4_above
set_option maxRecDepth 20000 in
theorem ggX4_fit_X4_below : GoodIn wsX4_fit wsX4_below := goodIn_r _ [18, 2, 22, 23, 24, 25, 26, 27, 28, 29, 30, 31, 32] (by decide +kernel) (by decide +kernel)
set_option maxRecDepth 20000 in
theorem gX4_fit_X4_below : GoodIn wsX4_fit (wsV RX4 123 RX4 yX4_below wsX4_below) := goodIn_app (goodIn_of _ (by decide +kernel)) ggX4_fit_X4_below
set_option maxRecDepth 20000 in
theorem ggX4_fit_X4_common : GoodIn wsX4_fit wsX4_common := goodIn_r _ [21] (by decide +kernel) (by decide +kernel)
set_option maxRecDepth 20000 in
theorem gX4_fit_X4_common : GoodIn wsX4_fit (va_wsS RX4 126 yX4_common wsX4_common) := goodIn_app (goodIn_of _ (by decide +kernel)) ggX4_fit_X4_common
theorem dX4_fit_0 : decode cX4_fit 0 = .ok (.iload_n 1, 1) := by decide +kernel
theorem dX4_fit_1 : decode cX4_fit 1 = .ok (.i2l, 1) := by decide +kernel
theorem dX4_fit_2 : decode cX4_fit 2 = .ok (.lconst 0, 1) := by decide +kernel
theorem dX4_fit_3 : decode cX4_fit 3 = .ok (.lconst 1, 1) := by decide +kernel
theorem dX4_fit_4 : decode cX4_fit 4 = .ok (.invokestatic 49, 3) := by decide +kernel
theorem dX4_fit_7 : decode cX4_fit 7 = .ok (.ifCond .ne 7, 3) := by decide +kernel
theorem dX4_fit_10 : decode cX4_fit 10 = .ok (.ldc2_w 86, 3) := by decide +kernel
theorem dX4_fit_13 : decode cX4_fit 13 = .ok (.lreturn, 1) := by decide +kernel
theorem dX4_fit_14 : decode cX4_fit 14 = .ok (.aload_n 0, 1) := by decide +kernel
theorem dX4_fit_15 : decode cX4_fit 15 = .ok (.getfield 77, 3) := by decide +kernel
theorem dX4_fit_18 : decode cX4_fit 18 = .ok (.iconst 2, 1) := by decide +kernel
theorem dX4_fit_19 : decode cX4_fit 19 = .ok (.if_icmp .ge 7, 3) := by decide +kernel
theorem dX4_fit_22 : decode cX4_fit 22 = .ok (.ldc2_w 117, 3) := by decide +kernel
theorem dX4_fit_25 : decode cX4_fit 25 = .ok (.lreturn, 1) := by decide +kernel
theorem dX4_fit_26 : decode cX4_fit 26 = .ok (.aload_n 0, 1) := by decide +kernel
theorem dX4_fit_27 : decode cX4_fit 27 = .ok (.invokevirtual 119, 3) := by decide +kernel
theorem dX4_fit_30 : decode cX4_fit 30 = .ok (.aload_n 0, 1) := by decide +kernel
theorem dX4_fit_31 : decode cX4_fit 31 = .ok (.invokevirtual 123, 3) := by decide +kernel
theorem dX4_fit_34 : decode cX4_fit 34 = .ok (.invokestatic 126, 3) := by decide +kernel
theorem dX4_fit_37 : decode cX4_fit 37 = .ok (.lstore_n 2, 1) := by decide +kernel
theorem dX4_fit_38 : decode cX4_fit 38 = .ok (.iload_n 1, 1) := by decide +kernel
theorem dX4_fit_39 : decode cX4_fit 39 = .ok (.ifCond .ne 12, 3) := by decide +kernel
theorem dX4_fit_42 : decode cX4_fit 42 = .ok (.aload_n 0, 1) := by decide +kernel
theorem dX4_fit_43 : decode cX4_fit 43 = .ok (.invokevirtual 119, 3) := by decide +kernel
theorem dX4_fit_46 : decode cX4_fit 46 = .ok (.lload_n 2, 1) := by decide +kernel
theorem dX4_fit_47 : decode cX4_fit 47 = .ok (.ldiv, 1) := by decide +kernel
theorem dX4_fit_48 : decode cX4_fit 48 = .ok (.goto 9, 3) := by decide +kernel
theorem dX4_fit_51 : decode cX4_fit 51 = .ok (.aload_n 0, 1) := by decide +kernel
theorem dX4_fit_52 : decode cX4_fit 52 = .ok (.invokevirtual 123, 3) := by decide +kernel
theorem dX4_fit_55 : decode cX4_fit 55 = .ok (.lload_n 2, 1) := by decide +kernel
theorem dX4_fit_56 : decode cX4_fit 56 = .ok (.ldiv, 1) := by decide +kernel
theorem dX4_fit_57 : decode cX4_fit 57 = .ok (.lreturn, 1) := by decide +kernel
set_option maxRecDepth 20000 in
theorem ggX4_pace_X4_in : GoodIn wsX4_pace wsX4_in := goodIn_r _ [9] (by decide +kernel) (by decide +kernel)
set_option maxRecDepth 20000 in
theorem gX4_pace_X4_in : GoodIn wsX4_pace (va_wsS RX4 49 yX4_in wsX4_in) := goodIn_app (goodIn_of _ (by decide +kernel)) ggX4_pace_X4_in
set_option maxRecDepth 20000 in
theorem ggX4_pace_X4_below : GoodIn wsX4_pace wsX4_below := goodIn_r _ [13, 3, 20, 21, 22, 23, 24, 25, 26, 27, 28, 29, 30] (by decide +kernel) (by decide +kernel)
set_option maxRecDepth 20000 in
theorem gX4_pace_X4_below : GoodIn wsX4_pace (wsV RX4 123 RX4 yX4_below wsX4_below) := goodIn_app (goodIn_of _ (by decide +kernel)) ggX4_pace_X4_below
set_option maxRecDepth 20000 in
theorem ggX4_pace_X4_above : GoodIn wsX4_pace wsX4_above := goodIn_r _ [17, 3, 5, 18, 19, 20, 21, 22, 23, 24, 25, 26, 27, 28, 29, 30] (by decide +kernel) (by decide +kernel)
set_option maxRecDepth 20000 in
theorem gX4_pace_X4_above : GoodIn wsX4_pace (wsV RX4 119 RX4 yX4_above wsX4_above) := goodIn_app (goodIn_of _ (by decide +kernel)) ggX4_pace_X4_above
theorem dX4_pace_0 : decode cX4_pace 0 = .ok (.iload_n 1, 1) := by decide +kernel
theorem dX4_pace_1 : decode cX4_pace 1 = .ok (.i2l, 1) := by decide +kernel
theorem dX4_pace_2 : decode cX4_pace 2 = .ok (.lconst 1, 1) := by decide +kernel
theorem dX4_pace_3 : decode cX4_pace 3 = .ok (.ldc2_w 130, 3) := by decide +kernel
theorem dX4_pace_6 : decode cX4_pace 6 = .ok (.invokestatic 49, 3) := by decide +kernel
theorem dX4_pace_9 : decode cX4_pace 9 = .ok (.ifCond .ne 7, 3) := by decide +kernel
theorem dX4_pace_12 : decode cX4_pace 12 = .ok (.ldc2_w 86, 3) := by decide +kernel
theorem dX4_pace_15 : decode cX4_pace 15 = .ok (.lreturn, 1) := by decide +kernel
theorem dX4_pace_16 : decode cX4_pace 16 = .ok (.aload_n 0, 1) := by decide +kernel
theorem dX4_pace_17 : decode cX4_pace 17 = .ok (.getfield 77, 3) := by decide +kernel
theorem dX4_pace_20 : decode cX4_pace 20 = .ok (.iconst 2, 1) := by decide +kernel
theorem dX4_pace_21 : decode cX4_pace 21 = .ok (.if_icmp .ge 7, 3) := by decide +kernel
theorem dX4_pace_24 : decode cX4_pace 24 = .ok (.ldc2_w 117, 3) := by decide +kernel
theorem dX4_pace_27 : decode cX4_pace 27 = .ok (.lreturn, 1) := by decide +kernel
theorem dX4_pace_28 : decode cX4_pace 28 = .ok (.aload_n 0, 1) := by decide +kernel
theorem dX4_pace_29 : decode cX4_pace 29 = .ok (.invokevirtual 123, 3) := by decide +kernel
theorem dX4_pace_32 : decode cX4_pace 32 = .ok (.iload_n 1, 1) := by decide +kernel
theorem dX4_pace_33 : decode cX4_pace 33 = .ok (.i2l, 1) := by decide +kernel
theorem dX4_pace_34 : decode cX4_pace 34 = .ok (.lmul, 1) := by decide +kernel
theorem dX4_pace_35 : decode cX4_pace 35 = .ok (.lstore_n 2, 1) := by decide +kernel
theorem dX4_pace_36 : decode cX4_pace 36 = .ok (.ldc2_w 113, 3) := by decide +kernel
theorem dX4_pace_39 : decode cX4_pace 39 = .ok (.aload_n 0, 1) := by decide +kernel
theorem dX4_pace_40 : decode cX4_pace 40 = .ok (.invokevirtual 119, 3) := by decide +kernel
theorem dX4_pace_43 : decode cX4_pace 43 = .ok (.lmul, 1) := by decide +kernel
theorem dX4_pace_44 : decode cX4_pace 44 = .ok (.lload_n 2, 1) := by decide +kernel
theorem dX4_pace_45 : decode cX4_pace 45 = .ok (.lsub, 1) := by decide +kernel
theorem dX4_pace_46 : decode cX4_pace 46 = .ok (.lstore 4, 2) := by decide +kernel
theorem dX4_pace_48 : decode cX4_pace 48 = .ok (.lload 4, 2) := by decide +kernel
theorem dX4_pace_50 : decode cX4_pace 50 = .ok (.lconst 0, 1) := by decide +kernel
theorem dX4_pace_51 : decode cX4_pace 51 = .ok (.lcmp, 1) := by decide +kernel
theorem dX4_pace_52 : decode cX4_pace 52 = .ok (.ifCond .gt 7, 3) := by decide +kernel
theorem dX4_pace_55 : decode cX4_pace 55 = .ok (.lconst 0, 1) := by decide +kernel
theorem dX4_pace_56 : decode cX4_pace 56 = .ok (.goto 19, 3) := by decide +kernel
theorem dX4_pace_59 : decode cX4_pace 59 = .ok (.lload 4, 2) := by decide +kernel
theorem dX4_pace_61 : decode cX4_pace 61 = .ok (.ldc2_w 113, 3) := by decide +kernel
theorem dX4_pace_64 : decode cX4_pace 64 = .ok (.lload_n 2, 1) := by decide +kernel
theorem dX4_pace_65 : decode cX4_pace 65 = .ok (.lmul, 1) := by decide +kernel
theorem dX4_pace_66 : decode cX4_pace 66 = .ok (.ladd, 1) := by decide +kernel
theorem dX4_pace_67 : decode cX4_pace 67 = .ok (.lconst 1, 1) := by decide +kernel
theorem dX4_pace_68 : decode cX4_pace 68 = .ok (.lsub, 1) := by decide +kernel
theorem dX4_pace_69 : decode cX4_pace 69 = .ok (.ldc2_w 113, 3) := by decide +kernel
theorem dX4_pace_72 : decode cX4_pace 72 = .ok (.lload_n 2, 1) := by decide +kernel
theorem dX4_pace_73 : decode cX4_pace 73 = .ok (.lmul, 1) := by decide +kernel
theorem dX4_pace_74 : decode cX4_pace 74 = .ok (.ldiv, 1) := by decide +kernel
theorem dX4_pace_75 : decode cX4_pace 75 = .ok (.lreturn, 1) := by decide +kernel
