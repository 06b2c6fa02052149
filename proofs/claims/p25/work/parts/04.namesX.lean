theorem dX0_init_0 : decode cX0_init 0 = .ok (.aload_n 0, 1) := by decide +kernel
theorem dX0_init_1 : decode cX0_init 1 = .ok (.invokespecial 1, 3) := by decide +kernel
theorem dX0_init_4 : decode cX0_init 4 = .ok (.aload_n 0, 1) := by decide +kernel
theorem dX0_init_5 : decode cX0_init 5 = .ok (.iload_n 1, 1) := by decide +kernel
theorem dX0_init_6 : decode cX0_init 6 = .ok (.putfield 7, 3) := by decide +kernel
theorem dX0_init_9 : decode cX0_init 9 = .ok (.aload_n 0, 1) := by decide +kernel
theorem dX0_init_10 : decode cX0_init 10 = .ok (.iload_n 2, 1) := by decide +kernel
theorem dX0_init_11 : decode cX0_init 11 = .ok (.putfield 13, 3) := by decide +kernel
theorem dX0_init_14 : decode cX0_init 14 = .ok (.aload_n 0, 1) := by decide +kernel
theorem dX0_init_15 : decode cX0_init 15 = .ok (.iload_n 3, 1) := by decide +kernel
theorem dX0_init_16 : decode cX0_init 16 = .ok (.putfield 16, 3) := by decide +kernel
theorem dX0_init_19 : decode cX0_init 19 = .ok (.return_, 1) := by decide +kernel
theorem dX1_init_0 : decode cX1_init 0 = .ok (.aload_n 0, 1) := by decide +kernel
theorem dX1_init_1 : decode cX1_init 1 = .ok (.invokespecial 1, 3) := by decide +kernel
theorem dX1_init_4 : decode cX1_init 4 = .ok (.aload_n 0, 1) := by decide +kernel
theorem dX1_init_5 : decode cX1_init 5 = .ok (.bipush 10, 2) := by decide +kernel
theorem dX1_init_7 : decode cX1_init 7 = .ok (.putfield 7, 3) := by decide +kernel
theorem dX1_init_10 : decode cX1_init 10 = .ok (.aload_n 0, 1) := by decide +kernel
theorem dX1_init_11 : decode cX1_init 11 = .ok (.ldc 13, 2) := by decide +kernel
theorem dX1_init_13 : decode cX1_init 13 = .ok (.putfield 14, 3) := by decide +kernel
theorem dX1_init_16 : decode cX1_init 16 = .ok (.return_, 1) := by decide +kernel
set_option maxRecDepth 20000 in
theorem ggX1_dutyFor_X6_part : GoodIn wsX1_dutyFor wsX6_part := goodIn_r _ [4] (by decide +kernel) (by decide +kernel)
set_option maxRecDepth 20000 in
theorem gX1_dutyFor_X6_part_n17 : GoodIn wsX1_dutyFor (wsX6_part) := ggX1_dutyFor_X6_part
theorem dX1_dutyFor_0 : decode cX1_dutyFor 0 = .ok (.iload_n 1, 1) := by decide +kernel
theorem dX1_dutyFor_1 : decode cX1_dutyFor 1 = .ok (.aload_n 0, 1) := by decide +kernel
theorem dX1_dutyFor_2 : decode cX1_dutyFor 2 = .ok (.getfield 7, 3) := by decide +kernel
theorem dX1_dutyFor_5 : decode cX1_dutyFor 5 = .ok (.sipush 1000, 3) := by decide +kernel
theorem dX1_dutyFor_8 : decode cX1_dutyFor 8 = .ok (.invokestatic 17, 3) := by decide +kernel
theorem dX1_dutyFor_11 : decode cX1_dutyFor 11 = .ok (.ireturn, 1) := by decide +kernel
set_option maxRecDepth 20000 in
theorem ggX1_chargeWhole_X1_dutyFor : GoodIn wsX1_chargeWhole wsX1_dutyFor := goodIn_r _ [6, 7, 8, 9, 10, 11, 12, 13] (by decide +kernel) (by decide +kernel)
set_option maxRecDepth 20000 in
theorem gX1_chargeWhole_X1_dutyFor : GoodIn wsX1_chargeWhole (wsV RX1 23 RX1 yX1_dutyFor wsX1_dutyFor) := goodIn_app (goodIn_of _ (by decide +kernel)) ggX1_chargeWhole_X1_dutyFor
theorem dX1_chargeWhole_0 : decode cX1_chargeWhole 0 = .ok (.aload_n 0, 1) := by decide +kernel
theorem dX1_chargeWhole_1 : decode cX1_chargeWhole 1 = .ok (.iload_n 1, 1) := by decide +kernel
theorem dX1_chargeWhole_2 : decode cX1_chargeWhole 2 = .ok (.invokevirtual 23, 3) := by decide +kernel
theorem dX1_chargeWhole_5 : decode cX1_chargeWhole 5 = .ok (.istore_n 2, 1) := by decide +kernel
theorem dX1_chargeWhole_6 : decode cX1_chargeWhole 6 = .ok (.aload_n 0, 1) := by decide +kernel
theorem dX1_chargeWhole_7 : decode cX1_chargeWhole 7 = .ok (.dup, 1) := by decide +kernel
theorem dX1_chargeWhole_8 : decode cX1_chargeWhole 8 = .ok (.getfield 27, 3) := by decide +kernel
theorem dX1_chargeWhole_11 : decode cX1_chargeWhole 11 = .ok (.iload_n 2, 1) := by decide +kernel
theorem dX1_chargeWhole_12 : decode cX1_chargeWhole 12 = .ok (.iadd, 1) := by decide +kernel
theorem dX1_chargeWhole_13 : decode cX1_chargeWhole 13 = .ok (.putfield 27, 3) := by decide +kernel
theorem dX1_chargeWhole_16 : decode cX1_chargeWhole 16 = .ok (.iload_n 2, 1) := by decide +kernel
theorem dX1_chargeWhole_17 : decode cX1_chargeWhole 17 = .ok (.ireturn, 1) := by decide +kernel
set_option maxRecDepth 20000 in
theorem ggX1_chargeLeaving_X6_part : GoodIn wsX1_chargeLeaving wsX6_part := goodIn_r _ [10] (by decide +kernel) (by decide +kernel)
set_option maxRecDepth 20000 in
theorem gX1_chargeLeaving_X6_part_n17 : GoodIn wsX1_chargeLeaving (wsX6_part) := ggX1_chargeLeaving_X6_part
set_option maxRecDepth 20000 in
theorem ggX1_chargeLeaving_X1_dutyFor : GoodIn wsX1_chargeLeaving wsX1_dutyFor := goodIn_r _ [15, 6, 8, 9, 10, 16, 17, 18] (by decide +kernel) (by decide +kernel)
set_option maxRecDepth 20000 in
theorem gX1_chargeLeaving_X1_dutyFor : GoodIn wsX1_chargeLeaving (wsV RX1 23 RX1 yX1_dutyFor wsX1_dutyFor) := goodIn_app (goodIn_of _ (by decide +kernel)) ggX1_chargeLeaving_X1_dutyFor
theorem dX1_chargeLeaving_0 : decode cX1_chargeLeaving 0 = .ok (.iload_n 1, 1) := by decide +kernel
theorem dX1_chargeLeaving_1 : decode cX1_chargeLeaving 1 = .ok (.aload_n 0, 1) := by decide +kernel
theorem dX1_chargeLeaving_2 : decode cX1_chargeLeaving 2 = .ok (.getfield 14, 3) := by decide +kernel
theorem dX1_chargeLeaving_5 : decode cX1_chargeLeaving 5 = .ok (.invokestatic 30, 3) := by decide +kernel
theorem dX1_chargeLeaving_8 : decode cX1_chargeLeaving 8 = .ok (.istore_n 2, 1) := by decide +kernel
theorem dX1_chargeLeaving_9 : decode cX1_chargeLeaving 9 = .ok (.aload_n 0, 1) := by decide +kernel
theorem dX1_chargeLeaving_10 : decode cX1_chargeLeaving 10 = .ok (.dup, 1) := by decide +kernel
theorem dX1_chargeLeaving_11 : decode cX1_chargeLeaving 11 = .ok (.getfield 14, 3) := by decide +kernel
theorem dX1_chargeLeaving_14 : decode cX1_chargeLeaving 14 = .ok (.iload_n 2, 1) := by decide +kernel
theorem dX1_chargeLeaving_15 : decode cX1_chargeLeaving 15 = .ok (.isub, 1) := by decide +kernel
theorem dX1_chargeLeaving_16 : decode cX1_chargeLeaving 16 = .ok (.putfield 14, 3) := by decide +kernel
theorem dX1_chargeLeaving_19 : decode cX1_chargeLeaving 19 = .ok (.iload_n 2, 1) := by decide +kernel
theorem dX1_chargeLeaving_20 : decode cX1_chargeLeaving 20 = .ok (.aload_n 0, 1) := by decide +kernel
theorem dX1_chargeLeaving_21 : decode cX1_chargeLeaving 21 = .ok (.getfield 7, 3) := by decide +kernel
theorem dX1_chargeLeaving_24 : decode cX1_chargeLeaving 24 = .ok (.iconst 2, 1) := by decide +kernel
theorem dX1_chargeLeaving_25 : decode cX1_chargeLeaving 25 = .ok (.idiv, 1) := by decide +kernel
theorem dX1_chargeLeaving_26 : decode cX1_chargeLeaving 26 = .ok (.sipush 1000, 3) := by decide +kernel
theorem dX1_chargeLeaving_29 : decode cX1_chargeLeaving 29 = .ok (.invokestatic 17, 3) := by decide +kernel
theorem dX1_chargeLeaving_32 : decode cX1_chargeLeaving 32 = .ok (.aload_n 0, 1) := by decide +kernel
theorem dX1_chargeLeaving_33 : decode cX1_chargeLeaving 33 = .ok (.iload_n 1, 1) := by decide +kernel
theorem dX1_chargeLeaving_34 : decode cX1_chargeLeaving 34 = .ok (.iload_n 2, 1) := by decide +kernel
theorem dX1_chargeLeaving_35 : decode cX1_chargeLeaving 35 = .ok (.isub, 1) := by decide +kernel
theorem dX1_chargeLeaving_36 : decode cX1_chargeLeaving 36 = .ok (.invokevirtual 23, 3) := by decide +kernel
theorem dX1_chargeLeaving_39 : decode cX1_chargeLeaving 39 = .ok (.iadd, 1) := by decide +kernel
theorem dX1_chargeLeaving_40 : decode cX1_chargeLeaving 40 = .ok (.istore_n 3, 1) := by decide +kernel
theorem dX1_chargeLeaving_41 : decode cX1_chargeLeaving 41 = .ok (.aload_n 0, 1) := by decide +kernel
theorem dX1_chargeLeaving_42 : decode cX1_chargeLeaving 42 = .ok (.dup, 1) := by decide +kernel
theorem dX1_chargeLeaving_43 : decode cX1_chargeLeaving 43 = .ok (.getfield 27, 3) := by decide +kernel
theorem dX1_chargeLeaving_46 : decode cX1_chargeLeaving 46 = .ok (.iload_n 3, 1) := by decide +kernel
theorem dX1_chargeLeaving_47 : decode cX1_chargeLeaving 47 = .ok (.iadd, 1) := by decide +kernel
theorem dX1_chargeLeaving_48 : decode cX1_chargeLeaving 48 = .ok (.putfield 27, 3) := by decide +kernel
theorem dX1_chargeLeaving_51 : decode cX1_chargeLeaving 51 = .ok (.iload_n 3, 1) := by decide +kernel
theorem dX1_chargeLeaving_52 : decode cX1_chargeLeaving 52 = .ok (.ireturn, 1) := by decide +kernel
theorem dX1_beginYear_0 : decode cX1_beginYear 0 = .ok (.aload_n 0, 1) := by decide +kernel
theorem dX1_beginYear_1 : decode cX1_beginYear 1 = .ok (.ldc 13, 2) := by decide +kernel
theorem dX1_beginYear_3 : decode cX1_beginYear 3 = .ok (.putfield 14, 3) := by decide +kernel
theorem dX1_beginYear_6 : decode cX1_beginYear 6 = .ok (.return_, 1) := by decide +kernel
theorem dX1_growOwed_0 : decode cX1_growOwed 0 = .ok (.aload_n 0, 1) := by decide +kernel
theorem dX1_growOwed_1 : decode cX1_growOwed 1 = .ok (.getfield 27, 3) := by decide +kernel
theorem dX1_growOwed_4 : decode cX1_growOwed 4 = .ok (.ifCond .le 19, 3) := by decide +kernel
theorem dX1_growOwed_7 : decode cX1_growOwed 7 = .ok (.aload_n 0, 1) := by decide +kernel
theorem dX1_growOwed_8 : decode cX1_growOwed 8 = .ok (.dup, 1) := by decide +kernel
theorem dX1_growOwed_9 : decode cX1_growOwed 9 = .ok (.getfield 27, 3) := by decide +kernel
theorem dX1_growOwed_12 : decode cX1_growOwed 12 = .ok (.aload_n 0, 1) := by decide +kernel
theorem dX1_growOwed_13 : decode cX1_growOwed 13 = .ok (.getfield 27, 3) := by decide +kernel
theorem dX1_growOwed_16 : decode cX1_growOwed 16 = .ok (.bipush 100, 2) := by decide +kernel
theorem dX1_growOwed_18 : decode cX1_growOwed 18 = .ok (.idiv, 1) := by decide +kernel
theorem dX1_growOwed_19 : decode cX1_growOwed 19 = .ok (.iadd, 1) := by decide +kernel
theorem dX1_growOwed_20 : decode cX1_growOwed 20 = .ok (.putfield 27, 3) := by decide +kernel
theorem dX1_growOwed_23 : decode cX1_growOwed 23 = .ok (.return_, 1) := by decide +kernel
theorem dX2_init_0 : decode cX2_init 0 = .ok (.aload_n 0, 1) := by decide +kernel
theorem dX2_init_1 : decode cX2_init 1 = .ok (.invokespecial 1, 3) := by decide +kernel
theorem dX2_init_4 : decode cX2_init 4 = .ok (.return_, 1) := by decide +kernel
theorem dX3_init_0 : decode cX3_init 0 = .ok (.aload_n 0, 1) := by decide +kernel
theorem dX3_init_1 : decode cX3_init 1 = .ok (.invokespecial 1, 3) := by decide +kernel
theorem dX3_init_4 : decode cX3_init 4 = .ok (.aload_n 0, 1) := by decide +kernel
theorem dX3_init_5 : decode cX3_init 5 = .ok (.iload_n 1, 1) := by decide +kernel
theorem dX3_init_6 : decode cX3_init 6 = .ok (.putfield 7, 3) := by decide +kernel
theorem dX3_init_9 : decode cX3_init 9 = .ok (.aload_n 0, 1) := by decide +kernel
theorem dX3_init_10 : decode cX3_init 10 = .ok (.iload_n 2, 1) := by decide +kernel
theorem dX3_init_11 : decode cX3_init 11 = .ok (.putfield 13, 3) := by decide +kernel
theorem dX3_init_14 : decode cX3_init 14 = .ok (.return_, 1) := by decide +kernel
set_option maxRecDepth 20000 in
theorem ggX3_drawBack_X6_part : GoodIn wsX3_drawBack wsX6_part := goodIn_r _ [5] (by decide +kernel) (by decide +kernel)
set_option maxRecDepth 20000 in
theorem gX3_drawBack_X6_part_n16 : GoodIn wsX3_drawBack (wsX6_part) := ggX3_drawBack_X6_part
theorem dX3_drawBack_0 : decode cX3_drawBack 0 = .ok (.aload_n 0, 1) := by decide +kernel
theorem dX3_drawBack_1 : decode cX3_drawBack 1 = .ok (.getfield 13, 3) := by decide +kernel
theorem dX3_drawBack_4 : decode cX3_drawBack 4 = .ok (.iload_n 1, 1) := by decide +kernel
theorem dX3_drawBack_5 : decode cX3_drawBack 5 = .ok (.aload_n 0, 1) := by decide +kernel
theorem dX3_drawBack_6 : decode cX3_drawBack 6 = .ok (.getfield 7, 3) := by decide +kernel
theorem dX3_drawBack_9 : decode cX3_drawBack 9 = .ok (.invokestatic 16, 3) := by decide +kernel
theorem dX3_drawBack_12 : decode cX3_drawBack 12 = .ok (.istore_n 2, 1) := by decide +kernel
theorem dX3_drawBack_13 : decode cX3_drawBack 13 = .ok (.aload_n 0, 1) := by decide +kernel
theorem dX3_drawBack_14 : decode cX3_drawBack 14 = .ok (.dup, 1) := by decide +kernel
theorem dX3_drawBack_15 : decode cX3_drawBack 15 = .ok (.getfield 7, 3) := by decide +kernel
theorem dX3_drawBack_18 : decode cX3_drawBack 18 = .ok (.iload_n 1, 1) := by decide +kernel
theorem dX3_drawBack_19 : decode cX3_drawBack 19 = .ok (.isub, 1) := by decide +kernel
theorem dX3_drawBack_20 : decode cX3_drawBack 20 = .ok (.putfield 7, 3) := by decide +kernel
theorem dX3_drawBack_23 : decode cX3_drawBack 23 = .ok (.aload_n 0, 1) := by decide +kernel
theorem dX3_drawBack_24 : decode cX3_drawBack 24 = .ok (.dup, 1) := by decide +kernel
theorem dX3_drawBack_25 : decode cX3_drawBack 25 = .ok (.getfield 13, 3) := by decide +kernel
theorem dX3_drawBack_28 : decode cX3_drawBack 28 = .ok (.iload_n 2, 1) := by decide +kernel
theorem dX3_drawBack_29 : decode cX3_drawBack 29 = .ok (.isub, 1) := by decide +kernel
theorem dX3_drawBack_30 : decode cX3_drawBack 30 = .ok (.putfield 13, 3) := by decide +kernel
theorem dX3_drawBack_33 : decode cX3_drawBack 33 = .ok (.iload_n 2, 1) := by decide +kernel
theorem dX3_drawBack_34 : decode cX3_drawBack 34 = .ok (.ireturn, 1) := by decide +kernel
theorem dX4_init_0 : decode cX4_init 0 = .ok (.aload_n 0, 1) := by decide +kernel
theorem dX4_init_1 : decode cX4_init 1 = .ok (.invokespecial 3, 3) := by decide +kernel
theorem dX4_init_4 : decode cX4_init 4 = .ok (.aload_n 0, 1) := by decide +kernel
theorem dX4_init_5 : decode cX4_init 5 = .ok (.iconst 0, 1) := by decide +kernel
theorem dX4_init_6 : decode cX4_init 6 = .ok (.putfield 9, 3) := by decide +kernel
theorem dX4_init_9 : decode cX4_init 9 = .ok (.aload_n 0, 1) := by decide +kernel
theorem dX4_init_10 : decode cX4_init 10 = .ok (.aload_n 1, 1) := by decide +kernel
theorem dX4_init_11 : decode cX4_init 11 = .ok (.putfield 15, 3) := by decide +kernel
theorem dX4_init_14 : decode cX4_init 14 = .ok (.aload_n 0, 1) := by decide +kernel
theorem dX4_init_15 : decode cX4_init 15 = .ok (.iload_n 2, 1) := by decide +kernel
theorem dX4_init_16 : decode cX4_init 16 = .ok (.putfield 19, 3) := by decide +kernel
theorem dX4_init_19 : decode cX4_init 19 = .ok (.aload_n 0, 1) := by decide +kernel
theorem dX4_init_20 : decode cX4_init 20 = .ok (.iload_n 3, 1) := by decide +kernel
theorem dX4_init_21 : decode cX4_init 21 = .ok (.putfield 22, 3) := by decide +kernel
theorem dX4_init_24 : decode cX4_init 24 = .ok (.aload_n 0, 1) := by decide +kernel
theorem dX4_init_25 : decode cX4_init 25 = .ok (.iload 4, 2) := by decide +kernel
theorem dX4_init_27 : decode cX4_init 27 = .ok (.putfield 25, 3) := by decide +kernel
theorem dX4_init_30 : decode cX4_init 30 = .ok (.return_, 1) := by decide +kernel
theorem dX5_init_0 : decode cX5_init 0 = .ok (.aload_n 0, 1) := by decide +kernel
theorem dX5_init_1 : decode cX5_init 1 = .ok (.invokespecial 1, 3) := by decide +kernel
theorem dX5_init_4 : decode cX5_init 4 = .ok (.aload_n 0, 1) := by decide +kernel
theorem dX5_init_5 : decode cX5_init 5 = .ok (.iload_n 1, 1) := by decide +kernel
theorem dX5_init_6 : decode cX5_init 6 = .ok (.putfield 7, 3) := by decide +kernel
theorem dX5_init_9 : decode cX5_init 9 = .ok (.aload_n 0, 1) := by decide +kernel
theorem dX5_init_10 : decode cX5_init 10 = .ok (.iload_n 2, 1) := by decide +kernel
theorem dX5_init_11 : decode cX5_init 11 = .ok (.putfield 13, 3) := by decide +kernel
theorem dX5_init_14 : decode cX5_init 14 = .ok (.return_, 1) := by decide +kernel
theorem dX5_has_0 : decode cX5_has 0 = .ok (.iload_n 1, 1) := by decide +kernel
theorem dX5_has_1 : decode cX5_has 1 = .ok (.aload_n 0, 1) := by decide +kernel
theorem dX5_has_2 : decode cX5_has 2 = .ok (.getfield 16, 3) := by decide +kernel
theorem dX5_has_5 : decode cX5_has 5 = .ok (.if_icmp .gt 7, 3) := by decide +kernel
theorem dX5_has_8 : decode cX5_has 8 = .ok (.iconst 1, 1) := by decide +kernel
theorem dX5_has_9 : decode cX5_has 9 = .ok (.goto 4, 3) := by decide +kernel
theorem dX5_has_12 : decode cX5_has 12 = .ok (.iconst 0, 1) := by decide +kernel
theorem dX5_has_13 : decode cX5_has 13 = .ok (.ireturn, 1) := by decide +kernel
theorem dX5_hasRoomFor_0 : decode cX5_hasRoomFor 0 = .ok (.iload_n 1, 1) := by decide +kernel
theorem dX5_hasRoomFor_1 : decode cX5_hasRoomFor 1 = .ok (.aload_n 0, 1) := by decide +kernel
theorem dX5_hasRoomFor_2 : decode cX5_hasRoomFor 2 = .ok (.getfield 13, 3) := by decide +kernel
theorem dX5_hasRoomFor_5 : decode cX5_hasRoomFor 5 = .ok (.aload_n 0, 1) := by decide +kernel
theorem dX5_hasRoomFor_6 : decode cX5_hasRoomFor 6 = .ok (.getfield 16, 3) := by decide +kernel
theorem dX5_hasRoomFor_9 : decode cX5_hasRoomFor 9 = .ok (.isub, 1) := by decide +kernel
theorem dX5_hasRoomFor_10 : decode cX5_hasRoomFor 10 = .ok (.if_icmp .gt 7, 3) := by decide +kernel
theorem dX5_hasRoomFor_13 : decode cX5_hasRoomFor 13 = .ok (.iconst 1, 1) := by decide +kernel
theorem dX5_hasRoomFor_14 : decode cX5_hasRoomFor 14 = .ok (.goto 4, 3) := by decide +kernel
theorem dX5_hasRoomFor_17 : decode cX5_hasRoomFor 17 = .ok (.iconst 0, 1) := by decide +kernel
theorem dX5_hasRoomFor_18 : decode cX5_hasRoomFor 18 = .ok (.ireturn, 1) := by decide +kernel
set_option maxRecDepth 20000 in
theorem ggX5_dropsOf_X6_part : GoodIn wsX5_dropsOf wsX6_part := goodIn_r _ [5] (by decide +kernel) (by decide +kernel)
set_option maxRecDepth 20000 in
theorem gX5_dropsOf_X6_part_n22 : GoodIn wsX5_dropsOf (wsX6_part) := ggX5_dropsOf_X6_part
theorem dX5_dropsOf_0 : decode cX5_dropsOf 0 = .ok (.aload_n 0, 1) := by decide +kernel
theorem dX5_dropsOf_1 : decode cX5_dropsOf 1 = .ok (.getfield 19, 3) := by decide +kernel
theorem dX5_dropsOf_4 : decode cX5_dropsOf 4 = .ok (.iload_n 1, 1) := by decide +kernel
theorem dX5_dropsOf_5 : decode cX5_dropsOf 5 = .ok (.aload_n 0, 1) := by decide +kernel
theorem dX5_dropsOf_6 : decode cX5_dropsOf 6 = .ok (.getfield 16, 3) := by decide +kernel
theorem dX5_dropsOf_9 : decode cX5_dropsOf 9 = .ok (.invokestatic 22, 3) := by decide +kernel
theorem dX5_dropsOf_12 : decode cX5_dropsOf 12 = .ok (.ireturn, 1) := by decide +kernel
set_option maxRecDepth 20000 in
theorem ggX5_takeOut_X5_dropsOf : GoodIn wsX5_takeOut wsX5_dropsOf := goodIn_r _ [7, 2, 1, 8, 9, 10, 11, 12, 13, 14] (by decide +kernel) (by decide +kernel)
set_option maxRecDepth 20000 in
theorem gX5_takeOut_X5_dropsOf : GoodIn wsX5_takeOut (wsV RX5 28 RX5 yX5_dropsOf wsX5_dropsOf) := goodIn_app (goodIn_of _ (by decide +kernel)) ggX5_takeOut_X5_dropsOf
theorem dX5_takeOut_0 : decode cX5_takeOut 0 = .ok (.aload_n 0, 1) := by decide +kernel
theorem dX5_takeOut_1 : decode cX5_takeOut 1 = .ok (.iload_n 1, 1) := by decide +kernel
theorem dX5_takeOut_2 : decode cX5_takeOut 2 = .ok (.invokevirtual 28, 3) := by decide +kernel
theorem dX5_takeOut_5 : decode cX5_takeOut 5 = .ok (.istore_n 2, 1) := by decide +kernel
theorem dX5_takeOut_6 : decode cX5_takeOut 6 = .ok (.aload_n 0, 1) := by decide +kernel
theorem dX5_takeOut_7 : decode cX5_takeOut 7 = .ok (.dup, 1) := by decide +kernel
theorem dX5_takeOut_8 : decode cX5_takeOut 8 = .ok (.getfield 16, 3) := by decide +kernel
theorem dX5_takeOut_11 : decode cX5_takeOut 11 = .ok (.iload_n 1, 1) := by decide +kernel
theorem dX5_takeOut_12 : decode cX5_takeOut 12 = .ok (.isub, 1) := by decide +kernel
theorem dX5_takeOut_13 : decode cX5_takeOut 13 = .ok (.putfield 16, 3) := by decide +kernel
theorem dX5_takeOut_16 : decode cX5_takeOut 16 = .ok (.aload_n 0, 1) := by decide +kernel
theorem dX5_takeOut_17 : decode cX5_takeOut 17 = .ok (.dup, 1) := by decide +kernel
theorem dX5_takeOut_18 : decode cX5_takeOut 18 = .ok (.getfield 19, 3) := by decide +kernel
theorem dX5_takeOut_21 : decode cX5_takeOut 21 = .ok (.iload_n 2, 1) := by decide +kernel
theorem dX5_takeOut_22 : decode cX5_takeOut 22 = .ok (.isub, 1) := by decide +kernel
theorem dX5_takeOut_23 : decode cX5_takeOut 23 = .ok (.putfield 19, 3) := by decide +kernel
theorem dX5_takeOut_26 : decode cX5_takeOut 26 = .ok (.iload_n 2, 1) := by decide +kernel
theorem dX5_takeOut_27 : decode cX5_takeOut 27 = .ok (.ireturn, 1) := by decide +kernel
set_option maxRecDepth 20000 in
theorem ggX5_comeIn_X6_part : GoodIn wsX5_comeIn wsX6_part := goodIn_r _ [12] (by decide +kernel) (by decide +kernel)
set_option maxRecDepth 20000 in
theorem gX5_comeIn_X6_part_n22 : GoodIn wsX5_comeIn (wsX6_part) := ggX5_comeIn_X6_part
theorem dX5_comeIn_0 : decode cX5_comeIn 0 = .ok (.aload_n 0, 1) := by decide +kernel
theorem dX5_comeIn_1 : decode cX5_comeIn 1 = .ok (.getfield 19, 3) := by decide +kernel
theorem dX5_comeIn_4 : decode cX5_comeIn 4 = .ok (.iconst 1, 1) := by decide +kernel
theorem dX5_comeIn_5 : decode cX5_comeIn 5 = .ok (.aload_n 0, 1) := by decide +kernel
theorem dX5_comeIn_6 : decode cX5_comeIn 6 = .ok (.getfield 16, 3) := by decide +kernel
theorem dX5_comeIn_9 : decode cX5_comeIn 9 = .ok (.invokestatic 22, 3) := by decide +kernel
theorem dX5_comeIn_12 : decode cX5_comeIn 12 = .ok (.iload_n 2, 1) := by decide +kernel
theorem dX5_comeIn_13 : decode cX5_comeIn 13 = .ok (.iconst 1, 1) := by decide +kernel
theorem dX5_comeIn_14 : decode cX5_comeIn 14 = .ok (.iload_n 1, 1) := by decide +kernel
theorem dX5_comeIn_15 : decode cX5_comeIn 15 = .ok (.invokestatic 22, 3) := by decide +kernel
theorem dX5_comeIn_18 : decode cX5_comeIn 18 = .ok (.isub, 1) := by decide +kernel
theorem dX5_comeIn_19 : decode cX5_comeIn 19 = .ok (.invokestatic 32, 3) := by decide +kernel
theorem dX5_comeIn_22 : decode cX5_comeIn 22 = .ok (.istore_n 3, 1) := by decide +kernel
theorem dX5_comeIn_23 : decode cX5_comeIn 23 = .ok (.aload_n 0, 1) := by decide +kernel
theorem dX5_comeIn_24 : decode cX5_comeIn 24 = .ok (.getfield 16, 3) := by decide +kernel
theorem dX5_comeIn_27 : decode cX5_comeIn 27 = .ok (.iload_n 1, 1) := by decide +kernel
theorem dX5_comeIn_28 : decode cX5_comeIn 28 = .ok (.invokestatic 37, 3) := by decide +kernel
theorem dX5_comeIn_31 : decode cX5_comeIn 31 = .ok (.iload_n 3, 1) := by decide +kernel
theorem dX5_comeIn_32 : decode cX5_comeIn 32 = .ok (.sipush 10000, 3) := by decide +kernel
theorem dX5_comeIn_35 : decode cX5_comeIn 35 = .ok (.invokestatic 22, 3) := by decide +kernel
theorem dX5_comeIn_38 : decode cX5_comeIn 38 = .ok (.istore 4, 2) := by decide +kernel
theorem dX5_comeIn_40 : decode cX5_comeIn 40 = .ok (.aload_n 0, 1) := by decide +kernel
theorem dX5_comeIn_41 : decode cX5_comeIn 41 = .ok (.dup, 1) := by decide +kernel
theorem dX5_comeIn_42 : decode cX5_comeIn 42 = .ok (.getfield 16, 3) := by decide +kernel
theorem dX5_comeIn_45 : decode cX5_comeIn 45 = .ok (.iload_n 1, 1) := by decide +kernel
theorem dX5_comeIn_46 : decode cX5_comeIn 46 = .ok (.iload 4, 2) := by decide +kernel
theorem dX5_comeIn_48 : decode cX5_comeIn 48 = .ok (.isub, 1) := by decide +kernel
theorem dX5_comeIn_49 : decode cX5_comeIn 49 = .ok (.iadd, 1) := by decide +kernel
theorem dX5_comeIn_50 : decode cX5_comeIn 50 = .ok (.putfield 16, 3) := by decide +kernel
theorem dX5_comeIn_53 : decode cX5_comeIn 53 = .ok (.aload_n 0, 1) := by decide +kernel
theorem dX5_comeIn_54 : decode cX5_comeIn 54 = .ok (.dup, 1) := by decide +kernel
theorem dX5_comeIn_55 : decode cX5_comeIn 55 = .ok (.getfield 19, 3) := by decide +kernel
theorem dX5_comeIn_58 : decode cX5_comeIn 58 = .ok (.iload_n 2, 1) := by decide +kernel
theorem dX5_comeIn_59 : decode cX5_comeIn 59 = .ok (.iadd, 1) := by decide +kernel
theorem dX5_comeIn_60 : decode cX5_comeIn 60 = .ok (.putfield 19, 3) := by decide +kernel
theorem dX5_comeIn_63 : decode cX5_comeIn 63 = .ok (.return_, 1) := by decide +kernel
set_option maxRecDepth 20000 in
theorem ggX5_takeShare_X6_part : GoodIn wsX5_takeShare wsX6_part := goodIn_r _ [6] (by decide +kernel) (by decide +kernel)
set_option maxRecDepth 20000 in
theorem gX5_takeShare_X6_part_n22 : GoodIn wsX5_takeShare (wsX6_part) := ggX5_takeShare_X6_part
theorem dX5_takeShare_0 : decode cX5_takeShare 0 = .ok (.aload_n 0, 1) := by decide +kernel
theorem dX5_takeShare_1 : decode cX5_takeShare 1 = .ok (.getfield 19, 3) := by decide +kernel
theorem dX5_takeShare_4 : decode cX5_takeShare 4 = .ok (.iload_n 1, 1) := by decide +kernel
theorem dX5_takeShare_5 : decode cX5_takeShare 5 = .ok (.ldc 41, 2) := by decide +kernel
theorem dX5_takeShare_7 : decode cX5_takeShare 7 = .ok (.invokestatic 22, 3) := by decide +kernel
theorem dX5_takeShare_10 : decode cX5_takeShare 10 = .ok (.istore_n 2, 1) := by decide +kernel
theorem dX5_takeShare_11 : decode cX5_takeShare 11 = .ok (.aload_n 0, 1) := by decide +kernel
theorem dX5_takeShare_12 : decode cX5_takeShare 12 = .ok (.dup, 1) := by decide +kernel
theorem dX5_takeShare_13 : decode cX5_takeShare 13 = .ok (.getfield 19, 3) := by decide +kernel
theorem dX5_takeShare_16 : decode cX5_takeShare 16 = .ok (.iload_n 2, 1) := by decide +kernel
theorem dX5_takeShare_17 : decode cX5_takeShare 17 = .ok (.isub, 1) := by decide +kernel
theorem dX5_takeShare_18 : decode cX5_takeShare 18 = .ok (.putfield 19, 3) := by decide +kernel
theorem dX5_takeShare_21 : decode cX5_takeShare 21 = .ok (.aload_n 0, 1) := by decide +kernel
theorem dX5_takeShare_22 : decode cX5_takeShare 22 = .ok (.dup, 1) := by decide +kernel
theorem dX5_takeShare_23 : decode cX5_takeShare 23 = .ok (.getfield 16, 3) := by decide +kernel
theorem dX5_takeShare_26 : decode cX5_takeShare 26 = .ok (.aload_n 0, 1) := by decide +kernel
theorem dX5_takeShare_27 : decode cX5_takeShare 27 = .ok (.getfield 16, 3) := by decide +kernel
theorem dX5_takeShare_30 : decode cX5_takeShare 30 = .ok (.iload_n 1, 1) := by decide +kernel
theorem dX5_takeShare_31 : decode cX5_takeShare 31 = .ok (.ldc 41, 2) := by decide +kernel
theorem dX5_takeShare_33 : decode cX5_takeShare 33 = .ok (.invokestatic 22, 3) := by decide +kernel
theorem dX5_takeShare_36 : decode cX5_takeShare 36 = .ok (.isub, 1) := by decide +kernel
theorem dX5_takeShare_37 : decode cX5_takeShare 37 = .ok (.putfield 16, 3) := by decide +kernel
theorem dX5_takeShare_40 : decode cX5_takeShare 40 = .ok (.iload_n 2, 1) := by decide +kernel
theorem dX5_takeShare_41 : decode cX5_takeShare 41 = .ok (.ireturn, 1) := by decide +kernel
set_option maxRecDepth 20000 in
theorem ggX6_init_Jx4a65c_init_da8c8 : GoodIn wsX6_init wsJx4a65c_init_da8c8 := goodIn_r _ [22, 23, 24, 25, 26, 27, 28, 29, 30, 31, 32, 33, 34, 2, 3, 44, 45, 46] (by decide +kernel) (by decide +kernel)
set_option maxRecDepth 20000 in
theorem gX6_init_Jx4a65c_init_da8c8 : GoodIn wsX6_init (wsJx4a65c_init_da8c8) := ggX6_init_Jx4a65c_init_da8c8
set_option maxRecDepth 20000 in
theorem ggX6_init_X1_init : GoodIn wsX6_init wsX1_init := goodIn_r _ [36, 37, 2, 3, 38, 39, 40, 59, 60, 61] (by decide +kernel) (by decide +kernel)
set_option maxRecDepth 20000 in
theorem gX6_init_X1_init_n28 : GoodIn wsX6_init (wsX1_init) := ggX6_init_X1_init
set_option maxRecDepth 20000 in
theorem ggX6_init_X2_init : GoodIn wsX6_init wsX2_init := goodIn_r _ [42, 43, 2, 3] (by decide +kernel) (by decide +kernel)
set_option maxRecDepth 20000 in
theorem gX6_init_X2_init_n35 : GoodIn wsX6_init (wsX2_init) := ggX6_init_X2_init
theorem dX6_init_0 : decode cX6_init 0 = .ok (.aload_n 0, 1) := by decide +kernel
theorem dX6_init_1 : decode cX6_init 1 = .ok (.invokespecial 1, 3) := by decide +kernel
theorem dX6_init_4 : decode cX6_init 4 = .ok (.aload_n 0, 1) := by decide +kernel
theorem dX6_init_5 : decode cX6_init 5 = .ok (.new 7, 3) := by decide +kernel
theorem dX6_init_8 : decode cX6_init 8 = .ok (.dup, 1) := by decide +kernel
theorem dX6_init_9 : decode cX6_init 9 = .ok (.invokespecial 9, 3) := by decide +kernel
theorem dX6_init_12 : decode cX6_init 12 = .ok (.putfield 10, 3) := by decide +kernel
theorem dX6_init_15 : decode cX6_init 15 = .ok (.aload_n 0, 1) := by decide +kernel
theorem dX6_init_16 : decode cX6_init 16 = .ok (.new 7, 3) := by decide +kernel
theorem dX6_init_19 : decode cX6_init 19 = .ok (.dup, 1) := by decide +kernel
theorem dX6_init_20 : decode cX6_init 20 = .ok (.invokespecial 9, 3) := by decide +kernel
theorem dX6_init_23 : decode cX6_init 23 = .ok (.putfield 16, 3) := by decide +kernel
theorem dX6_init_26 : decode cX6_init 26 = .ok (.aload_n 0, 1) := by decide +kernel
theorem dX6_init_27 : decode cX6_init 27 = .ok (.new 7, 3) := by decide +kernel
theorem dX6_init_30 : decode cX6_init 30 = .ok (.dup, 1) := by decide +kernel
theorem dX6_init_31 : decode cX6_init 31 = .ok (.invokespecial 9, 3) := by decide +kernel
theorem dX6_init_34 : decode cX6_init 34 = .ok (.putfield 19, 3) := by decide +kernel
theorem dX6_init_37 : decode cX6_init 37 = .ok (.aload_n 0, 1) := by decide +kernel
theorem dX6_init_38 : decode cX6_init 38 = .ok (.iconst 4, 1) := by decide +kernel
theorem dX6_init_39 : decode cX6_init 39 = .ok (.newarray .int, 2) := by decide +kernel
theorem dX6_init_41 : decode cX6_init 41 = .ok (.putfield 22, 3) := by decide +kernel
theorem dX6_init_44 : decode cX6_init 44 = .ok (.aload_n 0, 1) := by decide +kernel
theorem dX6_init_45 : decode cX6_init 45 = .ok (.new 26, 3) := by decide +kernel
theorem dX6_init_48 : decode cX6_init 48 = .ok (.dup, 1) := by decide +kernel
theorem dX6_init_49 : decode cX6_init 49 = .ok (.invokespecial 28, 3) := by decide +kernel
theorem dX6_init_52 : decode cX6_init 52 = .ok (.putfield 29, 3) := by decide +kernel
theorem dX6_init_55 : decode cX6_init 55 = .ok (.aload_n 0, 1) := by decide +kernel
theorem dX6_init_56 : decode cX6_init 56 = .ok (.new 33, 3) := by decide +kernel
theorem dX6_init_59 : decode cX6_init 59 = .ok (.dup, 1) := by decide +kernel
theorem dX6_init_60 : decode cX6_init 60 = .ok (.invokespecial 35, 3) := by decide +kernel
theorem dX6_init_63 : decode cX6_init 63 = .ok (.putfield 36, 3) := by decide +kernel
theorem dX6_init_66 : decode cX6_init 66 = .ok (.return_, 1) := by decide +kernel
set_option maxRecDepth 20000 in
theorem ggX6_vessel_X6_isPlace : GoodIn wsX6_vessel wsX6_isPlace := goodIn_r _ [15, 16, 88, 89, 90, 91, 92, 93, 94, 95, 96, 97, 98, 99] (by decide +kernel) (by decide +kernel)
set_option maxRecDepth 20000 in
theorem gX6_vessel_X6_isPlace : GoodIn wsX6_vessel (wsV RX6 40 RX6 yX6_isPlace wsX6_isPlace) := goodIn_app (goodIn_of _ (by decide +kernel)) ggX6_vessel_X6_isPlace
set_option maxRecDepth 20000 in
theorem ggX6_vessel_X6_isWithin : GoodIn wsX6_vessel wsX6_isWithin := goodIn_r _ [19] (by decide +kernel) (by decide +kernel)
set_option maxRecDepth 20000 in
theorem gX6_vessel_X6_isWithin : GoodIn wsX6_vessel (va_wsS RX6 51 yX6_isWithin wsX6_isWithin) := goodIn_app (goodIn_of _ (by decide +kernel)) ggX6_vessel_X6_isWithin
set_option maxRecDepth 20000 in
theorem ggX6_vessel_Jx4a65c_size_8abf5 : GoodIn wsX6_vessel wsJx4a65c_size_8abf5 := goodIn_r _ [24, 25, 104, 105, 106] (by decide +kernel) (by decide +kernel)
set_option maxRecDepth 20000 in
theorem gX6_vessel_Jx4a65c_size_8abf5 : GoodIn wsX6_vessel (wsV RX6 60 RJx4a65c yJx4a65c_size_8abf5 wsJx4a65c_size_8abf5) := goodIn_app (goodIn_of _ (by decide +kernel)) ggX6_vessel_Jx4a65c_size_8abf5
set_option maxRecDepth 20000 in
theorem ggX6_vessel_X5_init : GoodIn wsX6_vessel wsX5_init := goodIn_r _ [28, 29, 30, 31, 32, 33, 100, 101, 102, 103] (by decide +kernel) (by decide +kernel)
set_option maxRecDepth 20000 in
theorem gX6_vessel_X5_init : GoodIn wsX6_vessel (wsX5_init) := ggX6_vessel_X5_init
set_option maxRecDepth 20000 in
theorem ggX6_vessel_Jx4a65c_add_9ea2d : GoodIn wsX6_vessel wsJx4a65c_add_9ea2d := goodIn_r _ [37, 38, 39, 40, 25, 41, 42, 43, 23, 44, 45, 46, 47, 48, 49, 50, 51, 52, 53, 54, 55, 56, 57, 58, 59, 60, 61, 62, 63, 64, 65, 66, 67, 68, 69, 70, 71, 72, 73, 74, 75, 76, 77, 78, 79, 80, 81, 82, 83, 84, 85, 86, 87, 104, 105, 106] (by decide +kernel) (by decide +kernel)
set_option maxRecDepth 20000 in
theorem gX6_vessel_Jx4a65c_add_9ea2d : GoodIn wsX6_vessel (wsV RX6 74 RJx4a65c yJx4a65c_add_9ea2d wsJx4a65c_add_9ea2d) := goodIn_app (goodIn_of _ (by decide +kernel)) ggX6_vessel_Jx4a65c_add_9ea2d
theorem dX6_vessel_0 : decode cX6_vessel 0 = .ok (.aload_n 0, 1) := by decide +kernel
theorem dX6_vessel_1 : decode cX6_vessel 1 = .ok (.iload_n 1, 1) := by decide +kernel
theorem dX6_vessel_2 : decode cX6_vessel 2 = .ok (.invokevirtual 40, 3) := by decide +kernel
theorem dX6_vessel_5 : decode cX6_vessel 5 = .ok (.ifCond .ne 13, 3) := by decide +kernel
theorem dX6_vessel_8 : decode cX6_vessel 8 = .ok (.new 44, 3) := by decide +kernel
theorem dX6_vessel_11 : decode cX6_vessel 11 = .ok (.dup, 1) := by decide +kernel
theorem dX6_vessel_12 : decode cX6_vessel 12 = .ok (.ldc 46, 2) := by decide +kernel
theorem dX6_vessel_14 : decode cX6_vessel 14 = .ok (.invokespecial 48, 3) := by decide +kernel
theorem dX6_vessel_17 : decode cX6_vessel 17 = .ok (.athrow, 1) := by decide +kernel
theorem dX6_vessel_18 : decode cX6_vessel 18 = .ok (.iload_n 2, 1) := by decide +kernel
theorem dX6_vessel_19 : decode cX6_vessel 19 = .ok (.iconst 1, 1) := by decide +kernel
theorem dX6_vessel_20 : decode cX6_vessel 20 = .ok (.sipush 9999, 3) := by decide +kernel
theorem dX6_vessel_23 : decode cX6_vessel 23 = .ok (.invokestatic 51, 3) := by decide +kernel
theorem dX6_vessel_26 : decode cX6_vessel 26 = .ok (.ifCond .ne 13, 3) := by decide +kernel
theorem dX6_vessel_29 : decode cX6_vessel 29 = .ok (.new 55, 3) := by decide +kernel
theorem dX6_vessel_32 : decode cX6_vessel 32 = .ok (.dup, 1) := by decide +kernel
theorem dX6_vessel_33 : decode cX6_vessel 33 = .ok (.ldc 57, 2) := by decide +kernel
theorem dX6_vessel_35 : decode cX6_vessel 35 = .ok (.invokespecial 59, 3) := by decide +kernel
theorem dX6_vessel_38 : decode cX6_vessel 38 = .ok (.athrow, 1) := by decide +kernel
theorem dX6_vessel_39 : decode cX6_vessel 39 = .ok (.aload_n 0, 1) := by decide +kernel
theorem dX6_vessel_40 : decode cX6_vessel 40 = .ok (.getfield 10, 3) := by decide +kernel
theorem dX6_vessel_43 : decode cX6_vessel 43 = .ok (.invokevirtual 60, 3) := by decide +kernel
theorem dX6_vessel_46 : decode cX6_vessel 46 = .ok (.bipush 10, 2) := by decide +kernel
theorem dX6_vessel_48 : decode cX6_vessel 48 = .ok (.if_icmp .lt 13, 3) := by decide +kernel
theorem dX6_vessel_51 : decode cX6_vessel 51 = .ok (.new 64, 3) := by decide +kernel
theorem dX6_vessel_54 : decode cX6_vessel 54 = .ok (.dup, 1) := by decide +kernel
theorem dX6_vessel_55 : decode cX6_vessel 55 = .ok (.ldc 66, 2) := by decide +kernel
theorem dX6_vessel_57 : decode cX6_vessel 57 = .ok (.invokespecial 68, 3) := by decide +kernel
theorem dX6_vessel_60 : decode cX6_vessel 60 = .ok (.athrow, 1) := by decide +kernel
theorem dX6_vessel_61 : decode cX6_vessel 61 = .ok (.aload_n 0, 1) := by decide +kernel
theorem dX6_vessel_62 : decode cX6_vessel 62 = .ok (.getfield 10, 3) := by decide +kernel
theorem dX6_vessel_65 : decode cX6_vessel 65 = .ok (.new 69, 3) := by decide +kernel
theorem dX6_vessel_68 : decode cX6_vessel 68 = .ok (.dup, 1) := by decide +kernel
theorem dX6_vessel_69 : decode cX6_vessel 69 = .ok (.iload_n 1, 1) := by decide +kernel
theorem dX6_vessel_70 : decode cX6_vessel 70 = .ok (.iload_n 2, 1) := by decide +kernel
theorem dX6_vessel_71 : decode cX6_vessel 71 = .ok (.invokespecial 71, 3) := by decide +kernel
theorem dX6_vessel_74 : decode cX6_vessel 74 = .ok (.invokevirtual 74, 3) := by decide +kernel
theorem dX6_vessel_77 : decode cX6_vessel 77 = .ok (.pop, 1) := by decide +kernel
theorem dX6_vessel_78 : decode cX6_vessel 78 = .ok (.aload_n 0, 1) := by decide +kernel
theorem dX6_vessel_79 : decode cX6_vessel 79 = .ok (.getfield 10, 3) := by decide +kernel
theorem dX6_vessel_82 : decode cX6_vessel 82 = .ok (.invokevirtual 60, 3) := by decide +kernel
theorem dX6_vessel_85 : decode cX6_vessel 85 = .ok (.iconst 1, 1) := by decide +kernel
theorem dX6_vessel_86 : decode cX6_vessel 86 = .ok (.isub, 1) := by decide +kernel
theorem dX6_vessel_87 : decode cX6_vessel 87 = .ok (.ireturn, 1) := by decide +kernel
set_option maxRecDepth 20000 in
theorem ggX6_shares_X6_isPlace : GoodIn wsX6_shares wsX6_isPlace := goodIn_r _ [10, 5, 14, 15, 16, 17, 18, 19, 20, 21, 22, 23, 24, 25] (by decide +kernel) (by decide +kernel)
set_option maxRecDepth 20000 in
theorem gX6_shares_X6_isPlace : GoodIn wsX6_shares (wsV RX6 40 RX6 yX6_isPlace wsX6_isPlace) := goodIn_app (goodIn_of _ (by decide +kernel)) ggX6_shares_X6_isPlace
set_option maxRecDepth 20000 in
theorem ggX6_shares_X6_isWithin : GoodIn wsX6_shares wsX6_isWithin := goodIn_r _ [13] (by decide +kernel) (by decide +kernel)
set_option maxRecDepth 20000 in
theorem gX6_shares_X6_isWithin : GoodIn wsX6_shares (va_wsS RX6 51 yX6_isWithin wsX6_isWithin) := goodIn_app (goodIn_of _ (by decide +kernel)) ggX6_shares_X6_isWithin
theorem dX6_shares_0 : decode cX6_shares 0 = .ok (.aload_n 0, 1) := by decide +kernel
theorem dX6_shares_1 : decode cX6_shares 1 = .ok (.iload_n 1, 1) := by decide +kernel
theorem dX6_shares_2 : decode cX6_shares 2 = .ok (.invokevirtual 40, 3) := by decide +kernel
theorem dX6_shares_5 : decode cX6_shares 5 = .ok (.ifCond .ne 13, 3) := by decide +kernel
theorem dX6_shares_8 : decode cX6_shares 8 = .ok (.new 44, 3) := by decide +kernel
theorem dX6_shares_11 : decode cX6_shares 11 = .ok (.dup, 1) := by decide +kernel
theorem dX6_shares_12 : decode cX6_shares 12 = .ok (.ldc 46, 2) := by decide +kernel
theorem dX6_shares_14 : decode cX6_shares 14 = .ok (.invokespecial 48, 3) := by decide +kernel
theorem dX6_shares_17 : decode cX6_shares 17 = .ok (.athrow, 1) := by decide +kernel
theorem dX6_shares_18 : decode cX6_shares 18 = .ok (.iload_n 2, 1) := by decide +kernel
theorem dX6_shares_19 : decode cX6_shares 19 = .ok (.iconst 0, 1) := by decide +kernel
theorem dX6_shares_20 : decode cX6_shares 20 = .ok (.sipush 500, 3) := by decide +kernel
theorem dX6_shares_23 : decode cX6_shares 23 = .ok (.invokestatic 51, 3) := by decide +kernel
theorem dX6_shares_26 : decode cX6_shares 26 = .ok (.ifCond .ne 13, 3) := by decide +kernel
theorem dX6_shares_29 : decode cX6_shares 29 = .ok (.new 55, 3) := by decide +kernel
theorem dX6_shares_32 : decode cX6_shares 32 = .ok (.dup, 1) := by decide +kernel
theorem dX6_shares_33 : decode cX6_shares 33 = .ok (.ldc 78, 2) := by decide +kernel
theorem dX6_shares_35 : decode cX6_shares 35 = .ok (.invokespecial 59, 3) := by decide +kernel
theorem dX6_shares_38 : decode cX6_shares 38 = .ok (.athrow, 1) := by decide +kernel
theorem dX6_shares_39 : decode cX6_shares 39 = .ok (.aload_n 0, 1) := by decide +kernel
theorem dX6_shares_40 : decode cX6_shares 40 = .ok (.getfield 22, 3) := by decide +kernel
theorem dX6_shares_43 : decode cX6_shares 43 = .ok (.iload_n 1, 1) := by decide +kernel
theorem dX6_shares_44 : decode cX6_shares 44 = .ok (.iaload, 1) := by decide +kernel
theorem dX6_shares_45 : decode cX6_shares 45 = .ok (.istore_n 3, 1) := by decide +kernel
theorem dX6_shares_46 : decode cX6_shares 46 = .ok (.aload_n 0, 1) := by decide +kernel
theorem dX6_shares_47 : decode cX6_shares 47 = .ok (.getfield 22, 3) := by decide +kernel
theorem dX6_shares_50 : decode cX6_shares 50 = .ok (.iload_n 1, 1) := by decide +kernel
theorem dX6_shares_51 : decode cX6_shares 51 = .ok (.iload_n 2, 1) := by decide +kernel
theorem dX6_shares_52 : decode cX6_shares 52 = .ok (.iastore, 1) := by decide +kernel
theorem dX6_shares_53 : decode cX6_shares 53 = .ok (.iload_n 3, 1) := by decide +kernel
theorem dX6_shares_54 : decode cX6_shares 54 = .ok (.ireturn, 1) := by decide +kernel
set_option maxRecDepth 20000 in
theorem ggX6_run_X6_vesselOf : GoodIn wsX6_run wsX6_vesselOf := goodIn_ca (goodIn_r _ [16, 17, 18, 19, 20, 21, 22, 23, 24, 25, 26, 27, 28, 29, 30, 31, 32, 33, 34, 35, 36, 37, 38, 39, 40, 41, 42, 43, 79, 80, 81, 82, 83, 84, 85, 86, 87, 88, 89, 90, 96, 97, 98] (by decide +kernel) (by decide +kernel)) (goodIn_sub (fun _ h => List.mem_cons_of_mem _ (List.mem_append_right _ h)) (by decide +kernel))
set_option maxRecDepth 20000 in
theorem gX6_run_X6_vesselOf : GoodIn wsX6_run (wsV RX6 80 RX6 yX6_vesselOf wsX6_vesselOf) := goodIn_app (goodIn_of _ (by decide +kernel)) ggX6_run_X6_vesselOf
set_option maxRecDepth 20000 in
theorem ggX6_run_X6_isWithin : GoodIn wsX6_run wsX6_isWithin := goodIn_r _ [46] (by decide +kernel) (by decide +kernel)
set_option maxRecDepth 20000 in
theorem gX6_run_X6_isWithin : GoodIn wsX6_run (va_wsS RX6 51 yX6_isWithin wsX6_isWithin) := goodIn_app (goodIn_of _ (by decide +kernel)) ggX6_run_X6_isWithin
set_option maxRecDepth 20000 in
theorem ggX6_run_X5_hasRoomFor : GoodIn wsX6_run wsX5_hasRoomFor := goodIn_r _ [51, 52, 53, 99, 100, 101, 102] (by decide +kernel) (by decide +kernel)
set_option maxRecDepth 20000 in
theorem gX6_run_X5_hasRoomFor : GoodIn wsX6_run (wsV RX6 88 RX5 yX5_hasRoomFor wsX5_hasRoomFor) := goodIn_app (goodIn_of _ (by decide +kernel)) ggX6_run_X5_hasRoomFor
set_option maxRecDepth 20000 in
theorem ggX6_run_X5_comeIn : GoodIn wsX6_run wsX5_comeIn := goodIn_r _ [57, 58, 53, 59, 60, 9, 61, 62, 63, 64, 65, 15, 66, 99, 100, 101, 102] (by decide +kernel) (by decide +kernel)
set_option maxRecDepth 20000 in
theorem gX6_run_X5_comeIn : GoodIn wsX6_run (wsV RX6 97 RX5 yX5_comeIn wsX5_comeIn) := goodIn_app (goodIn_of _ (by decide +kernel)) ggX6_run_X5_comeIn
set_option maxRecDepth 20000 in
theorem ggX6_run_X6_part : GoodIn wsX6_run wsX6_part := goodIn_r _ [66] (by decide +kernel) (by decide +kernel)
set_option maxRecDepth 20000 in
theorem gX6_run_X6_part : GoodIn wsX6_run (va_wsS RX6 103 yX6_part wsX6_part) := goodIn_app (goodIn_of _ (by decide +kernel)) ggX6_run_X6_part
set_option maxRecDepth 20000 in
theorem ggX6_run_X1_chargeWhole : GoodIn wsX6_run wsX1_chargeWhole := goodIn_r _ [72, 73, 74, 75, 76, 71, 77, 78, 65, 15, 66, 103, 104, 105] (by decide +kernel) (by decide +kernel)
set_option maxRecDepth 20000 in
theorem gX6_run_X1_chargeWhole : GoodIn wsX6_run (wsV RX6 116 RX1 yX1_chargeWhole wsX1_chargeWhole) := goodIn_app (goodIn_of _ (by decide +kernel)) ggX6_run_X1_chargeWhole
theorem dX6_run_0 : decode cX6_run 0 = .ok (.aload_n 0, 1) := by decide +kernel
theorem dX6_run_1 : decode cX6_run 1 = .ok (.iload_n 1, 1) := by decide +kernel
theorem dX6_run_2 : decode cX6_run 2 = .ok (.invokevirtual 80, 3) := by decide +kernel
theorem dX6_run_5 : decode cX6_run 5 = .ok (.astore 6, 2) := by decide +kernel
theorem dX6_run_7 : decode cX6_run 7 = .ok (.iload_n 2, 1) := by decide +kernel
theorem dX6_run_8 : decode cX6_run 8 = .ok (.iconst 1, 1) := by decide +kernel
theorem dX6_run_9 : decode cX6_run 9 = .ok (.sipush 9999, 3) := by decide +kernel
theorem dX6_run_12 : decode cX6_run 12 = .ok (.invokestatic 51, 3) := by decide +kernel
theorem dX6_run_15 : decode cX6_run 15 = .ok (.ifCond .eq 14, 3) := by decide +kernel
theorem dX6_run_18 : decode cX6_run 18 = .ok (.iload_n 3, 1) := by decide +kernel
theorem dX6_run_19 : decode cX6_run 19 = .ok (.iconst 1, 1) := by decide +kernel
theorem dX6_run_20 : decode cX6_run 20 = .ok (.sipush 300, 3) := by decide +kernel
theorem dX6_run_23 : decode cX6_run 23 = .ok (.invokestatic 51, 3) := by decide +kernel
theorem dX6_run_26 : decode cX6_run 26 = .ok (.ifCond .ne 13, 3) := by decide +kernel
theorem dX6_run_29 : decode cX6_run 29 = .ok (.new 55, 3) := by decide +kernel
theorem dX6_run_32 : decode cX6_run 32 = .ok (.dup, 1) := by decide +kernel
theorem dX6_run_33 : decode cX6_run 33 = .ok (.ldc 84, 2) := by decide +kernel
theorem dX6_run_35 : decode cX6_run 35 = .ok (.invokespecial 59, 3) := by decide +kernel
theorem dX6_run_38 : decode cX6_run 38 = .ok (.athrow, 1) := by decide +kernel
theorem dX6_run_39 : decode cX6_run 39 = .ok (.iload 4, 2) := by decide +kernel
theorem dX6_run_41 : decode cX6_run 41 = .ok (.iconst 1, 1) := by decide +kernel
theorem dX6_run_42 : decode cX6_run 42 = .ok (.sipush 9999, 3) := by decide +kernel
theorem dX6_run_45 : decode cX6_run 45 = .ok (.invokestatic 51, 3) := by decide +kernel
theorem dX6_run_48 : decode cX6_run 48 = .ok (.ifCond .eq 15, 3) := by decide +kernel
theorem dX6_run_51 : decode cX6_run 51 = .ok (.iload 5, 2) := by decide +kernel
theorem dX6_run_53 : decode cX6_run 53 = .ok (.iconst 1, 1) := by decide +kernel
theorem dX6_run_54 : decode cX6_run 54 = .ok (.sipush 960, 3) := by decide +kernel
theorem dX6_run_57 : decode cX6_run 57 = .ok (.invokestatic 51, 3) := by decide +kernel
theorem dX6_run_60 : decode cX6_run 60 = .ok (.ifCond .ne 13, 3) := by decide +kernel
theorem dX6_run_63 : decode cX6_run 63 = .ok (.new 55, 3) := by decide +kernel
theorem dX6_run_66 : decode cX6_run 66 = .ok (.dup, 1) := by decide +kernel
theorem dX6_run_67 : decode cX6_run 67 = .ok (.ldc 86, 2) := by decide +kernel
theorem dX6_run_69 : decode cX6_run 69 = .ok (.invokespecial 59, 3) := by decide +kernel
theorem dX6_run_72 : decode cX6_run 72 = .ok (.athrow, 1) := by decide +kernel
theorem dX6_run_73 : decode cX6_run 73 = .ok (.iload_n 2, 1) := by decide +kernel
theorem dX6_run_74 : decode cX6_run 74 = .ok (.iload_n 3, 1) := by decide +kernel
theorem dX6_run_75 : decode cX6_run 75 = .ok (.imul, 1) := by decide +kernel
theorem dX6_run_76 : decode cX6_run 76 = .ok (.istore 7, 2) := by decide +kernel
theorem dX6_run_78 : decode cX6_run 78 = .ok (.iload 4, 2) := by decide +kernel
theorem dX6_run_80 : decode cX6_run 80 = .ok (.iload 5, 2) := by decide +kernel
theorem dX6_run_82 : decode cX6_run 82 = .ok (.imul, 1) := by decide +kernel
theorem dX6_run_83 : decode cX6_run 83 = .ok (.istore 8, 2) := by decide +kernel
theorem dX6_run_85 : decode cX6_run 85 = .ok (.iload 8, 2) := by decide +kernel
theorem dX6_run_87 : decode cX6_run 87 = .ok (.iload 7, 2) := by decide +kernel
theorem dX6_run_89 : decode cX6_run 89 = .ok (.if_icmp .gt 22, 3) := by decide +kernel
theorem dX6_run_92 : decode cX6_run 92 = .ok (.aload 6, 2) := by decide +kernel
theorem dX6_run_94 : decode cX6_run 94 = .ok (.iload 4, 2) := by decide +kernel
theorem dX6_run_96 : decode cX6_run 96 = .ok (.invokevirtual 88, 3) := by decide +kernel
theorem dX6_run_99 : decode cX6_run 99 = .ok (.ifCond .eq 12, 3) := by decide +kernel
theorem dX6_run_102 : decode cX6_run 102 = .ok (.aload_n 0, 1) := by decide +kernel
theorem dX6_run_103 : decode cX6_run 103 = .ok (.getfield 91, 3) := by decide +kernel
theorem dX6_run_106 : decode cX6_run 106 = .ok (.bipush 60, 2) := by decide +kernel
theorem dX6_run_108 : decode cX6_run 108 = .ok (.if_icmp .lt 13, 3) := by decide +kernel
theorem dX6_run_111 : decode cX6_run 111 = .ok (.new 64, 3) := by decide +kernel
theorem dX6_run_114 : decode cX6_run 114 = .ok (.dup, 1) := by decide +kernel
theorem dX6_run_115 : decode cX6_run 115 = .ok (.ldc 95, 2) := by decide +kernel
theorem dX6_run_117 : decode cX6_run 117 = .ok (.invokespecial 68, 3) := by decide +kernel
theorem dX6_run_120 : decode cX6_run 120 = .ok (.athrow, 1) := by decide +kernel
theorem dX6_run_121 : decode cX6_run 121 = .ok (.aload_n 0, 1) := by decide +kernel
theorem dX6_run_122 : decode cX6_run 122 = .ok (.dup, 1) := by decide +kernel
theorem dX6_run_123 : decode cX6_run 123 = .ok (.getfield 91, 3) := by decide +kernel
theorem dX6_run_126 : decode cX6_run 126 = .ok (.iconst 1, 1) := by decide +kernel
theorem dX6_run_127 : decode cX6_run 127 = .ok (.iadd, 1) := by decide +kernel
theorem dX6_run_128 : decode cX6_run 128 = .ok (.putfield 91, 3) := by decide +kernel
theorem dX6_run_131 : decode cX6_run 131 = .ok (.aload 6, 2) := by decide +kernel
theorem dX6_run_133 : decode cX6_run 133 = .ok (.iload 4, 2) := by decide +kernel
theorem dX6_run_135 : decode cX6_run 135 = .ok (.iload 8, 2) := by decide +kernel
theorem dX6_run_137 : decode cX6_run 137 = .ok (.invokevirtual 97, 3) := by decide +kernel
theorem dX6_run_140 : decode cX6_run 140 = .ok (.aload_n 0, 1) := by decide +kernel
theorem dX6_run_141 : decode cX6_run 141 = .ok (.getfield 36, 3) := by decide +kernel
theorem dX6_run_144 : decode cX6_run 144 = .ok (.dup, 1) := by decide +kernel
theorem dX6_run_145 : decode cX6_run 145 = .ok (.getfield 100, 3) := by decide +kernel
theorem dX6_run_148 : decode cX6_run 148 = .ok (.iload 8, 2) := by decide +kernel
theorem dX6_run_150 : decode cX6_run 150 = .ok (.iadd, 1) := by decide +kernel
theorem dX6_run_151 : decode cX6_run 151 = .ok (.putfield 100, 3) := by decide +kernel
theorem dX6_run_154 : decode cX6_run 154 = .ok (.iconst 0, 1) := by decide +kernel
theorem dX6_run_155 : decode cX6_run 155 = .ok (.iload 7, 2) := by decide +kernel
theorem dX6_run_157 : decode cX6_run 157 = .ok (.bipush 9, 2) := by decide +kernel
theorem dX6_run_159 : decode cX6_run 159 = .ok (.bipush 10, 2) := by decide +kernel
theorem dX6_run_161 : decode cX6_run 161 = .ok (.invokestatic 103, 3) := by decide +kernel
theorem dX6_run_164 : decode cX6_run 164 = .ok (.iload 8, 2) := by decide +kernel
theorem dX6_run_166 : decode cX6_run 166 = .ok (.isub, 1) := by decide +kernel
theorem dX6_run_167 : decode cX6_run 167 = .ok (.invokestatic 107, 3) := by decide +kernel
theorem dX6_run_170 : decode cX6_run 170 = .ok (.istore 9, 2) := by decide +kernel
theorem dX6_run_172 : decode cX6_run 172 = .ok (.aload_n 0, 1) := by decide +kernel
theorem dX6_run_173 : decode cX6_run 173 = .ok (.getfield 36, 3) := by decide +kernel
theorem dX6_run_176 : decode cX6_run 176 = .ok (.dup, 1) := by decide +kernel
theorem dX6_run_177 : decode cX6_run 177 = .ok (.getfield 113, 3) := by decide +kernel
theorem dX6_run_180 : decode cX6_run 180 = .ok (.iload 9, 2) := by decide +kernel
theorem dX6_run_182 : decode cX6_run 182 = .ok (.iadd, 1) := by decide +kernel
theorem dX6_run_183 : decode cX6_run 183 = .ok (.putfield 113, 3) := by decide +kernel
theorem dX6_run_186 : decode cX6_run 186 = .ok (.aload_n 0, 1) := by decide +kernel
theorem dX6_run_187 : decode cX6_run 187 = .ok (.getfield 29, 3) := by decide +kernel
theorem dX6_run_190 : decode cX6_run 190 = .ok (.iload 9, 2) := by decide +kernel
theorem dX6_run_192 : decode cX6_run 192 = .ok (.invokevirtual 116, 3) := by decide +kernel
theorem dX6_run_195 : decode cX6_run 195 = .ok (.pop, 1) := by decide +kernel
theorem dX6_run_196 : decode cX6_run 196 = .ok (.iload 9, 2) := by decide +kernel
theorem dX6_run_198 : decode cX6_run 198 = .ok (.ireturn, 1) := by decide +kernel
set_option maxRecDepth 20000 in
theorem ggX6_move_X6_vesselOf : GoodIn wsX6_move wsX6_vesselOf := goodIn_ca (goodIn_r _ [9, 10, 11, 12, 13, 14, 15, 16, 17, 18, 19, 20, 21, 22, 23, 24, 25, 26, 27, 28, 29, 30, 31, 32, 33, 34, 35, 36, 74, 75, 76, 77, 78, 79, 80, 81, 82, 83, 84, 85, 86, 87, 88] (by decide +kernel) (by decide +kernel)) (goodIn_sub (fun _ h => List.mem_cons_of_mem _ (List.mem_append_right _ h)) (by decide +kernel))
set_option maxRecDepth 20000 in
theorem gX6_move_X6_vesselOf : GoodIn wsX6_move (wsV RX6 80 RX6 yX6_vesselOf wsX6_vesselOf) := goodIn_app (goodIn_of _ (by decide +kernel)) ggX6_move_X6_vesselOf
set_option maxRecDepth 20000 in
theorem ggX6_move_X5_has : GoodIn wsX6_move wsX5_has := goodIn_r _ [41, 42, 70, 71, 72, 73] (by decide +kernel) (by decide +kernel)
set_option maxRecDepth 20000 in
theorem gX6_move_X5_has : GoodIn wsX6_move (wsV RX6 125 RX5 yX5_has wsX5_has) := goodIn_app (goodIn_of _ (by decide +kernel)) ggX6_move_X5_has
set_option maxRecDepth 20000 in
theorem ggX6_move_X5_hasRoomFor : GoodIn wsX6_move wsX5_hasRoomFor := goodIn_r _ [46, 47, 42, 70, 71, 72, 73] (by decide +kernel) (by decide +kernel)
set_option maxRecDepth 20000 in
theorem gX6_move_X5_hasRoomFor : GoodIn wsX6_move (wsV RX6 88 RX5 yX5_hasRoomFor wsX5_hasRoomFor) := goodIn_app (goodIn_of _ (by decide +kernel)) ggX6_move_X5_hasRoomFor
set_option maxRecDepth 20000 in
theorem ggX6_move_X5_takeOut : GoodIn wsX6_move wsX5_takeOut := goodIn_r _ [51, 42, 52, 53, 54, 55, 40, 56, 57, 8, 58, 70, 71, 72, 73] (by decide +kernel) (by decide +kernel)
set_option maxRecDepth 20000 in
theorem gX6_move_X5_takeOut : GoodIn wsX6_move (wsV RX6 130 RX5 yX5_takeOut wsX5_takeOut) := goodIn_app (goodIn_of _ (by decide +kernel)) ggX6_move_X5_takeOut
set_option maxRecDepth 20000 in
theorem ggX6_move_X5_comeIn : GoodIn wsX6_move wsX5_comeIn := goodIn_r _ [62, 52, 42, 63, 64, 65, 66, 67, 68, 69, 57, 8, 58, 70, 71, 72, 73] (by decide +kernel) (by decide +kernel)
set_option maxRecDepth 20000 in
theorem gX6_move_X5_comeIn : GoodIn wsX6_move (wsV RX6 97 RX5 yX5_comeIn wsX5_comeIn) := goodIn_app (goodIn_of _ (by decide +kernel)) ggX6_move_X5_comeIn
theorem dX6_move_0 : decode cX6_move 0 = .ok (.aload_n 0, 1) := by decide +kernel
theorem dX6_move_1 : decode cX6_move 1 = .ok (.iload_n 1, 1) := by decide +kernel
theorem dX6_move_2 : decode cX6_move 2 = .ok (.invokevirtual 80, 3) := by decide +kernel
theorem dX6_move_5 : decode cX6_move 5 = .ok (.astore 4, 2) := by decide +kernel
theorem dX6_move_7 : decode cX6_move 7 = .ok (.aload_n 0, 1) := by decide +kernel
theorem dX6_move_8 : decode cX6_move 8 = .ok (.iload_n 2, 1) := by decide +kernel
theorem dX6_move_9 : decode cX6_move 9 = .ok (.invokevirtual 80, 3) := by decide +kernel
theorem dX6_move_12 : decode cX6_move 12 = .ok (.astore 5, 2) := by decide +kernel
theorem dX6_move_14 : decode cX6_move 14 = .ok (.iload_n 1, 1) := by decide +kernel
theorem dX6_move_15 : decode cX6_move 15 = .ok (.iload_n 2, 1) := by decide +kernel
theorem dX6_move_16 : decode cX6_move 16 = .ok (.if_icmp .eq 8, 3) := by decide +kernel
theorem dX6_move_19 : decode cX6_move 19 = .ok (.iload_n 3, 1) := by decide +kernel
theorem dX6_move_20 : decode cX6_move 20 = .ok (.iconst 1, 1) := by decide +kernel
theorem dX6_move_21 : decode cX6_move 21 = .ok (.if_icmp .ge 13, 3) := by decide +kernel
theorem dX6_move_24 : decode cX6_move 24 = .ok (.new 55, 3) := by decide +kernel
theorem dX6_move_27 : decode cX6_move 27 = .ok (.dup, 1) := by decide +kernel
theorem dX6_move_28 : decode cX6_move 28 = .ok (.ldc 120, 2) := by decide +kernel
theorem dX6_move_30 : decode cX6_move 30 = .ok (.invokespecial 59, 3) := by decide +kernel
theorem dX6_move_33 : decode cX6_move 33 = .ok (.athrow, 1) := by decide +kernel
theorem dX6_move_34 : decode cX6_move 34 = .ok (.aload 4, 2) := by decide +kernel
theorem dX6_move_36 : decode cX6_move 36 = .ok (.getfield 122, 3) := by decide +kernel
theorem dX6_move_39 : decode cX6_move 39 = .ok (.aload 5, 2) := by decide +kernel
theorem dX6_move_41 : decode cX6_move 41 = .ok (.getfield 122, 3) := by decide +kernel
theorem dX6_move_44 : decode cX6_move 44 = .ok (.if_icmp .ne 21, 3) := by decide +kernel
theorem dX6_move_47 : decode cX6_move 47 = .ok (.aload 4, 2) := by decide +kernel
theorem dX6_move_49 : decode cX6_move 49 = .ok (.iload_n 3, 1) := by decide +kernel
theorem dX6_move_50 : decode cX6_move 50 = .ok (.invokevirtual 125, 3) := by decide +kernel
theorem dX6_move_53 : decode cX6_move 53 = .ok (.ifCond .eq 12, 3) := by decide +kernel
theorem dX6_move_56 : decode cX6_move 56 = .ok (.aload 5, 2) := by decide +kernel
theorem dX6_move_58 : decode cX6_move 58 = .ok (.iload_n 3, 1) := by decide +kernel
theorem dX6_move_59 : decode cX6_move 59 = .ok (.invokevirtual 88, 3) := by decide +kernel
theorem dX6_move_62 : decode cX6_move 62 = .ok (.ifCond .ne 13, 3) := by decide +kernel
theorem dX6_move_65 : decode cX6_move 65 = .ok (.new 64, 3) := by decide +kernel
theorem dX6_move_68 : decode cX6_move 68 = .ok (.dup, 1) := by decide +kernel
theorem dX6_move_69 : decode cX6_move 69 = .ok (.ldc 128, 2) := by decide +kernel
theorem dX6_move_71 : decode cX6_move 71 = .ok (.invokespecial 68, 3) := by decide +kernel
theorem dX6_move_74 : decode cX6_move 74 = .ok (.athrow, 1) := by decide +kernel
theorem dX6_move_75 : decode cX6_move 75 = .ok (.aload 5, 2) := by decide +kernel
theorem dX6_move_77 : decode cX6_move 77 = .ok (.iload_n 3, 1) := by decide +kernel
theorem dX6_move_78 : decode cX6_move 78 = .ok (.aload 4, 2) := by decide +kernel
theorem dX6_move_80 : decode cX6_move 80 = .ok (.iload_n 3, 1) := by decide +kernel
theorem dX6_move_81 : decode cX6_move 81 = .ok (.invokevirtual 130, 3) := by decide +kernel
theorem dX6_move_84 : decode cX6_move 84 = .ok (.invokevirtual 97, 3) := by decide +kernel
theorem dX6_move_87 : decode cX6_move 87 = .ok (.aload 5, 2) := by decide +kernel
theorem dX6_move_89 : decode cX6_move 89 = .ok (.getfield 133, 3) := by decide +kernel
theorem dX6_move_92 : decode cX6_move 92 = .ok (.ireturn, 1) := by decide +kernel
set_option maxRecDepth 20000 in
theorem ggX6_dip_X6_vesselOf : GoodIn wsX6_dip wsX6_vesselOf := goodIn_ca (goodIn_r _ [11, 12, 13, 14, 15, 16, 17, 18, 19, 20, 21, 22, 23, 24, 25, 26, 27, 28, 29, 30, 31, 32, 33, 34, 35, 36, 37, 38, 64, 65, 66, 67, 68, 69, 70, 71, 72, 73, 74, 75, 81, 82, 83] (by decide +kernel) (by decide +kernel)) (goodIn_sub (fun _ h => List.mem_cons_of_mem _ (List.mem_append_right _ h)) (by decide +kernel))
set_option maxRecDepth 20000 in
theorem gX6_dip_X6_vesselOf : GoodIn wsX6_dip (wsV RX6 80 RX6 yX6_vesselOf wsX6_vesselOf) := goodIn_app (goodIn_of _ (by decide +kernel)) ggX6_dip_X6_vesselOf
set_option maxRecDepth 20000 in
theorem ggX6_dip_X6_isWithin : GoodIn wsX6_dip wsX6_isWithin := goodIn_r _ [41] (by decide +kernel) (by decide +kernel)
set_option maxRecDepth 20000 in
theorem gX6_dip_X6_isWithin : GoodIn wsX6_dip (va_wsS RX6 51 yX6_isWithin wsX6_isWithin) := goodIn_app (goodIn_of _ (by decide +kernel)) ggX6_dip_X6_isWithin
set_option maxRecDepth 20000 in
theorem ggX6_dip_X6_miss : GoodIn wsX6_dip wsX6_miss := goodIn_r _ [45, 6, 46, 47, 48, 49, 50, 51, 52, 53, 54, 55, 56, 57, 58, 10, 59, 64, 65, 66, 67, 68, 69, 70, 71, 72, 73, 74, 75, 76, 77, 78, 79, 80, 84, 85, 86] (by decide +kernel) (by decide +kernel)
set_option maxRecDepth 20000 in
theorem gX6_dip_X6_miss : GoodIn wsX6_dip (wsV RX6 147 RX6 yX6_miss wsX6_miss) := goodIn_app (goodIn_of _ (by decide +kernel)) ggX6_dip_X6_miss
theorem dX6_dip_0 : decode cX6_dip 0 = .ok (.aload_n 0, 1) := by decide +kernel
theorem dX6_dip_1 : decode cX6_dip 1 = .ok (.iload_n 1, 1) := by decide +kernel
theorem dX6_dip_2 : decode cX6_dip 2 = .ok (.invokevirtual 80, 3) := by decide +kernel
theorem dX6_dip_5 : decode cX6_dip 5 = .ok (.astore 4, 2) := by decide +kernel
theorem dX6_dip_7 : decode cX6_dip 7 = .ok (.iload_n 2, 1) := by decide +kernel
theorem dX6_dip_8 : decode cX6_dip 8 = .ok (.iconst 0, 1) := by decide +kernel
theorem dX6_dip_9 : decode cX6_dip 9 = .ok (.aload 4, 2) := by decide +kernel
theorem dX6_dip_11 : decode cX6_dip 11 = .ok (.getfield 136, 3) := by decide +kernel
theorem dX6_dip_14 : decode cX6_dip 14 = .ok (.invokestatic 51, 3) := by decide +kernel
theorem dX6_dip_17 : decode cX6_dip 17 = .ok (.ifCond .eq 14, 3) := by decide +kernel
theorem dX6_dip_20 : decode cX6_dip 20 = .ok (.iload_n 3, 1) := by decide +kernel
theorem dX6_dip_21 : decode cX6_dip 21 = .ok (.iconst 0, 1) := by decide +kernel
theorem dX6_dip_22 : decode cX6_dip 22 = .ok (.sipush 960, 3) := by decide +kernel
theorem dX6_dip_25 : decode cX6_dip 25 = .ok (.invokestatic 51, 3) := by decide +kernel
theorem dX6_dip_28 : decode cX6_dip 28 = .ok (.ifCond .ne 13, 3) := by decide +kernel
theorem dX6_dip_31 : decode cX6_dip 31 = .ok (.new 55, 3) := by decide +kernel
theorem dX6_dip_34 : decode cX6_dip 34 = .ok (.dup, 1) := by decide +kernel
theorem dX6_dip_35 : decode cX6_dip 35 = .ok (.ldc 86, 2) := by decide +kernel
theorem dX6_dip_37 : decode cX6_dip 37 = .ok (.invokespecial 59, 3) := by decide +kernel
theorem dX6_dip_40 : decode cX6_dip 40 = .ok (.athrow, 1) := by decide +kernel
theorem dX6_dip_41 : decode cX6_dip 41 = .ok (.aload_n 0, 1) := by decide +kernel
theorem dX6_dip_42 : decode cX6_dip 42 = .ok (.getfield 139, 3) := by decide +kernel
theorem dX6_dip_45 : decode cX6_dip 45 = .ok (.bipush 60, 2) := by decide +kernel
theorem dX6_dip_47 : decode cX6_dip 47 = .ok (.if_icmp .lt 13, 3) := by decide +kernel
theorem dX6_dip_50 : decode cX6_dip 50 = .ok (.new 64, 3) := by decide +kernel
theorem dX6_dip_53 : decode cX6_dip 53 = .ok (.dup, 1) := by decide +kernel
theorem dX6_dip_54 : decode cX6_dip 54 = .ok (.ldc 142, 2) := by decide +kernel
theorem dX6_dip_56 : decode cX6_dip 56 = .ok (.invokespecial 68, 3) := by decide +kernel
theorem dX6_dip_59 : decode cX6_dip 59 = .ok (.athrow, 1) := by decide +kernel
theorem dX6_dip_60 : decode cX6_dip 60 = .ok (.aload_n 0, 1) := by decide +kernel
theorem dX6_dip_61 : decode cX6_dip 61 = .ok (.dup, 1) := by decide +kernel
theorem dX6_dip_62 : decode cX6_dip 62 = .ok (.getfield 139, 3) := by decide +kernel
theorem dX6_dip_65 : decode cX6_dip 65 = .ok (.iconst 1, 1) := by decide +kernel
theorem dX6_dip_66 : decode cX6_dip 66 = .ok (.iadd, 1) := by decide +kernel
theorem dX6_dip_67 : decode cX6_dip 67 = .ok (.putfield 139, 3) := by decide +kernel
theorem dX6_dip_70 : decode cX6_dip 70 = .ok (.aload 4, 2) := by decide +kernel
theorem dX6_dip_72 : decode cX6_dip 72 = .ok (.getfield 144, 3) := by decide +kernel
theorem dX6_dip_75 : decode cX6_dip 75 = .ok (.istore 5, 2) := by decide +kernel
theorem dX6_dip_77 : decode cX6_dip 77 = .ok (.iload 5, 2) := by decide +kernel
theorem dX6_dip_79 : decode cX6_dip 79 = .ok (.iload_n 2, 1) := by decide +kernel
theorem dX6_dip_80 : decode cX6_dip 80 = .ok (.iload_n 3, 1) := by decide +kernel
theorem dX6_dip_81 : decode cX6_dip 81 = .ok (.imul, 1) := by decide +kernel
theorem dX6_dip_82 : decode cX6_dip 82 = .ok (.isub, 1) := by decide +kernel
theorem dX6_dip_83 : decode cX6_dip 83 = .ok (.istore 6, 2) := by decide +kernel
theorem dX6_dip_85 : decode cX6_dip 85 = .ok (.aload 4, 2) := by decide +kernel
theorem dX6_dip_87 : decode cX6_dip 87 = .ok (.iload_n 2, 1) := by decide +kernel
theorem dX6_dip_88 : decode cX6_dip 88 = .ok (.putfield 133, 3) := by decide +kernel
theorem dX6_dip_91 : decode cX6_dip 91 = .ok (.aload 4, 2) := by decide +kernel
theorem dX6_dip_93 : decode cX6_dip 93 = .ok (.iload_n 2, 1) := by decide +kernel
theorem dX6_dip_94 : decode cX6_dip 94 = .ok (.iload_n 3, 1) := by decide +kernel
theorem dX6_dip_95 : decode cX6_dip 95 = .ok (.imul, 1) := by decide +kernel
theorem dX6_dip_96 : decode cX6_dip 96 = .ok (.putfield 144, 3) := by decide +kernel
theorem dX6_dip_99 : decode cX6_dip 99 = .ok (.iload 6, 2) := by decide +kernel
theorem dX6_dip_101 : decode cX6_dip 101 = .ok (.ifCond .ge 20, 3) := by decide +kernel
theorem dX6_dip_104 : decode cX6_dip 104 = .ok (.aload_n 0, 1) := by decide +kernel
theorem dX6_dip_105 : decode cX6_dip 105 = .ok (.getfield 36, 3) := by decide +kernel
theorem dX6_dip_108 : decode cX6_dip 108 = .ok (.dup, 1) := by decide +kernel
theorem dX6_dip_109 : decode cX6_dip 109 = .ok (.getfield 100, 3) := by decide +kernel
theorem dX6_dip_112 : decode cX6_dip 112 = .ok (.iload 6, 2) := by decide +kernel
theorem dX6_dip_114 : decode cX6_dip 114 = .ok (.isub, 1) := by decide +kernel
theorem dX6_dip_115 : decode cX6_dip 115 = .ok (.putfield 100, 3) := by decide +kernel
theorem dX6_dip_118 : decode cX6_dip 118 = .ok (.goto 37, 3) := by decide +kernel
theorem dX6_dip_121 : decode cX6_dip 121 = .ok (.iload 6, 2) := by decide +kernel
theorem dX6_dip_123 : decode cX6_dip 123 = .ok (.iload 5, 2) := by decide +kernel
theorem dX6_dip_125 : decode cX6_dip 125 = .ok (.bipush 100, 2) := by decide +kernel
theorem dX6_dip_127 : decode cX6_dip 127 = .ok (.idiv, 1) := by decide +kernel
theorem dX6_dip_128 : decode cX6_dip 128 = .ok (.if_icmp .le 13, 3) := by decide +kernel
theorem dX6_dip_131 : decode cX6_dip 131 = .ok (.aload_n 0, 1) := by decide +kernel
theorem dX6_dip_132 : decode cX6_dip 132 = .ok (.iload 6, 2) := by decide +kernel
theorem dX6_dip_134 : decode cX6_dip 134 = .ok (.invokevirtual 147, 3) := by decide +kernel
theorem dX6_dip_137 : decode cX6_dip 137 = .ok (.pop, 1) := by decide +kernel
theorem dX6_dip_138 : decode cX6_dip 138 = .ok (.goto 17, 3) := by decide +kernel
theorem dX6_dip_141 : decode cX6_dip 141 = .ok (.aload_n 0, 1) := by decide +kernel
theorem dX6_dip_142 : decode cX6_dip 142 = .ok (.getfield 36, 3) := by decide +kernel
theorem dX6_dip_145 : decode cX6_dip 145 = .ok (.dup, 1) := by decide +kernel
theorem dX6_dip_146 : decode cX6_dip 146 = .ok (.getfield 150, 3) := by decide +kernel
theorem dX6_dip_149 : decode cX6_dip 149 = .ok (.iload 6, 2) := by decide +kernel
theorem dX6_dip_151 : decode cX6_dip 151 = .ok (.iadd, 1) := by decide +kernel
theorem dX6_dip_152 : decode cX6_dip 152 = .ok (.putfield 150, 3) := by decide +kernel
theorem dX6_dip_155 : decode cX6_dip 155 = .ok (.iload 6, 2) := by decide +kernel
theorem dX6_dip_157 : decode cX6_dip 157 = .ok (.ireturn, 1) := by decide +kernel
set_option maxRecDepth 20000 in
theorem ggX6_lose_X6_vesselOf : GoodIn wsX6_lose wsX6_vesselOf := goodIn_ca (goodIn_r _ [10, 11, 12, 13, 14, 15, 16, 17, 18, 19, 20, 21, 22, 23, 24, 25, 26, 27, 28, 29, 30, 31, 32, 33, 34, 35, 36, 37, 71, 72, 73, 74, 75, 76, 77, 78, 79, 80, 81, 82, 88, 89, 90] (by decide +kernel) (by decide +kernel)) (goodIn_sub (fun _ h => List.mem_cons_of_mem _ (List.mem_append_right _ h)) (by decide +kernel))
set_option maxRecDepth 20000 in
theorem gX6_lose_X6_vesselOf : GoodIn wsX6_lose (wsV RX6 80 RX6 yX6_vesselOf wsX6_vesselOf) := goodIn_app (goodIn_of _ (by decide +kernel)) ggX6_lose_X6_vesselOf
set_option maxRecDepth 20000 in
theorem ggX6_lose_X5_has : GoodIn wsX6_lose wsX5_has := goodIn_r _ [42, 43, 91, 92, 93, 94] (by decide +kernel) (by decide +kernel)
set_option maxRecDepth 20000 in
theorem gX6_lose_X5_has : GoodIn wsX6_lose (wsV RX6 125 RX5 yX5_has wsX5_has) := goodIn_app (goodIn_of _ (by decide +kernel)) ggX6_lose_X5_has
set_option maxRecDepth 20000 in
theorem ggX6_lose_X5_takeOut : GoodIn wsX6_lose wsX5_takeOut := goodIn_r _ [47, 43, 48, 49, 50, 51, 41, 52, 53, 9, 54, 91, 92, 93, 94] (by decide +kernel) (by decide +kernel)
set_option maxRecDepth 20000 in
theorem gX6_lose_X5_takeOut : GoodIn wsX6_lose (wsV RX6 130 RX5 yX5_takeOut wsX5_takeOut) := goodIn_app (goodIn_of _ (by decide +kernel)) ggX6_lose_X5_takeOut
set_option maxRecDepth 20000 in
theorem ggX6_lose_X6_miss : GoodIn wsX6_lose wsX6_miss := goodIn_r _ [58, 5, 59, 60, 61, 62, 63, 64, 65, 66, 67, 68, 69, 70, 53, 9, 54, 71, 72, 73, 74, 75, 76, 77, 78, 79, 80, 81, 82, 83, 84, 85, 86, 87, 95, 96, 97] (by decide +kernel) (by decide +kernel)
set_option maxRecDepth 20000 in
theorem gX6_lose_X6_miss : GoodIn wsX6_lose (wsV RX6 147 RX6 yX6_miss wsX6_miss) := goodIn_app (goodIn_of _ (by decide +kernel)) ggX6_lose_X6_miss
theorem dX6_lose_0 : decode cX6_lose 0 = .ok (.aload_n 0, 1) := by decide +kernel
theorem dX6_lose_1 : decode cX6_lose 1 = .ok (.iload_n 1, 1) := by decide +kernel
theorem dX6_lose_2 : decode cX6_lose 2 = .ok (.invokevirtual 80, 3) := by decide +kernel
theorem dX6_lose_5 : decode cX6_lose 5 = .ok (.astore 4, 2) := by decide +kernel
theorem dX6_lose_7 : decode cX6_lose 7 = .ok (.iload_n 2, 1) := by decide +kernel
theorem dX6_lose_8 : decode cX6_lose 8 = .ok (.iconst 1, 1) := by decide +kernel
theorem dX6_lose_9 : decode cX6_lose 9 = .ok (.if_icmp .ge 13, 3) := by decide +kernel
theorem dX6_lose_12 : decode cX6_lose 12 = .ok (.new 55, 3) := by decide +kernel
theorem dX6_lose_15 : decode cX6_lose 15 = .ok (.dup, 1) := by decide +kernel
theorem dX6_lose_16 : decode cX6_lose 16 = .ok (.ldc 153, 2) := by decide +kernel
theorem dX6_lose_18 : decode cX6_lose 18 = .ok (.invokespecial 59, 3) := by decide +kernel
theorem dX6_lose_21 : decode cX6_lose 21 = .ok (.athrow, 1) := by decide +kernel
theorem dX6_lose_22 : decode cX6_lose 22 = .ok (.aload 4, 2) := by decide +kernel
theorem dX6_lose_24 : decode cX6_lose 24 = .ok (.iload_n 2, 1) := by decide +kernel
theorem dX6_lose_25 : decode cX6_lose 25 = .ok (.invokevirtual 125, 3) := by decide +kernel
theorem dX6_lose_28 : decode cX6_lose 28 = .ok (.ifCond .ne 13, 3) := by decide +kernel
theorem dX6_lose_31 : decode cX6_lose 31 = .ok (.new 64, 3) := by decide +kernel
theorem dX6_lose_34 : decode cX6_lose 34 = .ok (.dup, 1) := by decide +kernel
theorem dX6_lose_35 : decode cX6_lose 35 = .ok (.ldc 155, 2) := by decide +kernel
theorem dX6_lose_37 : decode cX6_lose 37 = .ok (.invokespecial 68, 3) := by decide +kernel
theorem dX6_lose_40 : decode cX6_lose 40 = .ok (.athrow, 1) := by decide +kernel
theorem dX6_lose_41 : decode cX6_lose 41 = .ok (.aload 4, 2) := by decide +kernel
theorem dX6_lose_43 : decode cX6_lose 43 = .ok (.iload_n 2, 1) := by decide +kernel
theorem dX6_lose_44 : decode cX6_lose 44 = .ok (.invokevirtual 130, 3) := by decide +kernel
theorem dX6_lose_47 : decode cX6_lose 47 = .ok (.istore 5, 2) := by decide +kernel
theorem dX6_lose_49 : decode cX6_lose 49 = .ok (.iload_n 3, 1) := by decide +kernel
theorem dX6_lose_50 : decode cX6_lose 50 = .ok (.ifCond .ne 10, 3) := by decide +kernel
theorem dX6_lose_53 : decode cX6_lose 53 = .ok (.aload_n 0, 1) := by decide +kernel
theorem dX6_lose_54 : decode cX6_lose 54 = .ok (.iload 5, 2) := by decide +kernel
theorem dX6_lose_56 : decode cX6_lose 56 = .ok (.invokevirtual 147, 3) := by decide +kernel
theorem dX6_lose_59 : decode cX6_lose 59 = .ok (.ireturn, 1) := by decide +kernel
theorem dX6_lose_60 : decode cX6_lose 60 = .ok (.aload_n 0, 1) := by decide +kernel
theorem dX6_lose_61 : decode cX6_lose 61 = .ok (.getfield 36, 3) := by decide +kernel
theorem dX6_lose_64 : decode cX6_lose 64 = .ok (.dup, 1) := by decide +kernel
theorem dX6_lose_65 : decode cX6_lose 65 = .ok (.getfield 150, 3) := by decide +kernel
theorem dX6_lose_68 : decode cX6_lose 68 = .ok (.iload 5, 2) := by decide +kernel
theorem dX6_lose_70 : decode cX6_lose 70 = .ok (.iadd, 1) := by decide +kernel
theorem dX6_lose_71 : decode cX6_lose 71 = .ok (.putfield 150, 3) := by decide +kernel
theorem dX6_lose_74 : decode cX6_lose 74 = .ok (.iconst 0, 1) := by decide +kernel
theorem dX6_lose_75 : decode cX6_lose 75 = .ok (.ireturn, 1) := by decide +kernel
set_option maxRecDepth 20000 in
theorem ggX6_release_X6_vesselOf : GoodIn wsX6_release wsX6_vesselOf := goodIn_ca (goodIn_r _ [15, 16, 17, 18, 19, 20, 21, 22, 23, 24, 25, 26, 27, 28, 29, 30, 31, 32, 33, 34, 35, 36, 37, 38, 39, 40, 41, 42, 135, 136, 137, 138, 139, 140, 141, 142, 143, 144, 145, 146, 152, 153, 154] (by decide +kernel) (by decide +kernel)) (goodIn_sub (fun _ h => List.mem_cons_of_mem _ (List.mem_append_right _ h)) (by decide +kernel))
set_option maxRecDepth 20000 in
theorem gX6_release_X6_vesselOf : GoodIn wsX6_release (wsV RX6 80 RX6 yX6_vesselOf wsX6_vesselOf) := goodIn_app (goodIn_of _ (by decide +kernel)) ggX6_release_X6_vesselOf
set_option maxRecDepth 20000 in
theorem ggX6_release_X5_has : GoodIn wsX6_release wsX5_has := goodIn_r _ [47, 48, 155, 156, 157, 158] (by decide +kernel) (by decide +kernel)
set_option maxRecDepth 20000 in
theorem gX6_release_X5_has : GoodIn wsX6_release (wsV RX6 125 RX5 yX5_has wsX5_has) := goodIn_app (goodIn_of _ (by decide +kernel)) ggX6_release_X5_has
set_option maxRecDepth 20000 in
theorem ggX6_release_Jx4a65c_size_8abf5 : GoodIn wsX6_release wsJx4a65c_size_8abf5 := goodIn_r _ [24, 25, 152, 153, 154] (by decide +kernel) (by decide +kernel)
set_option maxRecDepth 20000 in
theorem gX6_release_Jx4a65c_size_8abf5 : GoodIn wsX6_release (wsV RX6 60 RJx4a65c yJx4a65c_size_8abf5 wsJx4a65c_size_8abf5) := goodIn_app (goodIn_of _ (by decide +kernel)) ggX6_release_Jx4a65c_size_8abf5
set_option maxRecDepth 20000 in
theorem ggX6_release_X5_dropsOf : GoodIn wsX6_release wsX5_dropsOf := goodIn_r _ [52, 53, 48, 54, 14, 55, 155, 156, 157, 158] (by decide +kernel) (by decide +kernel)
set_option maxRecDepth 20000 in
theorem gX6_release_X5_dropsOf : GoodIn wsX6_release (wsV RX6 163 RX5 yX5_dropsOf wsX5_dropsOf) := goodIn_app (goodIn_of _ (by decide +kernel)) ggX6_release_X5_dropsOf
set_option maxRecDepth 20000 in
theorem ggX6_release_X5_takeOut : GoodIn wsX6_release wsX5_takeOut := goodIn_r _ [59, 48, 53, 60, 50, 51, 46, 52, 54, 14, 55, 155, 156, 157, 158] (by decide +kernel) (by decide +kernel)
set_option maxRecDepth 20000 in
theorem gX6_release_X5_takeOut : GoodIn wsX6_release (wsV RX6 130 RX5 yX5_takeOut wsX5_takeOut) := goodIn_app (goodIn_of _ (by decide +kernel)) ggX6_release_X5_takeOut
set_option maxRecDepth 20000 in
theorem ggX6_release_X1_chargeLeaving : GoodIn wsX6_release wsX1_chargeLeaving := goodIn_r _ [65, 66, 67, 68, 69, 70, 71, 72, 54, 14, 55, 73, 74, 75, 64, 76, 159, 160, 161] (by decide +kernel) (by decide +kernel)
set_option maxRecDepth 20000 in
theorem gX6_release_X1_chargeLeaving : GoodIn wsX6_release (wsV RX6 173 RX1 yX1_chargeLeaving wsX1_chargeLeaving) := goodIn_app (goodIn_of _ (by decide +kernel)) ggX6_release_X1_chargeLeaving
set_option maxRecDepth 20000 in
theorem ggX6_release_X3_init : GoodIn wsX6_release wsX3_init := goodIn_r _ [79, 80, 81, 82, 83, 84, 150, 151] (by decide +kernel) (by decide +kernel)
set_option maxRecDepth 20000 in
theorem gX6_release_X3_init : GoodIn wsX6_release (wsX3_init) := ggX6_release_X3_init
set_option maxRecDepth 20000 in
theorem ggX6_release_Jx4a65c_add_9ea2d : GoodIn wsX6_release wsJx4a65c_add_9ea2d := goodIn_r _ [88, 89, 90, 42, 25, 91, 92, 93, 23, 94, 95, 96, 97, 98, 99, 100, 101, 102, 103, 104, 105, 69, 106, 107, 108, 109, 110, 111, 112, 113, 114, 115, 116, 117, 118, 119, 120, 121, 122, 123, 124, 125, 126, 127, 128, 129, 130, 68, 70, 131, 132, 133, 134, 152, 153, 154] (by decide +kernel) (by decide +kernel)
set_option maxRecDepth 20000 in
theorem gX6_release_Jx4a65c_add_9ea2d : GoodIn wsX6_release (wsV RX6 74 RJx4a65c yJx4a65c_add_9ea2d wsJx4a65c_add_9ea2d) := goodIn_app (goodIn_of _ (by decide +kernel)) ggX6_release_Jx4a65c_add_9ea2d
theorem dX6_release_0 : decode cX6_release 0 = .ok (.aload_n 0, 1) := by decide +kernel
theorem dX6_release_1 : decode cX6_release 1 = .ok (.iload_n 1, 1) := by decide +kernel
theorem dX6_release_2 : decode cX6_release 2 = .ok (.invokevirtual 80, 3) := by decide +kernel
theorem dX6_release_5 : decode cX6_release 5 = .ok (.astore_n 3, 1) := by decide +kernel
theorem dX6_release_6 : decode cX6_release 6 = .ok (.iload_n 2, 1) := by decide +kernel
theorem dX6_release_7 : decode cX6_release 7 = .ok (.iconst 1, 1) := by decide +kernel
theorem dX6_release_8 : decode cX6_release 8 = .ok (.if_icmp .ge 13, 3) := by decide +kernel
theorem dX6_release_11 : decode cX6_release 11 = .ok (.new 55, 3) := by decide +kernel
theorem dX6_release_14 : decode cX6_release 14 = .ok (.dup, 1) := by decide +kernel
theorem dX6_release_15 : decode cX6_release 15 = .ok (.ldc 153, 2) := by decide +kernel
theorem dX6_release_17 : decode cX6_release 17 = .ok (.invokespecial 59, 3) := by decide +kernel
theorem dX6_release_20 : decode cX6_release 20 = .ok (.athrow, 1) := by decide +kernel
theorem dX6_release_21 : decode cX6_release 21 = .ok (.aload_n 3, 1) := by decide +kernel
theorem dX6_release_22 : decode cX6_release 22 = .ok (.iload_n 2, 1) := by decide +kernel
theorem dX6_release_23 : decode cX6_release 23 = .ok (.invokevirtual 125, 3) := by decide +kernel
theorem dX6_release_26 : decode cX6_release 26 = .ok (.ifCond .eq 15, 3) := by decide +kernel
theorem dX6_release_29 : decode cX6_release 29 = .ok (.aload_n 0, 1) := by decide +kernel
theorem dX6_release_30 : decode cX6_release 30 = .ok (.getfield 19, 3) := by decide +kernel
theorem dX6_release_33 : decode cX6_release 33 = .ok (.invokevirtual 60, 3) := by decide +kernel
theorem dX6_release_36 : decode cX6_release 36 = .ok (.bipush 100, 2) := by decide +kernel
theorem dX6_release_38 : decode cX6_release 38 = .ok (.if_icmp .lt 13, 3) := by decide +kernel
theorem dX6_release_41 : decode cX6_release 41 = .ok (.new 64, 3) := by decide +kernel
theorem dX6_release_44 : decode cX6_release 44 = .ok (.dup, 1) := by decide +kernel
theorem dX6_release_45 : decode cX6_release 45 = .ok (.ldc 157, 2) := by decide +kernel
theorem dX6_release_47 : decode cX6_release 47 = .ok (.invokespecial 68, 3) := by decide +kernel
theorem dX6_release_50 : decode cX6_release 50 = .ok (.athrow, 1) := by decide +kernel
theorem dX6_release_51 : decode cX6_release 51 = .ok (.aload_n 0, 1) := by decide +kernel
theorem dX6_release_52 : decode cX6_release 52 = .ok (.getfield 159, 3) := by decide +kernel
theorem dX6_release_55 : decode cX6_release 55 = .ok (.ifnull 28, 3) := by decide +kernel
theorem dX6_release_58 : decode cX6_release 58 = .ok (.aload_n 3, 1) := by decide +kernel
theorem dX6_release_59 : decode cX6_release 59 = .ok (.iload_n 2, 1) := by decide +kernel
theorem dX6_release_60 : decode cX6_release 60 = .ok (.invokevirtual 163, 3) := by decide +kernel
theorem dX6_release_63 : decode cX6_release 63 = .ok (.aload_n 0, 1) := by decide +kernel
theorem dX6_release_64 : decode cX6_release 64 = .ok (.getfield 159, 3) := by decide +kernel
theorem dX6_release_67 : decode cX6_release 67 = .ok (.getfield 166, 3) := by decide +kernel
theorem dX6_release_70 : decode cX6_release 70 = .ok (.if_icmp .le 13, 3) := by decide +kernel
theorem dX6_release_73 : decode cX6_release 73 = .ok (.new 64, 3) := by decide +kernel
theorem dX6_release_76 : decode cX6_release 76 = .ok (.dup, 1) := by decide +kernel
theorem dX6_release_77 : decode cX6_release 77 = .ok (.ldc 171, 2) := by decide +kernel
theorem dX6_release_79 : decode cX6_release 79 = .ok (.invokespecial 68, 3) := by decide +kernel
theorem dX6_release_82 : decode cX6_release 82 = .ok (.athrow, 1) := by decide +kernel
theorem dX6_release_83 : decode cX6_release 83 = .ok (.aload_n 3, 1) := by decide +kernel
theorem dX6_release_84 : decode cX6_release 84 = .ok (.iload_n 2, 1) := by decide +kernel
theorem dX6_release_85 : decode cX6_release 85 = .ok (.invokevirtual 130, 3) := by decide +kernel
theorem dX6_release_88 : decode cX6_release 88 = .ok (.istore 4, 2) := by decide +kernel
theorem dX6_release_90 : decode cX6_release 90 = .ok (.aload_n 0, 1) := by decide +kernel
theorem dX6_release_91 : decode cX6_release 91 = .ok (.getfield 159, 3) := by decide +kernel
theorem dX6_release_94 : decode cX6_release 94 = .ok (.ifnull 17, 3) := by decide +kernel
theorem dX6_release_97 : decode cX6_release 97 = .ok (.aload_n 0, 1) := by decide +kernel
theorem dX6_release_98 : decode cX6_release 98 = .ok (.getfield 159, 3) := by decide +kernel
theorem dX6_release_101 : decode cX6_release 101 = .ok (.dup, 1) := by decide +kernel
theorem dX6_release_102 : decode cX6_release 102 = .ok (.getfield 166, 3) := by decide +kernel
theorem dX6_release_105 : decode cX6_release 105 = .ok (.iload 4, 2) := by decide +kernel
theorem dX6_release_107 : decode cX6_release 107 = .ok (.isub, 1) := by decide +kernel
theorem dX6_release_108 : decode cX6_release 108 = .ok (.putfield 166, 3) := by decide +kernel
theorem dX6_release_111 : decode cX6_release 111 = .ok (.aload_n 0, 1) := by decide +kernel
theorem dX6_release_112 : decode cX6_release 112 = .ok (.getfield 29, 3) := by decide +kernel
theorem dX6_release_115 : decode cX6_release 115 = .ok (.iload 4, 2) := by decide +kernel
theorem dX6_release_117 : decode cX6_release 117 = .ok (.invokevirtual 173, 3) := by decide +kernel
theorem dX6_release_120 : decode cX6_release 120 = .ok (.istore 5, 2) := by decide +kernel
theorem dX6_release_122 : decode cX6_release 122 = .ok (.aload_n 0, 1) := by decide +kernel
theorem dX6_release_123 : decode cX6_release 123 = .ok (.getfield 19, 3) := by decide +kernel
theorem dX6_release_126 : decode cX6_release 126 = .ok (.new 176, 3) := by decide +kernel
theorem dX6_release_129 : decode cX6_release 129 = .ok (.dup, 1) := by decide +kernel
theorem dX6_release_130 : decode cX6_release 130 = .ok (.iload 4, 2) := by decide +kernel
theorem dX6_release_132 : decode cX6_release 132 = .ok (.iload 5, 2) := by decide +kernel
theorem dX6_release_134 : decode cX6_release 134 = .ok (.invokespecial 178, 3) := by decide +kernel
theorem dX6_release_137 : decode cX6_release 137 = .ok (.invokevirtual 74, 3) := by decide +kernel
theorem dX6_release_140 : decode cX6_release 140 = .ok (.pop, 1) := by decide +kernel
theorem dX6_release_141 : decode cX6_release 141 = .ok (.iload 5, 2) := by decide +kernel
theorem dX6_release_143 : decode cX6_release 143 = .ok (.ireturn, 1) := by decide +kernel
set_option maxRecDepth 20000 in
theorem ggX6_permit_X6_isWithin : GoodIn wsX6_permit wsX6_isWithin := goodIn_r _ [8] (by decide +kernel) (by decide +kernel)
set_option maxRecDepth 20000 in
theorem gX6_permit_X6_isWithin : GoodIn wsX6_permit (va_wsS RX6 51 yX6_isWithin wsX6_isWithin) := goodIn_app (goodIn_of _ (by decide +kernel)) ggX6_permit_X6_isWithin
theorem dX6_permit_0 : decode cX6_permit 0 = .ok (.iload_n 1, 1) := by decide +kernel
theorem dX6_permit_1 : decode cX6_permit 1 = .ok (.iconst 0, 1) := by decide +kernel
theorem dX6_permit_2 : decode cX6_permit 2 = .ok (.ldc 179, 2) := by decide +kernel
theorem dX6_permit_4 : decode cX6_permit 4 = .ok (.invokestatic 51, 3) := by decide +kernel
theorem dX6_permit_7 : decode cX6_permit 7 = .ok (.ifCond .ne 13, 3) := by decide +kernel
theorem dX6_permit_10 : decode cX6_permit 10 = .ok (.new 55, 3) := by decide +kernel
theorem dX6_permit_13 : decode cX6_permit 13 = .ok (.dup, 1) := by decide +kernel
theorem dX6_permit_14 : decode cX6_permit 14 = .ok (.ldc 180, 2) := by decide +kernel
theorem dX6_permit_16 : decode cX6_permit 16 = .ok (.invokespecial 59, 3) := by decide +kernel
theorem dX6_permit_19 : decode cX6_permit 19 = .ok (.athrow, 1) := by decide +kernel
theorem dX6_permit_20 : decode cX6_permit 20 = .ok (.aload_n 0, 1) := by decide +kernel
theorem dX6_permit_21 : decode cX6_permit 21 = .ok (.getfield 182, 3) := by decide +kernel
theorem dX6_permit_24 : decode cX6_permit 24 = .ok (.istore_n 2, 1) := by decide +kernel
theorem dX6_permit_25 : decode cX6_permit 25 = .ok (.aload_n 0, 1) := by decide +kernel
theorem dX6_permit_26 : decode cX6_permit 26 = .ok (.iload_n 1, 1) := by decide +kernel
theorem dX6_permit_27 : decode cX6_permit 27 = .ok (.putfield 182, 3) := by decide +kernel
theorem dX6_permit_30 : decode cX6_permit 30 = .ok (.iload_n 2, 1) := by decide +kernel
theorem dX6_permit_31 : decode cX6_permit 31 = .ok (.ireturn, 1) := by decide +kernel
set_option maxRecDepth 20000 in
theorem ggX6_denature_X6_vesselOf : GoodIn wsX6_denature wsX6_vesselOf := goodIn_ca (goodIn_r _ [11, 12, 13, 14, 15, 16, 17, 18, 19, 20, 21, 22, 23, 24, 25, 26, 27, 28, 29, 30, 31, 32, 33, 34, 35, 36, 37, 38, 57, 58, 59, 60, 61, 62, 63, 64, 65, 66, 67, 68, 74, 75, 76] (by decide +kernel) (by decide +kernel)) (goodIn_sub (fun _ h => List.mem_cons_of_mem _ (List.mem_append_right _ h)) (by decide +kernel))
set_option maxRecDepth 20000 in
theorem gX6_denature_X6_vesselOf : GoodIn wsX6_denature (wsV RX6 80 RX6 yX6_vesselOf wsX6_vesselOf) := goodIn_app (goodIn_of _ (by decide +kernel)) ggX6_denature_X6_vesselOf
set_option maxRecDepth 20000 in
theorem ggX6_denature_X5_has : GoodIn wsX6_denature wsX5_has := goodIn_r _ [43, 44, 77, 78, 79, 80] (by decide +kernel) (by decide +kernel)
set_option maxRecDepth 20000 in
theorem gX6_denature_X5_has : GoodIn wsX6_denature (wsV RX6 125 RX5 yX5_has wsX5_has) := goodIn_app (goodIn_of _ (by decide +kernel)) ggX6_denature_X5_has
set_option maxRecDepth 20000 in
theorem ggX6_denature_X5_dropsOf : GoodIn wsX6_denature wsX5_dropsOf := goodIn_r _ [48, 49, 44, 50, 10, 51, 77, 78, 79, 80] (by decide +kernel) (by decide +kernel)
set_option maxRecDepth 20000 in
theorem gX6_denature_X5_dropsOf : GoodIn wsX6_denature (wsV RX6 163 RX5 yX5_dropsOf wsX5_dropsOf) := goodIn_app (goodIn_of _ (by decide +kernel)) ggX6_denature_X5_dropsOf
set_option maxRecDepth 20000 in
theorem ggX6_denature_X5_takeOut : GoodIn wsX6_denature wsX5_takeOut := goodIn_r _ [55, 44, 49, 56, 46, 47, 42, 48, 50, 10, 51, 77, 78, 79, 80] (by decide +kernel) (by decide +kernel)
set_option maxRecDepth 20000 in
theorem gX6_denature_X5_takeOut : GoodIn wsX6_denature (wsV RX6 130 RX5 yX5_takeOut wsX5_takeOut) := goodIn_app (goodIn_of _ (by decide +kernel)) ggX6_denature_X5_takeOut
theorem dX6_denature_0 : decode cX6_denature 0 = .ok (.aload_n 0, 1) := by decide +kernel
theorem dX6_denature_1 : decode cX6_denature 1 = .ok (.iload_n 1, 1) := by decide +kernel
theorem dX6_denature_2 : decode cX6_denature 2 = .ok (.invokevirtual 80, 3) := by decide +kernel
theorem dX6_denature_5 : decode cX6_denature 5 = .ok (.astore_n 3, 1) := by decide +kernel
theorem dX6_denature_6 : decode cX6_denature 6 = .ok (.iload_n 2, 1) := by decide +kernel
theorem dX6_denature_7 : decode cX6_denature 7 = .ok (.iconst 1, 1) := by decide +kernel
theorem dX6_denature_8 : decode cX6_denature 8 = .ok (.if_icmp .ge 13, 3) := by decide +kernel
theorem dX6_denature_11 : decode cX6_denature 11 = .ok (.new 55, 3) := by decide +kernel
theorem dX6_denature_14 : decode cX6_denature 14 = .ok (.dup, 1) := by decide +kernel
theorem dX6_denature_15 : decode cX6_denature 15 = .ok (.ldc 153, 2) := by decide +kernel
theorem dX6_denature_17 : decode cX6_denature 17 = .ok (.invokespecial 59, 3) := by decide +kernel
theorem dX6_denature_20 : decode cX6_denature 20 = .ok (.athrow, 1) := by decide +kernel
theorem dX6_denature_21 : decode cX6_denature 21 = .ok (.aload_n 3, 1) := by decide +kernel
theorem dX6_denature_22 : decode cX6_denature 22 = .ok (.iload_n 2, 1) := by decide +kernel
theorem dX6_denature_23 : decode cX6_denature 23 = .ok (.invokevirtual 125, 3) := by decide +kernel
theorem dX6_denature_26 : decode cX6_denature 26 = .ok (.ifCond .eq 15, 3) := by decide +kernel
theorem dX6_denature_29 : decode cX6_denature 29 = .ok (.aload_n 3, 1) := by decide +kernel
theorem dX6_denature_30 : decode cX6_denature 30 = .ok (.iload_n 2, 1) := by decide +kernel
theorem dX6_denature_31 : decode cX6_denature 31 = .ok (.invokevirtual 163, 3) := by decide +kernel
theorem dX6_denature_34 : decode cX6_denature 34 = .ok (.aload_n 0, 1) := by decide +kernel
theorem dX6_denature_35 : decode cX6_denature 35 = .ok (.getfield 182, 3) := by decide +kernel
theorem dX6_denature_38 : decode cX6_denature 38 = .ok (.if_icmp .le 13, 3) := by decide +kernel
theorem dX6_denature_41 : decode cX6_denature 41 = .ok (.new 64, 3) := by decide +kernel
theorem dX6_denature_44 : decode cX6_denature 44 = .ok (.dup, 1) := by decide +kernel
theorem dX6_denature_45 : decode cX6_denature 45 = .ok (.ldc 185, 2) := by decide +kernel
theorem dX6_denature_47 : decode cX6_denature 47 = .ok (.invokespecial 68, 3) := by decide +kernel
theorem dX6_denature_50 : decode cX6_denature 50 = .ok (.athrow, 1) := by decide +kernel
theorem dX6_denature_51 : decode cX6_denature 51 = .ok (.aload_n 3, 1) := by decide +kernel
theorem dX6_denature_52 : decode cX6_denature 52 = .ok (.iload_n 2, 1) := by decide +kernel
theorem dX6_denature_53 : decode cX6_denature 53 = .ok (.invokevirtual 130, 3) := by decide +kernel
theorem dX6_denature_56 : decode cX6_denature 56 = .ok (.istore 4, 2) := by decide +kernel
theorem dX6_denature_58 : decode cX6_denature 58 = .ok (.aload_n 0, 1) := by decide +kernel
theorem dX6_denature_59 : decode cX6_denature 59 = .ok (.dup, 1) := by decide +kernel
theorem dX6_denature_60 : decode cX6_denature 60 = .ok (.getfield 182, 3) := by decide +kernel
theorem dX6_denature_63 : decode cX6_denature 63 = .ok (.iload 4, 2) := by decide +kernel
theorem dX6_denature_65 : decode cX6_denature 65 = .ok (.isub, 1) := by decide +kernel
theorem dX6_denature_66 : decode cX6_denature 66 = .ok (.putfield 182, 3) := by decide +kernel
theorem dX6_denature_69 : decode cX6_denature 69 = .ok (.aload_n 0, 1) := by decide +kernel
theorem dX6_denature_70 : decode cX6_denature 70 = .ok (.getfield 36, 3) := by decide +kernel
theorem dX6_denature_73 : decode cX6_denature 73 = .ok (.dup, 1) := by decide +kernel
theorem dX6_denature_74 : decode cX6_denature 74 = .ok (.getfield 150, 3) := by decide +kernel
theorem dX6_denature_77 : decode cX6_denature 77 = .ok (.iload 4, 2) := by decide +kernel
theorem dX6_denature_79 : decode cX6_denature 79 = .ok (.iadd, 1) := by decide +kernel
theorem dX6_denature_80 : decode cX6_denature 80 = .ok (.putfield 150, 3) := by decide +kernel
theorem dX6_denature_83 : decode cX6_denature 83 = .ok (.iload 4, 2) := by decide +kernel
theorem dX6_denature_85 : decode cX6_denature 85 = .ok (.ireturn, 1) := by decide +kernel
set_option maxRecDepth 20000 in
theorem ggX6_export_X6_dropsInLots : GoodIn wsX6_export wsX6_dropsInLots := goodIn_r _ [17, 5, 6, 18, 19, 20, 21, 22, 23, 24, 25, 26, 27, 28, 29, 30, 31, 32, 33, 34, 35, 36, 37, 38, 39, 40, 50, 51, 52, 53, 54, 55, 56, 57, 58, 59, 60, 61, 62, 63, 72, 73, 74] (by decide +kernel) (by decide +kernel)
set_option maxRecDepth 20000 in
theorem gX6_export_X6_dropsInLots : GoodIn wsX6_export (wsV RX6 189 RX6 yX6_dropsInLots wsX6_dropsInLots) := goodIn_app (goodIn_of _ (by decide +kernel)) ggX6_export_X6_dropsInLots
set_option maxRecDepth 20000 in
theorem ggX6_export_Jx4a65c_size_8abf5 : GoodIn wsX6_export wsJx4a65c_size_8abf5 := goodIn_r _ [22, 23, 72, 73, 74] (by decide +kernel) (by decide +kernel)
set_option maxRecDepth 20000 in
theorem gX6_export_Jx4a65c_size_8abf5 : GoodIn wsX6_export (wsV RX6 60 RJx4a65c yJx4a65c_size_8abf5 wsJx4a65c_size_8abf5) := goodIn_app (goodIn_of _ (by decide +kernel)) ggX6_export_Jx4a65c_size_8abf5
set_option maxRecDepth 20000 in
theorem ggX6_export_Jx4a65c_get_915e3 : GoodIn wsX6_export wsJx4a65c_get_915e3 := goodIn_r _ [27, 23, 28, 29, 30, 31, 32, 33, 34, 35, 36, 37, 38, 21, 39, 40, 72, 73, 74] (by decide +kernel) (by decide +kernel)
set_option maxRecDepth 20000 in
theorem gX6_export_Jx4a65c_get_915e3 : GoodIn wsX6_export (wsV RX6 194 RJx4a65c yJx4a65c_get_915e3 wsJx4a65c_get_915e3) := goodIn_app (goodIn_of _ (by decide +kernel)) ggX6_export_Jx4a65c_get_915e3
set_option maxRecDepth 20000 in
theorem ggX6_export_X3_drawBack : GoodIn wsX6_export wsX3_drawBack := goodIn_r _ [45, 46, 47, 48, 16, 49, 62, 63] (by decide +kernel) (by decide +kernel)
set_option maxRecDepth 20000 in
theorem gX6_export_X3_drawBack : GoodIn wsX6_export (wsV RX6 202 RX3 yX3_drawBack wsX3_drawBack) := goodIn_app (goodIn_of _ (by decide +kernel)) ggX6_export_X3_drawBack
theorem dX6_export_0 : decode cX6_export 0 = .ok (.iload_n 1, 1) := by decide +kernel
theorem dX6_export_1 : decode cX6_export 1 = .ok (.iconst 1, 1) := by decide +kernel
theorem dX6_export_2 : decode cX6_export 2 = .ok (.if_icmp .ge 13, 3) := by decide +kernel
theorem dX6_export_5 : decode cX6_export 5 = .ok (.new 55, 3) := by decide +kernel
theorem dX6_export_8 : decode cX6_export 8 = .ok (.dup, 1) := by decide +kernel
theorem dX6_export_9 : decode cX6_export 9 = .ok (.ldc 187, 2) := by decide +kernel
theorem dX6_export_11 : decode cX6_export 11 = .ok (.invokespecial 59, 3) := by decide +kernel
theorem dX6_export_14 : decode cX6_export 14 = .ok (.athrow, 1) := by decide +kernel
theorem dX6_export_15 : decode cX6_export 15 = .ok (.iload_n 1, 1) := by decide +kernel
theorem dX6_export_16 : decode cX6_export 16 = .ok (.aload_n 0, 1) := by decide +kernel
theorem dX6_export_17 : decode cX6_export 17 = .ok (.invokevirtual 189, 3) := by decide +kernel
theorem dX6_export_20 : decode cX6_export 20 = .ok (.if_icmp .le 13, 3) := by decide +kernel
theorem dX6_export_23 : decode cX6_export 23 = .ok (.new 64, 3) := by decide +kernel
theorem dX6_export_26 : decode cX6_export 26 = .ok (.dup, 1) := by decide +kernel
theorem dX6_export_27 : decode cX6_export 27 = .ok (.ldc 192, 2) := by decide +kernel
theorem dX6_export_29 : decode cX6_export 29 = .ok (.invokespecial 68, 3) := by decide +kernel
theorem dX6_export_32 : decode cX6_export 32 = .ok (.athrow, 1) := by decide +kernel
theorem dX6_export_33 : decode cX6_export 33 = .ok (.iload_n 1, 1) := by decide +kernel
theorem dX6_export_34 : decode cX6_export 34 = .ok (.istore_n 2, 1) := by decide +kernel
theorem dX6_export_35 : decode cX6_export 35 = .ok (.iconst 0, 1) := by decide +kernel
theorem dX6_export_36 : decode cX6_export 36 = .ok (.istore_n 3, 1) := by decide +kernel
theorem dX6_export_37 : decode cX6_export 37 = .ok (.iconst 0, 1) := by decide +kernel
theorem dX6_export_38 : decode cX6_export 38 = .ok (.istore 4, 2) := by decide +kernel
theorem dX6_export_40 : decode cX6_export 40 = .ok (.iload 4, 2) := by decide +kernel
theorem dX6_export_42 : decode cX6_export 42 = .ok (.aload_n 0, 1) := by decide +kernel
theorem dX6_export_43 : decode cX6_export 43 = .ok (.getfield 19, 3) := by decide +kernel
theorem dX6_export_46 : decode cX6_export 46 = .ok (.invokevirtual 60, 3) := by decide +kernel
theorem dX6_export_49 : decode cX6_export 49 = .ok (.if_icmp .ge 53, 3) := by decide +kernel
theorem dX6_export_52 : decode cX6_export 52 = .ok (.iload_n 2, 1) := by decide +kernel
theorem dX6_export_53 : decode cX6_export 53 = .ok (.ifCond .le 49, 3) := by decide +kernel
theorem dX6_export_56 : decode cX6_export 56 = .ok (.aload_n 0, 1) := by decide +kernel
theorem dX6_export_57 : decode cX6_export 57 = .ok (.getfield 19, 3) := by decide +kernel
theorem dX6_export_60 : decode cX6_export 60 = .ok (.iload 4, 2) := by decide +kernel
theorem dX6_export_62 : decode cX6_export 62 = .ok (.invokevirtual 194, 3) := by decide +kernel
theorem dX6_export_65 : decode cX6_export 65 = .ok (.checkcast 176, 3) := by decide +kernel
theorem dX6_export_68 : decode cX6_export 68 = .ok (.astore 5, 2) := by decide +kernel
theorem dX6_export_70 : decode cX6_export 70 = .ok (.iload_n 2, 1) := by decide +kernel
theorem dX6_export_71 : decode cX6_export 71 = .ok (.aload 5, 2) := by decide +kernel
theorem dX6_export_73 : decode cX6_export 73 = .ok (.getfield 198, 3) := by decide +kernel
theorem dX6_export_76 : decode cX6_export 76 = .ok (.invokestatic 199, 3) := by decide +kernel
theorem dX6_export_79 : decode cX6_export 79 = .ok (.istore 6, 2) := by decide +kernel
theorem dX6_export_81 : decode cX6_export 81 = .ok (.iload_n 3, 1) := by decide +kernel
theorem dX6_export_82 : decode cX6_export 82 = .ok (.aload 5, 2) := by decide +kernel
theorem dX6_export_84 : decode cX6_export 84 = .ok (.iload 6, 2) := by decide +kernel
theorem dX6_export_86 : decode cX6_export 86 = .ok (.invokevirtual 202, 3) := by decide +kernel
theorem dX6_export_89 : decode cX6_export 89 = .ok (.iadd, 1) := by decide +kernel
theorem dX6_export_90 : decode cX6_export 90 = .ok (.istore_n 3, 1) := by decide +kernel
theorem dX6_export_91 : decode cX6_export 91 = .ok (.iload_n 2, 1) := by decide +kernel
theorem dX6_export_92 : decode cX6_export 92 = .ok (.iload 6, 2) := by decide +kernel
theorem dX6_export_94 : decode cX6_export 94 = .ok (.isub, 1) := by decide +kernel
theorem dX6_export_95 : decode cX6_export 95 = .ok (.istore_n 2, 1) := by decide +kernel
theorem dX6_export_96 : decode cX6_export 96 = .ok (.iinc 4 1, 3) := by decide +kernel
theorem dX6_export_99 : decode cX6_export 99 = .ok (.goto (-59), 3) := by decide +kernel
theorem dX6_export_102 : decode cX6_export 102 = .ok (.aload_n 0, 1) := by decide +kernel
theorem dX6_export_103 : decode cX6_export 103 = .ok (.getfield 29, 3) := by decide +kernel
theorem dX6_export_106 : decode cX6_export 106 = .ok (.dup, 1) := by decide +kernel
theorem dX6_export_107 : decode cX6_export 107 = .ok (.getfield 205, 3) := by decide +kernel
theorem dX6_export_110 : decode cX6_export 110 = .ok (.iload_n 3, 1) := by decide +kernel
theorem dX6_export_111 : decode cX6_export 111 = .ok (.isub, 1) := by decide +kernel
theorem dX6_export_112 : decode cX6_export 112 = .ok (.putfield 205, 3) := by decide +kernel
theorem dX6_export_115 : decode cX6_export 115 = .ok (.aload_n 0, 1) := by decide +kernel
theorem dX6_export_116 : decode cX6_export 116 = .ok (.getfield 36, 3) := by decide +kernel
theorem dX6_export_119 : decode cX6_export 119 = .ok (.dup, 1) := by decide +kernel
theorem dX6_export_120 : decode cX6_export 120 = .ok (.getfield 208, 3) := by decide +kernel
theorem dX6_export_123 : decode cX6_export 123 = .ok (.iload_n 1, 1) := by decide +kernel
theorem dX6_export_124 : decode cX6_export 124 = .ok (.iadd, 1) := by decide +kernel
theorem dX6_export_125 : decode cX6_export 125 = .ok (.putfield 208, 3) := by decide +kernel
theorem dX6_export_128 : decode cX6_export 128 = .ok (.iload_n 3, 1) := by decide +kernel
theorem dX6_export_129 : decode cX6_export 129 = .ok (.ireturn, 1) := by decide +kernel
set_option maxRecDepth 20000 in
theorem ggX6_pay_X6_isWithin : GoodIn wsX6_pay wsX6_isWithin := goodIn_r _ [10] (by decide +kernel) (by decide +kernel)
set_option maxRecDepth 20000 in
theorem gX6_pay_X6_isWithin : GoodIn wsX6_pay (va_wsS RX6 51 yX6_isWithin wsX6_isWithin) := goodIn_app (goodIn_of _ (by decide +kernel)) ggX6_pay_X6_isWithin
theorem dX6_pay_0 : decode cX6_pay 0 = .ok (.iload_n 1, 1) := by decide +kernel
theorem dX6_pay_1 : decode cX6_pay 1 = .ok (.iconst 1, 1) := by decide +kernel
theorem dX6_pay_2 : decode cX6_pay 2 = .ok (.ldc 211, 2) := by decide +kernel
theorem dX6_pay_4 : decode cX6_pay 4 = .ok (.invokestatic 51, 3) := by decide +kernel
theorem dX6_pay_7 : decode cX6_pay 7 = .ok (.ifCond .ne 13, 3) := by decide +kernel
theorem dX6_pay_10 : decode cX6_pay 10 = .ok (.new 55, 3) := by decide +kernel
theorem dX6_pay_13 : decode cX6_pay 13 = .ok (.dup, 1) := by decide +kernel
theorem dX6_pay_14 : decode cX6_pay 14 = .ok (.ldc 212, 2) := by decide +kernel
theorem dX6_pay_16 : decode cX6_pay 16 = .ok (.invokespecial 59, 3) := by decide +kernel
theorem dX6_pay_19 : decode cX6_pay 19 = .ok (.athrow, 1) := by decide +kernel
theorem dX6_pay_20 : decode cX6_pay 20 = .ok (.iload_n 1, 1) := by decide +kernel
theorem dX6_pay_21 : decode cX6_pay 21 = .ok (.aload_n 0, 1) := by decide +kernel
theorem dX6_pay_22 : decode cX6_pay 22 = .ok (.getfield 29, 3) := by decide +kernel
theorem dX6_pay_25 : decode cX6_pay 25 = .ok (.getfield 205, 3) := by decide +kernel
theorem dX6_pay_28 : decode cX6_pay 28 = .ok (.if_icmp .le 13, 3) := by decide +kernel
theorem dX6_pay_31 : decode cX6_pay 31 = .ok (.new 64, 3) := by decide +kernel
theorem dX6_pay_34 : decode cX6_pay 34 = .ok (.dup, 1) := by decide +kernel
theorem dX6_pay_35 : decode cX6_pay 35 = .ok (.ldc 214, 2) := by decide +kernel
theorem dX6_pay_37 : decode cX6_pay 37 = .ok (.invokespecial 68, 3) := by decide +kernel
theorem dX6_pay_40 : decode cX6_pay 40 = .ok (.athrow, 1) := by decide +kernel
theorem dX6_pay_41 : decode cX6_pay 41 = .ok (.aload_n 0, 1) := by decide +kernel
theorem dX6_pay_42 : decode cX6_pay 42 = .ok (.getfield 29, 3) := by decide +kernel
theorem dX6_pay_45 : decode cX6_pay 45 = .ok (.dup, 1) := by decide +kernel
theorem dX6_pay_46 : decode cX6_pay 46 = .ok (.getfield 205, 3) := by decide +kernel
theorem dX6_pay_49 : decode cX6_pay 49 = .ok (.iload_n 1, 1) := by decide +kernel
theorem dX6_pay_50 : decode cX6_pay 50 = .ok (.isub, 1) := by decide +kernel
theorem dX6_pay_51 : decode cX6_pay 51 = .ok (.putfield 205, 3) := by decide +kernel
theorem dX6_pay_54 : decode cX6_pay 54 = .ok (.aload_n 0, 1) := by decide +kernel
theorem dX6_pay_55 : decode cX6_pay 55 = .ok (.getfield 29, 3) := by decide +kernel
theorem dX6_pay_58 : decode cX6_pay 58 = .ok (.getfield 205, 3) := by decide +kernel
theorem dX6_pay_61 : decode cX6_pay 61 = .ok (.ireturn, 1) := by decide +kernel
set_option maxRecDepth 20000 in
theorem ggX6_budget_X6_isWithin : GoodIn wsX6_budget wsX6_isWithin := goodIn_r _ [14] (by decide +kernel) (by decide +kernel)
set_option maxRecDepth 20000 in
theorem gX6_budget_X6_isWithin : GoodIn wsX6_budget (va_wsS RX6 51 yX6_isWithin wsX6_isWithin) := goodIn_app (goodIn_of _ (by decide +kernel)) ggX6_budget_X6_isWithin
set_option maxRecDepth 20000 in
theorem ggX6_budget_X0_init : GoodIn wsX6_budget wsX0_init := goodIn_r _ [17, 18, 19, 20, 21, 22, 23, 36, 37, 38] (by decide +kernel) (by decide +kernel)
set_option maxRecDepth 20000 in
theorem gX6_budget_X0_init : GoodIn wsX6_budget (wsX0_init) := ggX6_budget_X0_init
theorem dX6_budget_0 : decode cX6_budget 0 = .ok (.iload_n 1, 1) := by decide +kernel
theorem dX6_budget_1 : decode cX6_budget 1 = .ok (.aload_n 0, 1) := by decide +kernel
theorem dX6_budget_2 : decode cX6_budget 2 = .ok (.getfield 216, 3) := by decide +kernel
theorem dX6_budget_5 : decode cX6_budget 5 = .ok (.if_icmp .le 10, 3) := by decide +kernel
theorem dX6_budget_8 : decode cX6_budget 8 = .ok (.iload_n 1, 1) := by decide +kernel
theorem dX6_budget_9 : decode cX6_budget 9 = .ok (.sipush 900, 3) := by decide +kernel
theorem dX6_budget_12 : decode cX6_budget 12 = .ok (.if_icmp .le 13, 3) := by decide +kernel
theorem dX6_budget_15 : decode cX6_budget 15 = .ok (.new 55, 3) := by decide +kernel
theorem dX6_budget_18 : decode cX6_budget 18 = .ok (.dup, 1) := by decide +kernel
theorem dX6_budget_19 : decode cX6_budget 19 = .ok (.ldc 219, 2) := by decide +kernel
theorem dX6_budget_21 : decode cX6_budget 21 = .ok (.invokespecial 59, 3) := by decide +kernel
theorem dX6_budget_24 : decode cX6_budget 24 = .ok (.athrow, 1) := by decide +kernel
theorem dX6_budget_25 : decode cX6_budget 25 = .ok (.iload_n 2, 1) := by decide +kernel
theorem dX6_budget_26 : decode cX6_budget 26 = .ok (.iconst 0, 1) := by decide +kernel
theorem dX6_budget_27 : decode cX6_budget 27 = .ok (.bipush 99, 2) := by decide +kernel
theorem dX6_budget_29 : decode cX6_budget 29 = .ok (.invokestatic 51, 3) := by decide +kernel
theorem dX6_budget_32 : decode cX6_budget 32 = .ok (.ifCond .eq 13, 3) := by decide +kernel
theorem dX6_budget_35 : decode cX6_budget 35 = .ok (.iload_n 3, 1) := by decide +kernel
theorem dX6_budget_36 : decode cX6_budget 36 = .ok (.iconst 0, 1) := by decide +kernel
theorem dX6_budget_37 : decode cX6_budget 37 = .ok (.ldc 179, 2) := by decide +kernel
theorem dX6_budget_39 : decode cX6_budget 39 = .ok (.invokestatic 51, 3) := by decide +kernel
theorem dX6_budget_42 : decode cX6_budget 42 = .ok (.ifCond .ne 13, 3) := by decide +kernel
theorem dX6_budget_45 : decode cX6_budget 45 = .ok (.new 55, 3) := by decide +kernel
theorem dX6_budget_48 : decode cX6_budget 48 = .ok (.dup, 1) := by decide +kernel
theorem dX6_budget_49 : decode cX6_budget 49 = .ok (.ldc 221, 2) := by decide +kernel
theorem dX6_budget_51 : decode cX6_budget 51 = .ok (.invokespecial 59, 3) := by decide +kernel
theorem dX6_budget_54 : decode cX6_budget 54 = .ok (.athrow, 1) := by decide +kernel
theorem dX6_budget_55 : decode cX6_budget 55 = .ok (.aload_n 0, 1) := by decide +kernel
theorem dX6_budget_56 : decode cX6_budget 56 = .ok (.getfield 159, 3) := by decide +kernel
theorem dX6_budget_59 : decode cX6_budget 59 = .ok (.ifnull 13, 3) := by decide +kernel
theorem dX6_budget_62 : decode cX6_budget 62 = .ok (.new 64, 3) := by decide +kernel
theorem dX6_budget_65 : decode cX6_budget 65 = .ok (.dup, 1) := by decide +kernel
theorem dX6_budget_66 : decode cX6_budget 66 = .ok (.ldc 223, 2) := by decide +kernel
theorem dX6_budget_68 : decode cX6_budget 68 = .ok (.invokespecial 68, 3) := by decide +kernel
theorem dX6_budget_71 : decode cX6_budget 71 = .ok (.athrow, 1) := by decide +kernel
theorem dX6_budget_72 : decode cX6_budget 72 = .ok (.aload_n 0, 1) := by decide +kernel
theorem dX6_budget_73 : decode cX6_budget 73 = .ok (.new 167, 3) := by decide +kernel
theorem dX6_budget_76 : decode cX6_budget 76 = .ok (.dup, 1) := by decide +kernel
theorem dX6_budget_77 : decode cX6_budget 77 = .ok (.iload_n 1, 1) := by decide +kernel
theorem dX6_budget_78 : decode cX6_budget 78 = .ok (.iload_n 2, 1) := by decide +kernel
theorem dX6_budget_79 : decode cX6_budget 79 = .ok (.iload_n 3, 1) := by decide +kernel
theorem dX6_budget_80 : decode cX6_budget 80 = .ok (.invokespecial 225, 3) := by decide +kernel
theorem dX6_budget_83 : decode cX6_budget 83 = .ok (.putfield 159, 3) := by decide +kernel
theorem dX6_budget_86 : decode cX6_budget 86 = .ok (.return_, 1) := by decide +kernel
set_option maxRecDepth 20000 in
theorem ggX6_guarantee_X6_isWithin : GoodIn wsX6_guarantee wsX6_isWithin := goodIn_r _ [11] (by decide +kernel) (by decide +kernel)
set_option maxRecDepth 20000 in
theorem gX6_guarantee_X6_isWithin : GoodIn wsX6_guarantee (va_wsS RX6 51 yX6_isWithin wsX6_isWithin) := goodIn_app (goodIn_of _ (by decide +kernel)) ggX6_guarantee_X6_isWithin
set_option maxRecDepth 20000 in
theorem ggX6_guarantee_X6_dropsThatMove : GoodIn wsX6_guarantee wsX6_dropsThatMove := goodIn_r _ [15, 16, 17, 18, 19, 20, 21, 22, 23, 24, 25, 26, 27, 28, 29, 30, 31, 32, 33, 34, 35, 36, 37, 38, 39, 40, 49, 50, 51, 52, 53, 54, 55, 56, 57, 58, 59, 60, 61, 62, 63, 64, 65, 66, 67, 68] (by decide +kernel) (by decide +kernel)
set_option maxRecDepth 20000 in
theorem gX6_guarantee_X6_dropsThatMove : GoodIn wsX6_guarantee (wsV RX6 228 RX6 yX6_dropsThatMove wsX6_dropsThatMove) := goodIn_app (goodIn_of _ (by decide +kernel)) ggX6_guarantee_X6_dropsThatMove
set_option maxRecDepth 20000 in
theorem ggX6_guarantee_X1_dutyFor : GoodIn wsX6_guarantee wsX1_dutyFor := goodIn_r _ [45, 46, 47, 10, 48, 69, 70, 71] (by decide +kernel) (by decide +kernel)
set_option maxRecDepth 20000 in
theorem gX6_guarantee_X1_dutyFor : GoodIn wsX6_guarantee (wsV RX6 231 RX1 yX1_dutyFor wsX1_dutyFor) := goodIn_app (goodIn_of _ (by decide +kernel)) ggX6_guarantee_X1_dutyFor
theorem dX6_guarantee_0 : decode cX6_guarantee 0 = .ok (.iload_n 1, 1) := by decide +kernel
theorem dX6_guarantee_1 : decode cX6_guarantee 1 = .ok (.iconst 0, 1) := by decide +kernel
theorem dX6_guarantee_2 : decode cX6_guarantee 2 = .ok (.ldc 179, 2) := by decide +kernel
theorem dX6_guarantee_4 : decode cX6_guarantee 4 = .ok (.invokestatic 51, 3) := by decide +kernel
theorem dX6_guarantee_7 : decode cX6_guarantee 7 = .ok (.ifCond .ne 13, 3) := by decide +kernel
theorem dX6_guarantee_10 : decode cX6_guarantee 10 = .ok (.new 55, 3) := by decide +kernel
theorem dX6_guarantee_13 : decode cX6_guarantee 13 = .ok (.dup, 1) := by decide +kernel
theorem dX6_guarantee_14 : decode cX6_guarantee 14 = .ok (.ldc 212, 2) := by decide +kernel
theorem dX6_guarantee_16 : decode cX6_guarantee 16 = .ok (.invokespecial 59, 3) := by decide +kernel
theorem dX6_guarantee_19 : decode cX6_guarantee 19 = .ok (.athrow, 1) := by decide +kernel
theorem dX6_guarantee_20 : decode cX6_guarantee 20 = .ok (.iload_n 1, 1) := by decide +kernel
theorem dX6_guarantee_21 : decode cX6_guarantee 21 = .ok (.aload_n 0, 1) := by decide +kernel
theorem dX6_guarantee_22 : decode cX6_guarantee 22 = .ok (.getfield 29, 3) := by decide +kernel
theorem dX6_guarantee_25 : decode cX6_guarantee 25 = .ok (.aload_n 0, 1) := by decide +kernel
theorem dX6_guarantee_26 : decode cX6_guarantee 26 = .ok (.invokevirtual 228, 3) := by decide +kernel
theorem dX6_guarantee_29 : decode cX6_guarantee 29 = .ok (.invokevirtual 231, 3) := by decide +kernel
theorem dX6_guarantee_32 : decode cX6_guarantee 32 = .ok (.if_icmp .ge 13, 3) := by decide +kernel
theorem dX6_guarantee_35 : decode cX6_guarantee 35 = .ok (.new 64, 3) := by decide +kernel
theorem dX6_guarantee_38 : decode cX6_guarantee 38 = .ok (.dup, 1) := by decide +kernel
theorem dX6_guarantee_39 : decode cX6_guarantee 39 = .ok (.ldc 234, 2) := by decide +kernel
theorem dX6_guarantee_41 : decode cX6_guarantee 41 = .ok (.invokespecial 68, 3) := by decide +kernel
theorem dX6_guarantee_44 : decode cX6_guarantee 44 = .ok (.athrow, 1) := by decide +kernel
theorem dX6_guarantee_45 : decode cX6_guarantee 45 = .ok (.aload_n 0, 1) := by decide +kernel
theorem dX6_guarantee_46 : decode cX6_guarantee 46 = .ok (.getfield 236, 3) := by decide +kernel
theorem dX6_guarantee_49 : decode cX6_guarantee 49 = .ok (.istore_n 2, 1) := by decide +kernel
theorem dX6_guarantee_50 : decode cX6_guarantee 50 = .ok (.aload_n 0, 1) := by decide +kernel
theorem dX6_guarantee_51 : decode cX6_guarantee 51 = .ok (.iload_n 1, 1) := by decide +kernel
theorem dX6_guarantee_52 : decode cX6_guarantee 52 = .ok (.putfield 236, 3) := by decide +kernel
theorem dX6_guarantee_55 : decode cX6_guarantee 55 = .ok (.iload_n 2, 1) := by decide +kernel
theorem dX6_guarantee_56 : decode cX6_guarantee 56 = .ok (.ireturn, 1) := by decide +kernel
set_option maxRecDepth 20000 in
theorem ggX6_ship_X6_vesselOf : GoodIn wsX6_ship wsX6_vesselOf := goodIn_ca (goodIn_r _ [16, 17, 18, 19, 20, 21, 22, 23, 24, 25, 26, 27, 28, 29, 30, 31, 32, 33, 34, 35, 36, 37, 38, 39, 40, 41, 42, 43, 144, 145, 146, 147, 148, 149, 150, 151, 152, 153, 154, 155, 161, 162, 163] (by decide +kernel) (by decide +kernel)) (goodIn_sub (fun _ h => List.mem_cons_of_mem _ (List.mem_append_right _ h)) (by decide +kernel))
set_option maxRecDepth 20000 in
theorem gX6_ship_X6_vesselOf : GoodIn wsX6_ship (wsV RX6 80 RX6 yX6_vesselOf wsX6_vesselOf) := goodIn_app (goodIn_of _ (by decide +kernel)) ggX6_ship_X6_vesselOf
set_option maxRecDepth 20000 in
theorem ggX6_ship_X6_isWithin : GoodIn wsX6_ship wsX6_isWithin := goodIn_r _ [46] (by decide +kernel) (by decide +kernel)
set_option maxRecDepth 20000 in
theorem gX6_ship_X6_isWithin : GoodIn wsX6_ship (va_wsS RX6 51 yX6_isWithin wsX6_isWithin) := goodIn_app (goodIn_of _ (by decide +kernel)) ggX6_ship_X6_isWithin
set_option maxRecDepth 20000 in
theorem ggX6_ship_X5_has : GoodIn wsX6_ship wsX5_has := goodIn_r _ [51, 52, 140, 141, 142, 143] (by decide +kernel) (by decide +kernel)
set_option maxRecDepth 20000 in
theorem gX6_ship_X5_has : GoodIn wsX6_ship (wsV RX6 125 RX5 yX5_has wsX5_has) := goodIn_app (goodIn_of _ (by decide +kernel)) ggX6_ship_X5_has
set_option maxRecDepth 20000 in
theorem ggX6_ship_Jx4a65c_size_8abf5 : GoodIn wsX6_ship wsJx4a65c_size_8abf5 := goodIn_r _ [25, 26, 161, 162, 163] (by decide +kernel) (by decide +kernel)
set_option maxRecDepth 20000 in
theorem gX6_ship_Jx4a65c_size_8abf5 : GoodIn wsX6_ship (wsV RX6 60 RJx4a65c yJx4a65c_size_8abf5 wsJx4a65c_size_8abf5) := goodIn_app (goodIn_of _ (by decide +kernel)) ggX6_ship_Jx4a65c_size_8abf5
set_option maxRecDepth 20000 in
theorem ggX6_ship_X6_dropsThatMove : GoodIn wsX6_ship wsX6_dropsThatMove := goodIn_r _ [56, 5, 57, 21, 22, 23, 24, 25, 26, 27, 28, 29, 30, 31, 32, 33, 34, 35, 36, 37, 38, 39, 40, 41, 42, 43, 144, 145, 146, 147, 148, 149, 150, 151, 152, 153, 154, 155, 156, 157, 158, 159, 160, 161, 162, 163] (by decide +kernel) (by decide +kernel)
set_option maxRecDepth 20000 in
theorem gX6_ship_X6_dropsThatMove : GoodIn wsX6_ship (wsV RX6 228 RX6 yX6_dropsThatMove wsX6_dropsThatMove) := goodIn_app (goodIn_of _ (by decide +kernel)) ggX6_ship_X6_dropsThatMove
set_option maxRecDepth 20000 in
theorem ggX6_ship_X5_dropsOf : GoodIn wsX6_ship wsX5_dropsOf := goodIn_r _ [61, 62, 52, 63, 15, 64, 140, 141, 142, 143] (by decide +kernel) (by decide +kernel)
set_option maxRecDepth 20000 in
theorem gX6_ship_X5_dropsOf : GoodIn wsX6_ship (wsV RX6 163 RX5 yX5_dropsOf wsX5_dropsOf) := goodIn_app (goodIn_of _ (by decide +kernel)) ggX6_ship_X5_dropsOf
set_option maxRecDepth 20000 in
theorem ggX6_ship_X1_dutyFor : GoodIn wsX6_ship wsX1_dutyFor := goodIn_r _ [69, 70, 63, 15, 64, 164, 165, 166] (by decide +kernel) (by decide +kernel)
set_option maxRecDepth 20000 in
theorem gX6_ship_X1_dutyFor : GoodIn wsX6_ship (wsV RX6 231 RX1 yX1_dutyFor wsX1_dutyFor) := goodIn_app (goodIn_of _ (by decide +kernel)) ggX6_ship_X1_dutyFor
set_option maxRecDepth 20000 in
theorem ggX6_ship_X5_takeOut : GoodIn wsX6_ship wsX5_takeOut := goodIn_r _ [74, 52, 62, 75, 59, 60, 50, 61, 63, 15, 64, 140, 141, 142, 143] (by decide +kernel) (by decide +kernel)
set_option maxRecDepth 20000 in
theorem gX6_ship_X5_takeOut : GoodIn wsX6_ship (wsV RX6 130 RX5 yX5_takeOut wsX5_takeOut) := goodIn_app (goodIn_of _ (by decide +kernel)) ggX6_ship_X5_takeOut
set_option maxRecDepth 20000 in
theorem ggX6_ship_X4_init : GoodIn wsX6_ship wsX4_init := goodIn_r _ [78, 79, 80, 81, 82, 83, 84, 85, 86, 156, 157, 158, 159, 160] (by decide +kernel) (by decide +kernel)
set_option maxRecDepth 20000 in
theorem gX6_ship_X4_init : GoodIn wsX6_ship (wsX4_init) := ggX6_ship_X4_init
set_option maxRecDepth 20000 in
theorem ggX6_ship_Jx4a65c_add_9ea2d : GoodIn wsX6_ship wsJx4a65c_add_9ea2d := goodIn_r _ [90, 91, 92, 43, 26, 93, 94, 95, 24, 96, 97, 98, 99, 100, 101, 102, 103, 104, 105, 106, 107, 108, 109, 110, 111, 112, 113, 114, 115, 116, 117, 118, 119, 120, 121, 122, 123, 124, 125, 126, 127, 128, 129, 130, 131, 132, 133, 134, 135, 136, 137, 138, 139, 161, 162, 163] (by decide +kernel) (by decide +kernel)
set_option maxRecDepth 20000 in
theorem gX6_ship_Jx4a65c_add_9ea2d : GoodIn wsX6_ship (wsV RX6 74 RJx4a65c yJx4a65c_add_9ea2d wsJx4a65c_add_9ea2d) := goodIn_app (goodIn_of _ (by decide +kernel)) ggX6_ship_Jx4a65c_add_9ea2d
theorem dX6_ship_0 : decode cX6_ship 0 = .ok (.aload_n 0, 1) := by decide +kernel
theorem dX6_ship_1 : decode cX6_ship 1 = .ok (.iload_n 1, 1) := by decide +kernel
theorem dX6_ship_2 : decode cX6_ship 2 = .ok (.invokevirtual 80, 3) := by decide +kernel
theorem dX6_ship_5 : decode cX6_ship 5 = .ok (.astore 5, 2) := by decide +kernel
theorem dX6_ship_7 : decode cX6_ship 7 = .ok (.aload_n 0, 1) := by decide +kernel
theorem dX6_ship_8 : decode cX6_ship 8 = .ok (.iload_n 2, 1) := by decide +kernel
theorem dX6_ship_9 : decode cX6_ship 9 = .ok (.invokevirtual 80, 3) := by decide +kernel
theorem dX6_ship_12 : decode cX6_ship 12 = .ok (.astore 6, 2) := by decide +kernel
theorem dX6_ship_14 : decode cX6_ship 14 = .ok (.iload_n 3, 1) := by decide +kernel
theorem dX6_ship_15 : decode cX6_ship 15 = .ok (.iconst 1, 1) := by decide +kernel
theorem dX6_ship_16 : decode cX6_ship 16 = .ok (.if_icmp .lt 14, 3) := by decide +kernel
theorem dX6_ship_19 : decode cX6_ship 19 = .ok (.iload 4, 2) := by decide +kernel
theorem dX6_ship_21 : decode cX6_ship 21 = .ok (.iconst 1, 1) := by decide +kernel
theorem dX6_ship_22 : decode cX6_ship 22 = .ok (.bipush 60, 2) := by decide +kernel
theorem dX6_ship_24 : decode cX6_ship 24 = .ok (.invokestatic 51, 3) := by decide +kernel
theorem dX6_ship_27 : decode cX6_ship 27 = .ok (.ifCond .ne 13, 3) := by decide +kernel
theorem dX6_ship_30 : decode cX6_ship 30 = .ok (.new 55, 3) := by decide +kernel
theorem dX6_ship_33 : decode cX6_ship 33 = .ok (.dup, 1) := by decide +kernel
theorem dX6_ship_34 : decode cX6_ship 34 = .ok (.ldc 239, 2) := by decide +kernel
theorem dX6_ship_36 : decode cX6_ship 36 = .ok (.invokespecial 59, 3) := by decide +kernel
theorem dX6_ship_39 : decode cX6_ship 39 = .ok (.athrow, 1) := by decide +kernel
theorem dX6_ship_40 : decode cX6_ship 40 = .ok (.aload 5, 2) := by decide +kernel
theorem dX6_ship_42 : decode cX6_ship 42 = .ok (.getfield 122, 3) := by decide +kernel
theorem dX6_ship_45 : decode cX6_ship 45 = .ok (.aload 6, 2) := by decide +kernel
theorem dX6_ship_47 : decode cX6_ship 47 = .ok (.getfield 122, 3) := by decide +kernel
theorem dX6_ship_50 : decode cX6_ship 50 = .ok (.if_icmp .eq 24, 3) := by decide +kernel
theorem dX6_ship_53 : decode cX6_ship 53 = .ok (.aload 5, 2) := by decide +kernel
theorem dX6_ship_55 : decode cX6_ship 55 = .ok (.iload_n 3, 1) := by decide +kernel
theorem dX6_ship_56 : decode cX6_ship 56 = .ok (.invokevirtual 125, 3) := by decide +kernel
theorem dX6_ship_59 : decode cX6_ship 59 = .ok (.ifCond .eq 15, 3) := by decide +kernel
theorem dX6_ship_62 : decode cX6_ship 62 = .ok (.aload_n 0, 1) := by decide +kernel
theorem dX6_ship_63 : decode cX6_ship 63 = .ok (.getfield 16, 3) := by decide +kernel
theorem dX6_ship_66 : decode cX6_ship 66 = .ok (.invokevirtual 60, 3) := by decide +kernel
theorem dX6_ship_69 : decode cX6_ship 69 = .ok (.bipush 30, 2) := by decide +kernel
theorem dX6_ship_71 : decode cX6_ship 71 = .ok (.if_icmp .lt 13, 3) := by decide +kernel
theorem dX6_ship_74 : decode cX6_ship 74 = .ok (.new 64, 3) := by decide +kernel
theorem dX6_ship_77 : decode cX6_ship 77 = .ok (.dup, 1) := by decide +kernel
theorem dX6_ship_78 : decode cX6_ship 78 = .ok (.ldc 241, 2) := by decide +kernel
theorem dX6_ship_80 : decode cX6_ship 80 = .ok (.invokespecial 68, 3) := by decide +kernel
theorem dX6_ship_83 : decode cX6_ship 83 = .ok (.athrow, 1) := by decide +kernel
theorem dX6_ship_84 : decode cX6_ship 84 = .ok (.aload_n 0, 1) := by decide +kernel
theorem dX6_ship_85 : decode cX6_ship 85 = .ok (.getfield 236, 3) := by decide +kernel
theorem dX6_ship_88 : decode cX6_ship 88 = .ok (.aload_n 0, 1) := by decide +kernel
theorem dX6_ship_89 : decode cX6_ship 89 = .ok (.getfield 29, 3) := by decide +kernel
theorem dX6_ship_92 : decode cX6_ship 92 = .ok (.aload_n 0, 1) := by decide +kernel
theorem dX6_ship_93 : decode cX6_ship 93 = .ok (.invokevirtual 228, 3) := by decide +kernel
theorem dX6_ship_96 : decode cX6_ship 96 = .ok (.aload 5, 2) := by decide +kernel
theorem dX6_ship_98 : decode cX6_ship 98 = .ok (.iload_n 3, 1) := by decide +kernel
theorem dX6_ship_99 : decode cX6_ship 99 = .ok (.invokevirtual 163, 3) := by decide +kernel
theorem dX6_ship_102 : decode cX6_ship 102 = .ok (.iadd, 1) := by decide +kernel
theorem dX6_ship_103 : decode cX6_ship 103 = .ok (.invokevirtual 231, 3) := by decide +kernel
theorem dX6_ship_106 : decode cX6_ship 106 = .ok (.if_icmp .ge 13, 3) := by decide +kernel
theorem dX6_ship_109 : decode cX6_ship 109 = .ok (.new 64, 3) := by decide +kernel
theorem dX6_ship_112 : decode cX6_ship 112 = .ok (.dup, 1) := by decide +kernel
theorem dX6_ship_113 : decode cX6_ship 113 = .ok (.ldc 243, 2) := by decide +kernel
theorem dX6_ship_115 : decode cX6_ship 115 = .ok (.invokespecial 68, 3) := by decide +kernel
theorem dX6_ship_118 : decode cX6_ship 118 = .ok (.athrow, 1) := by decide +kernel
theorem dX6_ship_119 : decode cX6_ship 119 = .ok (.aload_n 0, 1) := by decide +kernel
theorem dX6_ship_120 : decode cX6_ship 120 = .ok (.getfield 16, 3) := by decide +kernel
theorem dX6_ship_123 : decode cX6_ship 123 = .ok (.new 245, 3) := by decide +kernel
theorem dX6_ship_126 : decode cX6_ship 126 = .ok (.dup, 1) := by decide +kernel
theorem dX6_ship_127 : decode cX6_ship 127 = .ok (.aload 6, 2) := by decide +kernel
theorem dX6_ship_129 : decode cX6_ship 129 = .ok (.iload_n 3, 1) := by decide +kernel
theorem dX6_ship_130 : decode cX6_ship 130 = .ok (.aload 5, 2) := by decide +kernel
theorem dX6_ship_132 : decode cX6_ship 132 = .ok (.iload_n 3, 1) := by decide +kernel
theorem dX6_ship_133 : decode cX6_ship 133 = .ok (.invokevirtual 130, 3) := by decide +kernel
theorem dX6_ship_136 : decode cX6_ship 136 = .ok (.aload_n 0, 1) := by decide +kernel
theorem dX6_ship_137 : decode cX6_ship 137 = .ok (.getfield 216, 3) := by decide +kernel
theorem dX6_ship_140 : decode cX6_ship 140 = .ok (.iload 4, 2) := by decide +kernel
theorem dX6_ship_142 : decode cX6_ship 142 = .ok (.iadd, 1) := by decide +kernel
theorem dX6_ship_143 : decode cX6_ship 143 = .ok (.invokespecial 247, 3) := by decide +kernel
theorem dX6_ship_146 : decode cX6_ship 146 = .ok (.invokevirtual 74, 3) := by decide +kernel
theorem dX6_ship_149 : decode cX6_ship 149 = .ok (.pop, 1) := by decide +kernel
theorem dX6_ship_150 : decode cX6_ship 150 = .ok (.aload_n 0, 1) := by decide +kernel
theorem dX6_ship_151 : decode cX6_ship 151 = .ok (.getfield 16, 3) := by decide +kernel
theorem dX6_ship_154 : decode cX6_ship 154 = .ok (.invokevirtual 60, 3) := by decide +kernel
theorem dX6_ship_157 : decode cX6_ship 157 = .ok (.iconst 1, 1) := by decide +kernel
theorem dX6_ship_158 : decode cX6_ship 158 = .ok (.isub, 1) := by decide +kernel
theorem dX6_ship_159 : decode cX6_ship 159 = .ok (.ireturn, 1) := by decide +kernel
set_option maxRecDepth 20000 in
theorem ggX6_arrive_X6_movementOf : GoodIn wsX6_arrive wsX6_movementOf := goodIn_ca (goodIn_r _ [10, 11, 12, 13, 14, 15, 16, 17, 18, 19, 20, 21, 22, 23, 24, 25, 26, 27, 28, 29, 30, 31, 32, 33, 34, 35, 36, 37, 84, 85, 86, 87, 88, 89, 90, 91, 92, 93, 94, 95, 101, 102, 103] (by decide +kernel) (by decide +kernel)) (goodIn_sub (fun _ h => List.mem_cons_of_mem _ (List.mem_append_right _ h)) (by decide +kernel))
set_option maxRecDepth 20000 in
theorem gX6_arrive_X6_movementOf : GoodIn wsX6_arrive (wsV RX6 250 RX6 yX6_movementOf wsX6_movementOf) := goodIn_app (goodIn_of _ (by decide +kernel)) ggX6_arrive_X6_movementOf
set_option maxRecDepth 20000 in
theorem ggX6_arrive_X6_isWithin : GoodIn wsX6_arrive wsX6_isWithin := goodIn_r _ [40] (by decide +kernel) (by decide +kernel)
set_option maxRecDepth 20000 in
theorem gX6_arrive_X6_isWithin : GoodIn wsX6_arrive (va_wsS RX6 51 yX6_isWithin wsX6_isWithin) := goodIn_app (goodIn_of _ (by decide +kernel)) ggX6_arrive_X6_isWithin
set_option maxRecDepth 20000 in
theorem ggX6_arrive_X5_hasRoomFor : GoodIn wsX6_arrive wsX5_hasRoomFor := goodIn_r _ [45, 46, 47, 104, 105, 106, 107] (by decide +kernel) (by decide +kernel)
set_option maxRecDepth 20000 in
theorem gX6_arrive_X5_hasRoomFor : GoodIn wsX6_arrive (wsV RX6 88 RX5 yX5_hasRoomFor wsX5_hasRoomFor) := goodIn_app (goodIn_of _ (by decide +kernel)) ggX6_arrive_X5_hasRoomFor
set_option maxRecDepth 20000 in
theorem ggX6_arrive_X6_part : GoodIn wsX6_arrive wsX6_part := goodIn_r _ [50] (by decide +kernel) (by decide +kernel)
set_option maxRecDepth 20000 in
theorem gX6_arrive_X6_part : GoodIn wsX6_arrive (va_wsS RX6 103 yX6_part wsX6_part) := goodIn_app (goodIn_of _ (by decide +kernel)) ggX6_arrive_X6_part
set_option maxRecDepth 20000 in
theorem ggX6_arrive_X5_comeIn : GoodIn wsX6_arrive wsX5_comeIn := goodIn_r _ [54, 55, 47, 56, 57, 58, 59, 60, 61, 62, 49, 9, 50, 104, 105, 106, 107] (by decide +kernel) (by decide +kernel)
set_option maxRecDepth 20000 in
theorem gX6_arrive_X5_comeIn : GoodIn wsX6_arrive (wsV RX6 97 RX5 yX5_comeIn wsX5_comeIn) := goodIn_app (goodIn_of _ (by decide +kernel)) ggX6_arrive_X5_comeIn
set_option maxRecDepth 20000 in
theorem ggX6_arrive_X6_miss : GoodIn wsX6_arrive wsX6_miss := goodIn_r _ [66, 5, 67, 68, 69, 70, 71, 72, 73, 74, 75, 76, 77, 78, 49, 9, 50, 84, 85, 86, 87, 88, 89, 90, 91, 92, 93, 94, 95, 96, 97, 98, 99, 100, 108, 109, 110] (by decide +kernel) (by decide +kernel)
set_option maxRecDepth 20000 in
theorem gX6_arrive_X6_miss : GoodIn wsX6_arrive (wsV RX6 147 RX6 yX6_miss wsX6_miss) := goodIn_app (goodIn_of _ (by decide +kernel)) ggX6_arrive_X6_miss
theorem dX6_arrive_0 : decode cX6_arrive 0 = .ok (.aload_n 0, 1) := by decide +kernel
theorem dX6_arrive_1 : decode cX6_arrive 1 = .ok (.iload_n 1, 1) := by decide +kernel
theorem dX6_arrive_2 : decode cX6_arrive 2 = .ok (.invokevirtual 250, 3) := by decide +kernel
theorem dX6_arrive_5 : decode cX6_arrive 5 = .ok (.astore_n 3, 1) := by decide +kernel
theorem dX6_arrive_6 : decode cX6_arrive 6 = .ok (.iload_n 2, 1) := by decide +kernel
theorem dX6_arrive_7 : decode cX6_arrive 7 = .ok (.iconst 0, 1) := by decide +kernel
theorem dX6_arrive_8 : decode cX6_arrive 8 = .ok (.aload_n 3, 1) := by decide +kernel
theorem dX6_arrive_9 : decode cX6_arrive 9 = .ok (.getfield 254, 3) := by decide +kernel
theorem dX6_arrive_12 : decode cX6_arrive 12 = .ok (.invokestatic 51, 3) := by decide +kernel
theorem dX6_arrive_15 : decode cX6_arrive 15 = .ok (.ifCond .ne 13, 3) := by decide +kernel
theorem dX6_arrive_18 : decode cX6_arrive 18 = .ok (.new 55, 3) := by decide +kernel
theorem dX6_arrive_21 : decode cX6_arrive 21 = .ok (.dup, 1) := by decide +kernel
theorem dX6_arrive_22 : decode cX6_arrive 22 = .ok (.ldc 255, 2) := by decide +kernel
theorem dX6_arrive_24 : decode cX6_arrive 24 = .ok (.invokespecial 59, 3) := by decide +kernel
theorem dX6_arrive_27 : decode cX6_arrive 27 = .ok (.athrow, 1) := by decide +kernel
theorem dX6_arrive_28 : decode cX6_arrive 28 = .ok (.aload_n 3, 1) := by decide +kernel
theorem dX6_arrive_29 : decode cX6_arrive 29 = .ok (.getfield 257, 3) := by decide +kernel
theorem dX6_arrive_32 : decode cX6_arrive 32 = .ok (.ifCond .ne 14, 3) := by decide +kernel
theorem dX6_arrive_35 : decode cX6_arrive 35 = .ok (.aload_n 3, 1) := by decide +kernel
theorem dX6_arrive_36 : decode cX6_arrive 36 = .ok (.getfield 260, 3) := by decide +kernel
theorem dX6_arrive_39 : decode cX6_arrive 39 = .ok (.iload_n 2, 1) := by decide +kernel
theorem dX6_arrive_40 : decode cX6_arrive 40 = .ok (.invokevirtual 88, 3) := by decide +kernel
theorem dX6_arrive_43 : decode cX6_arrive 43 = .ok (.ifCond .ne 14, 3) := by decide +kernel
theorem dX6_arrive_46 : decode cX6_arrive 46 = .ok (.new 64, 3) := by decide +kernel
theorem dX6_arrive_49 : decode cX6_arrive 49 = .ok (.dup, 1) := by decide +kernel
theorem dX6_arrive_50 : decode cX6_arrive 50 = .ok (.ldc_w 264, 3) := by decide +kernel
theorem dX6_arrive_53 : decode cX6_arrive 53 = .ok (.invokespecial 68, 3) := by decide +kernel
theorem dX6_arrive_56 : decode cX6_arrive 56 = .ok (.athrow, 1) := by decide +kernel
theorem dX6_arrive_57 : decode cX6_arrive 57 = .ok (.aload_n 3, 1) := by decide +kernel
theorem dX6_arrive_58 : decode cX6_arrive 58 = .ok (.getfield 266, 3) := by decide +kernel
theorem dX6_arrive_61 : decode cX6_arrive 61 = .ok (.iload_n 2, 1) := by decide +kernel
theorem dX6_arrive_62 : decode cX6_arrive 62 = .ok (.aload_n 3, 1) := by decide +kernel
theorem dX6_arrive_63 : decode cX6_arrive 63 = .ok (.getfield 254, 3) := by decide +kernel
theorem dX6_arrive_66 : decode cX6_arrive 66 = .ok (.invokestatic 103, 3) := by decide +kernel
theorem dX6_arrive_69 : decode cX6_arrive 69 = .ok (.istore 4, 2) := by decide +kernel
theorem dX6_arrive_71 : decode cX6_arrive 71 = .ok (.aload_n 3, 1) := by decide +kernel
theorem dX6_arrive_72 : decode cX6_arrive 72 = .ok (.iconst 1, 1) := by decide +kernel
theorem dX6_arrive_73 : decode cX6_arrive 73 = .ok (.putfield 257, 3) := by decide +kernel
theorem dX6_arrive_76 : decode cX6_arrive 76 = .ok (.aload_n 3, 1) := by decide +kernel
theorem dX6_arrive_77 : decode cX6_arrive 77 = .ok (.getfield 260, 3) := by decide +kernel
theorem dX6_arrive_80 : decode cX6_arrive 80 = .ok (.iload_n 2, 1) := by decide +kernel
theorem dX6_arrive_81 : decode cX6_arrive 81 = .ok (.iload 4, 2) := by decide +kernel
theorem dX6_arrive_83 : decode cX6_arrive 83 = .ok (.invokevirtual 97, 3) := by decide +kernel
theorem dX6_arrive_86 : decode cX6_arrive 86 = .ok (.aload_n 3, 1) := by decide +kernel
theorem dX6_arrive_87 : decode cX6_arrive 87 = .ok (.getfield 266, 3) := by decide +kernel
theorem dX6_arrive_90 : decode cX6_arrive 90 = .ok (.iload 4, 2) := by decide +kernel
theorem dX6_arrive_92 : decode cX6_arrive 92 = .ok (.isub, 1) := by decide +kernel
theorem dX6_arrive_93 : decode cX6_arrive 93 = .ok (.istore 5, 2) := by decide +kernel
theorem dX6_arrive_95 : decode cX6_arrive 95 = .ok (.iload 5, 2) := by decide +kernel
theorem dX6_arrive_97 : decode cX6_arrive 97 = .ok (.aload_n 3, 1) := by decide +kernel
theorem dX6_arrive_98 : decode cX6_arrive 98 = .ok (.getfield 266, 3) := by decide +kernel
theorem dX6_arrive_101 : decode cX6_arrive 101 = .ok (.sipush 200, 3) := by decide +kernel
theorem dX6_arrive_104 : decode cX6_arrive 104 = .ok (.idiv, 1) := by decide +kernel
theorem dX6_arrive_105 : decode cX6_arrive 105 = .ok (.if_icmp .le 13, 3) := by decide +kernel
theorem dX6_arrive_108 : decode cX6_arrive 108 = .ok (.aload_n 0, 1) := by decide +kernel
theorem dX6_arrive_109 : decode cX6_arrive 109 = .ok (.iload 5, 2) := by decide +kernel
theorem dX6_arrive_111 : decode cX6_arrive 111 = .ok (.invokevirtual 147, 3) := by decide +kernel
theorem dX6_arrive_114 : decode cX6_arrive 114 = .ok (.pop, 1) := by decide +kernel
theorem dX6_arrive_115 : decode cX6_arrive 115 = .ok (.iload 5, 2) := by decide +kernel
theorem dX6_arrive_117 : decode cX6_arrive 117 = .ok (.ireturn, 1) := by decide +kernel
theorem dX6_arrive_118 : decode cX6_arrive 118 = .ok (.aload_n 0, 1) := by decide +kernel
theorem dX6_arrive_119 : decode cX6_arrive 119 = .ok (.getfield 36, 3) := by decide +kernel
theorem dX6_arrive_122 : decode cX6_arrive 122 = .ok (.dup, 1) := by decide +kernel
theorem dX6_arrive_123 : decode cX6_arrive 123 = .ok (.getfield 150, 3) := by decide +kernel
theorem dX6_arrive_126 : decode cX6_arrive 126 = .ok (.iload 5, 2) := by decide +kernel
theorem dX6_arrive_128 : decode cX6_arrive 128 = .ok (.iadd, 1) := by decide +kernel
theorem dX6_arrive_129 : decode cX6_arrive 129 = .ok (.putfield 150, 3) := by decide +kernel
theorem dX6_arrive_132 : decode cX6_arrive 132 = .ok (.iconst 0, 1) := by decide +kernel
theorem dX6_arrive_133 : decode cX6_arrive 133 = .ok (.ireturn, 1) := by decide +kernel
set_option maxRecDepth 20000 in
theorem ggX6_pass_X6_isWithin : GoodIn wsX6_pass wsX6_isWithin := goodIn_r _ [10] (by decide +kernel) (by decide +kernel)
set_option maxRecDepth 20000 in
theorem gX6_pass_X6_isWithin : GoodIn wsX6_pass (va_wsS RX6 51 yX6_isWithin wsX6_isWithin) := goodIn_app (goodIn_of _ (by decide +kernel)) ggX6_pass_X6_isWithin
set_option maxRecDepth 20000 in
theorem ggX6_pass_X6_beginDay : GoodIn wsX6_pass wsX6_beginDay := goodIn_r _ [14, 5, 6, 15, 16, 17, 18, 19, 20, 21, 22, 23, 24, 25, 9, 26, 27, 28, 29, 30, 31, 32, 33, 34, 35, 36, 37, 38, 39, 40, 41, 42, 43, 44, 45, 46, 47, 48, 49, 50, 51, 52, 53, 54, 55, 56, 57, 58, 59, 60, 61, 62, 63, 64, 65, 66, 67, 68, 69, 70, 71, 72, 73, 74, 75, 76, 77, 78, 79, 80, 81, 82, 83, 84, 85, 86, 87, 88, 89, 90, 91, 92, 93, 94, 95, 96, 97, 98, 99, 100, 101, 102, 103, 107, 108, 109, 104, 105, 106, 110, 111, 112, 113, 114, 115, 116, 117, 118, 119, 120, 121, 122, 123, 124, 125, 126] (by decide +kernel) (by decide +kernel)
set_option maxRecDepth 20000 in
theorem gX6_pass_X6_beginDay : GoodIn wsX6_pass (wsV RX6 271 RX6 yX6_beginDay wsX6_beginDay) := goodIn_app (goodIn_of _ (by decide +kernel)) ggX6_pass_X6_beginDay
theorem dX6_pass_0 : decode cX6_pass 0 = .ok (.iload_n 1, 1) := by decide +kernel
theorem dX6_pass_1 : decode cX6_pass 1 = .ok (.iconst 1, 1) := by decide +kernel
theorem dX6_pass_2 : decode cX6_pass 2 = .ok (.bipush 60, 2) := by decide +kernel
theorem dX6_pass_4 : decode cX6_pass 4 = .ok (.invokestatic 51, 3) := by decide +kernel
theorem dX6_pass_7 : decode cX6_pass 7 = .ok (.ifCond .ne 14, 3) := by decide +kernel
theorem dX6_pass_10 : decode cX6_pass 10 = .ok (.new 55, 3) := by decide +kernel
theorem dX6_pass_13 : decode cX6_pass 13 = .ok (.dup, 1) := by decide +kernel
theorem dX6_pass_14 : decode cX6_pass 14 = .ok (.ldc_w 267, 3) := by decide +kernel
theorem dX6_pass_17 : decode cX6_pass 17 = .ok (.invokespecial 59, 3) := by decide +kernel
theorem dX6_pass_20 : decode cX6_pass 20 = .ok (.athrow, 1) := by decide +kernel
theorem dX6_pass_21 : decode cX6_pass 21 = .ok (.aload_n 0, 1) := by decide +kernel
theorem dX6_pass_22 : decode cX6_pass 22 = .ok (.getfield 216, 3) := by decide +kernel
theorem dX6_pass_25 : decode cX6_pass 25 = .ok (.iload_n 1, 1) := by decide +kernel
theorem dX6_pass_26 : decode cX6_pass 26 = .ok (.iadd, 1) := by decide +kernel
theorem dX6_pass_27 : decode cX6_pass 27 = .ok (.sipush 900, 3) := by decide +kernel
theorem dX6_pass_30 : decode cX6_pass 30 = .ok (.if_icmp .le 14, 3) := by decide +kernel
theorem dX6_pass_33 : decode cX6_pass 33 = .ok (.new 64, 3) := by decide +kernel
theorem dX6_pass_36 : decode cX6_pass 36 = .ok (.dup, 1) := by decide +kernel
theorem dX6_pass_37 : decode cX6_pass 37 = .ok (.ldc_w 269, 3) := by decide +kernel
theorem dX6_pass_40 : decode cX6_pass 40 = .ok (.invokespecial 68, 3) := by decide +kernel
theorem dX6_pass_43 : decode cX6_pass 43 = .ok (.athrow, 1) := by decide +kernel
theorem dX6_pass_44 : decode cX6_pass 44 = .ok (.iconst 0, 1) := by decide +kernel
theorem dX6_pass_45 : decode cX6_pass 45 = .ok (.istore_n 2, 1) := by decide +kernel
theorem dX6_pass_46 : decode cX6_pass 46 = .ok (.iload_n 2, 1) := by decide +kernel
theorem dX6_pass_47 : decode cX6_pass 47 = .ok (.iload_n 1, 1) := by decide +kernel
theorem dX6_pass_48 : decode cX6_pass 48 = .ok (.if_icmp .ge 13, 3) := by decide +kernel
theorem dX6_pass_51 : decode cX6_pass 51 = .ok (.aload_n 0, 1) := by decide +kernel
theorem dX6_pass_52 : decode cX6_pass 52 = .ok (.invokevirtual 271, 3) := by decide +kernel
theorem dX6_pass_55 : decode cX6_pass 55 = .ok (.iinc 2 1, 3) := by decide +kernel
theorem dX6_pass_58 : decode cX6_pass 58 = .ok (.goto (-12), 3) := by decide +kernel
theorem dX6_pass_61 : decode cX6_pass 61 = .ok (.aload_n 0, 1) := by decide +kernel
theorem dX6_pass_62 : decode cX6_pass 62 = .ok (.getfield 29, 3) := by decide +kernel
theorem dX6_pass_65 : decode cX6_pass 65 = .ok (.getfield 205, 3) := by decide +kernel
theorem dX6_pass_68 : decode cX6_pass 68 = .ok (.ireturn, 1) := by decide +kernel
theorem dX6_day_0 : decode cX6_day 0 = .ok (.aload_n 0, 1) := by decide +kernel
theorem dX6_day_1 : decode cX6_day 1 = .ok (.getfield 216, 3) := by decide +kernel
theorem dX6_day_4 : decode cX6_day 4 = .ok (.ireturn, 1) := by decide +kernel
set_option maxRecDepth 20000 in
theorem ggX6_ofVessel_X6_vesselOf : GoodIn wsX6_ofVessel wsX6_vesselOf := goodIn_ca (goodIn_r _ [7, 1, 2, 8, 9, 10, 11, 12, 13, 14, 15, 16, 17, 18, 19, 20, 21, 22, 23, 24, 25, 26, 27, 28, 29, 30, 31, 32, 40, 41, 42, 43, 44, 45, 46, 47, 48, 49, 50, 51, 52, 53, 54] (by decide +kernel) (by decide +kernel)) (goodIn_sub (fun _ h => List.mem_cons_of_mem _ (List.mem_append_right _ h)) (by decide +kernel))
set_option maxRecDepth 20000 in
theorem gX6_ofVessel_X6_vesselOf : GoodIn wsX6_ofVessel (wsV RX6 80 RX6 yX6_vesselOf wsX6_vesselOf) := goodIn_app (goodIn_of _ (by decide +kernel)) ggX6_ofVessel_X6_vesselOf
set_option maxRecDepth 20000 in
theorem ggX6_ofVessel_X6_part : GoodIn wsX6_ofVessel wsX6_part := goodIn_r _ [35] (by decide +kernel) (by decide +kernel)
set_option maxRecDepth 20000 in
theorem gX6_ofVessel_X6_part : GoodIn wsX6_ofVessel (va_wsS RX6 103 yX6_part wsX6_part) := goodIn_app (goodIn_of _ (by decide +kernel)) ggX6_ofVessel_X6_part
theorem dX6_ofVessel_0 : decode cX6_ofVessel 0 = .ok (.aload_n 0, 1) := by decide +kernel
theorem dX6_ofVessel_1 : decode cX6_ofVessel 1 = .ok (.iload_n 1, 1) := by decide +kernel
theorem dX6_ofVessel_2 : decode cX6_ofVessel 2 = .ok (.invokevirtual 80, 3) := by decide +kernel
theorem dX6_ofVessel_5 : decode cX6_ofVessel 5 = .ok (.astore_n 3, 1) := by decide +kernel
theorem dX6_ofVessel_6 : decode cX6_ofVessel 6 = .ok (.iload_n 2, 1) := by decide +kernel
theorem dX6_ofVessel_7 : decode cX6_ofVessel 7 = .ok (.tableswitch 71 0 4 #[33, 38, 43, 56, 61], 33) := by decide +kernel
theorem dX6_ofVessel_40 : decode cX6_ofVessel 40 = .ok (.aload_n 3, 1) := by decide +kernel
theorem dX6_ofVessel_41 : decode cX6_ofVessel 41 = .ok (.getfield 133, 3) := by decide +kernel
theorem dX6_ofVessel_44 : decode cX6_ofVessel 44 = .ok (.ireturn, 1) := by decide +kernel
theorem dX6_ofVessel_45 : decode cX6_ofVessel 45 = .ok (.aload_n 3, 1) := by decide +kernel
theorem dX6_ofVessel_46 : decode cX6_ofVessel 46 = .ok (.getfield 144, 3) := by decide +kernel
theorem dX6_ofVessel_49 : decode cX6_ofVessel 49 = .ok (.ireturn, 1) := by decide +kernel
theorem dX6_ofVessel_50 : decode cX6_ofVessel 50 = .ok (.aload_n 3, 1) := by decide +kernel
theorem dX6_ofVessel_51 : decode cX6_ofVessel 51 = .ok (.getfield 144, 3) := by decide +kernel
theorem dX6_ofVessel_54 : decode cX6_ofVessel 54 = .ok (.iconst 1, 1) := by decide +kernel
theorem dX6_ofVessel_55 : decode cX6_ofVessel 55 = .ok (.aload_n 3, 1) := by decide +kernel
theorem dX6_ofVessel_56 : decode cX6_ofVessel 56 = .ok (.getfield 133, 3) := by decide +kernel
theorem dX6_ofVessel_59 : decode cX6_ofVessel 59 = .ok (.invokestatic 103, 3) := by decide +kernel
theorem dX6_ofVessel_62 : decode cX6_ofVessel 62 = .ok (.ireturn, 1) := by decide +kernel
theorem dX6_ofVessel_63 : decode cX6_ofVessel 63 = .ok (.aload_n 3, 1) := by decide +kernel
theorem dX6_ofVessel_64 : decode cX6_ofVessel 64 = .ok (.getfield 122, 3) := by decide +kernel
theorem dX6_ofVessel_67 : decode cX6_ofVessel 67 = .ok (.ireturn, 1) := by decide +kernel
theorem dX6_ofVessel_68 : decode cX6_ofVessel 68 = .ok (.aload_n 3, 1) := by decide +kernel
theorem dX6_ofVessel_69 : decode cX6_ofVessel 69 = .ok (.getfield 136, 3) := by decide +kernel
theorem dX6_ofVessel_72 : decode cX6_ofVessel 72 = .ok (.aload_n 3, 1) := by decide +kernel
theorem dX6_ofVessel_73 : decode cX6_ofVessel 73 = .ok (.getfield 133, 3) := by decide +kernel
theorem dX6_ofVessel_76 : decode cX6_ofVessel 76 = .ok (.isub, 1) := by decide +kernel
theorem dX6_ofVessel_77 : decode cX6_ofVessel 77 = .ok (.ireturn, 1) := by decide +kernel
theorem dX6_ofVessel_78 : decode cX6_ofVessel 78 = .ok (.new 44, 3) := by decide +kernel
theorem dX6_ofVessel_81 : decode cX6_ofVessel 81 = .ok (.dup, 1) := by decide +kernel
theorem dX6_ofVessel_82 : decode cX6_ofVessel 82 = .ok (.ldc_w 274, 3) := by decide +kernel
theorem dX6_ofVessel_85 : decode cX6_ofVessel 85 = .ok (.invokespecial 48, 3) := by decide +kernel
theorem dX6_ofVessel_88 : decode cX6_ofVessel 88 = .ok (.athrow, 1) := by decide +kernel
set_option maxRecDepth 20000 in
theorem ggX6_dropsAnew_X6_vesselOf : GoodIn wsX6_dropsAnew wsX6_vesselOf := goodIn_ca (goodIn_r _ [5, 6, 7, 8, 9, 10, 11, 12, 13, 14, 15, 16, 17, 18, 19, 20, 21, 22, 23, 24, 25, 26, 27, 28, 29, 30, 31, 32, 37, 38, 39, 40, 41, 42, 43, 44, 45, 46, 47, 48, 49, 50, 51] (by decide +kernel) (by decide +kernel)) (goodIn_sub (fun _ h => List.mem_cons_of_mem _ (List.mem_append_right _ h)) (by decide +kernel))
set_option maxRecDepth 20000 in
theorem gX6_dropsAnew_X6_vesselOf : GoodIn wsX6_dropsAnew (wsV RX6 80 RX6 yX6_vesselOf wsX6_vesselOf) := goodIn_app (goodIn_of _ (by decide +kernel)) ggX6_dropsAnew_X6_vesselOf
theorem dX6_dropsAnew_0 : decode cX6_dropsAnew 0 = .ok (.aload_n 0, 1) := by decide +kernel
theorem dX6_dropsAnew_1 : decode cX6_dropsAnew 1 = .ok (.iload_n 1, 1) := by decide +kernel
theorem dX6_dropsAnew_2 : decode cX6_dropsAnew 2 = .ok (.invokevirtual 80, 3) := by decide +kernel
theorem dX6_dropsAnew_5 : decode cX6_dropsAnew 5 = .ok (.getfield 144, 3) := by decide +kernel
theorem dX6_dropsAnew_8 : decode cX6_dropsAnew 8 = .ok (.ireturn, 1) := by decide +kernel
set_option maxRecDepth 20000 in
theorem ggX6_ofMovement_X6_movementOf : GoodIn wsX6_ofMovement wsX6_movementOf := goodIn_ca (goodIn_r _ [7, 1, 2, 8, 9, 10, 11, 12, 13, 14, 15, 16, 17, 18, 19, 20, 21, 22, 23, 24, 25, 26, 27, 28, 29, 30, 31, 32, 38, 39, 40, 41, 42, 43, 44, 45, 46, 47, 48, 49, 50, 51, 52] (by decide +kernel) (by decide +kernel)) (goodIn_sub (fun _ h => List.mem_cons_of_mem _ (List.mem_append_right _ h)) (by decide +kernel))
set_option maxRecDepth 20000 in
theorem gX6_ofMovement_X6_movementOf : GoodIn wsX6_ofMovement (wsV RX6 250 RX6 yX6_movementOf wsX6_movementOf) := goodIn_app (goodIn_of _ (by decide +kernel)) ggX6_ofMovement_X6_movementOf
theorem dX6_ofMovement_0 : decode cX6_ofMovement 0 = .ok (.aload_n 0, 1) := by decide +kernel
theorem dX6_ofMovement_1 : decode cX6_ofMovement 1 = .ok (.iload_n 1, 1) := by decide +kernel
theorem dX6_ofMovement_2 : decode cX6_ofMovement 2 = .ok (.invokevirtual 250, 3) := by decide +kernel
theorem dX6_ofMovement_5 : decode cX6_ofMovement 5 = .ok (.astore_n 3, 1) := by decide +kernel
theorem dX6_ofMovement_6 : decode cX6_ofMovement 6 = .ok (.iload_n 2, 1) := by decide +kernel
theorem dX6_ofMovement_7 : decode cX6_ofMovement 7 = .ok (.tableswitch 49 0 3 #[29, 34, 39, 44], 29) := by decide +kernel
theorem dX6_ofMovement_36 : decode cX6_ofMovement 36 = .ok (.aload_n 3, 1) := by decide +kernel
theorem dX6_ofMovement_37 : decode cX6_ofMovement 37 = .ok (.getfield 257, 3) := by decide +kernel
theorem dX6_ofMovement_40 : decode cX6_ofMovement 40 = .ok (.ireturn, 1) := by decide +kernel
theorem dX6_ofMovement_41 : decode cX6_ofMovement 41 = .ok (.aload_n 3, 1) := by decide +kernel
theorem dX6_ofMovement_42 : decode cX6_ofMovement 42 = .ok (.getfield 254, 3) := by decide +kernel
theorem dX6_ofMovement_45 : decode cX6_ofMovement 45 = .ok (.ireturn, 1) := by decide +kernel
theorem dX6_ofMovement_46 : decode cX6_ofMovement 46 = .ok (.aload_n 3, 1) := by decide +kernel
theorem dX6_ofMovement_47 : decode cX6_ofMovement 47 = .ok (.getfield 266, 3) := by decide +kernel
theorem dX6_ofMovement_50 : decode cX6_ofMovement 50 = .ok (.ireturn, 1) := by decide +kernel
theorem dX6_ofMovement_51 : decode cX6_ofMovement 51 = .ok (.aload_n 3, 1) := by decide +kernel
theorem dX6_ofMovement_52 : decode cX6_ofMovement 52 = .ok (.getfield 276, 3) := by decide +kernel
theorem dX6_ofMovement_55 : decode cX6_ofMovement 55 = .ok (.ireturn, 1) := by decide +kernel
theorem dX6_ofMovement_56 : decode cX6_ofMovement 56 = .ok (.new 44, 3) := by decide +kernel
theorem dX6_ofMovement_59 : decode cX6_ofMovement 59 = .ok (.dup, 1) := by decide +kernel
theorem dX6_ofMovement_60 : decode cX6_ofMovement 60 = .ok (.ldc_w 274, 3) := by decide +kernel
theorem dX6_ofMovement_63 : decode cX6_ofMovement 63 = .ok (.invokespecial 48, 3) := by decide +kernel
theorem dX6_ofMovement_66 : decode cX6_ofMovement 66 = .ok (.athrow, 1) := by decide +kernel
set_option maxRecDepth 20000 in
theorem ggX6_ledger_X6_dropsInVessels : GoodIn wsX6_ledger wsX6_dropsInVessels := goodIn_r _ [8, 9, 10, 11, 12, 13, 14, 15, 16, 17, 18, 19, 20, 21, 22, 23, 24, 25, 26, 27, 28, 29, 30, 31, 32, 33, 46, 47, 48, 49, 50, 51, 52, 53, 54, 55, 56, 57, 63, 64, 65, 66, 67, 68, 69] (by decide +kernel) (by decide +kernel)
set_option maxRecDepth 20000 in
theorem gX6_ledger_X6_dropsInVessels : GoodIn wsX6_ledger (wsV RX6 279 RX6 yX6_dropsInVessels wsX6_dropsInVessels) := goodIn_app (goodIn_of _ (by decide +kernel)) ggX6_ledger_X6_dropsInVessels
set_option maxRecDepth 20000 in
theorem ggX6_ledger_X6_dropsThatMove : GoodIn wsX6_ledger wsX6_dropsThatMove := goodIn_r _ [37, 38, 39, 11, 12, 13, 14, 15, 16, 17, 18, 19, 20, 21, 22, 23, 24, 25, 26, 27, 28, 29, 30, 31, 32, 33, 46, 47, 48, 49, 50, 51, 52, 53, 54, 55, 56, 57, 70, 71, 72, 73, 74, 67, 68, 69] (by decide +kernel) (by decide +kernel)
set_option maxRecDepth 20000 in
theorem gX6_ledger_X6_dropsThatMove : GoodIn wsX6_ledger (wsV RX6 228 RX6 yX6_dropsThatMove wsX6_dropsThatMove) := goodIn_app (goodIn_of _ (by decide +kernel)) ggX6_ledger_X6_dropsThatMove
set_option maxRecDepth 20000 in
theorem ggX6_ledger_X6_dropsInLots : GoodIn wsX6_ledger wsX6_dropsInLots := goodIn_r _ [43, 44, 45, 11, 12, 13, 14, 15, 16, 17, 18, 19, 20, 21, 22, 23, 24, 25, 26, 27, 28, 29, 30, 31, 32, 33, 46, 47, 48, 49, 50, 51, 52, 53, 54, 55, 56, 57, 75, 76, 67, 68, 69] (by decide +kernel) (by decide +kernel)
set_option maxRecDepth 20000 in
theorem gX6_ledger_X6_dropsInLots : GoodIn wsX6_ledger (wsV RX6 189 RX6 yX6_dropsInLots wsX6_dropsInLots) := goodIn_app (goodIn_of _ (by decide +kernel)) ggX6_ledger_X6_dropsInLots
theorem dX6_ledger_0 : decode cX6_ledger 0 = .ok (.iload_n 1, 1) := by decide +kernel
theorem dX6_ledger_1 : decode cX6_ledger 1 = .ok (.tableswitch 102 0 7 #[47, 55, 60, 65, 70, 78, 86, 94], 47) := by decide +kernel
theorem dX6_ledger_48 : decode cX6_ledger 48 = .ok (.aload_n 0, 1) := by decide +kernel
theorem dX6_ledger_49 : decode cX6_ledger 49 = .ok (.getfield 36, 3) := by decide +kernel
theorem dX6_ledger_52 : decode cX6_ledger 52 = .ok (.getfield 100, 3) := by decide +kernel
theorem dX6_ledger_55 : decode cX6_ledger 55 = .ok (.ireturn, 1) := by decide +kernel
theorem dX6_ledger_56 : decode cX6_ledger 56 = .ok (.aload_n 0, 1) := by decide +kernel
theorem dX6_ledger_57 : decode cX6_ledger 57 = .ok (.invokevirtual 279, 3) := by decide +kernel
theorem dX6_ledger_60 : decode cX6_ledger 60 = .ok (.ireturn, 1) := by decide +kernel
theorem dX6_ledger_61 : decode cX6_ledger 61 = .ok (.aload_n 0, 1) := by decide +kernel
theorem dX6_ledger_62 : decode cX6_ledger 62 = .ok (.invokevirtual 228, 3) := by decide +kernel
theorem dX6_ledger_65 : decode cX6_ledger 65 = .ok (.ireturn, 1) := by decide +kernel
theorem dX6_ledger_66 : decode cX6_ledger 66 = .ok (.aload_n 0, 1) := by decide +kernel
theorem dX6_ledger_67 : decode cX6_ledger 67 = .ok (.invokevirtual 189, 3) := by decide +kernel
theorem dX6_ledger_70 : decode cX6_ledger 70 = .ok (.ireturn, 1) := by decide +kernel
theorem dX6_ledger_71 : decode cX6_ledger 71 = .ok (.aload_n 0, 1) := by decide +kernel
theorem dX6_ledger_72 : decode cX6_ledger 72 = .ok (.getfield 36, 3) := by decide +kernel
theorem dX6_ledger_75 : decode cX6_ledger 75 = .ok (.getfield 150, 3) := by decide +kernel
theorem dX6_ledger_78 : decode cX6_ledger 78 = .ok (.ireturn, 1) := by decide +kernel
theorem dX6_ledger_79 : decode cX6_ledger 79 = .ok (.aload_n 0, 1) := by decide +kernel
theorem dX6_ledger_80 : decode cX6_ledger 80 = .ok (.getfield 36, 3) := by decide +kernel
theorem dX6_ledger_83 : decode cX6_ledger 83 = .ok (.getfield 282, 3) := by decide +kernel
theorem dX6_ledger_86 : decode cX6_ledger 86 = .ok (.ireturn, 1) := by decide +kernel
theorem dX6_ledger_87 : decode cX6_ledger 87 = .ok (.aload_n 0, 1) := by decide +kernel
theorem dX6_ledger_88 : decode cX6_ledger 88 = .ok (.getfield 36, 3) := by decide +kernel
theorem dX6_ledger_91 : decode cX6_ledger 91 = .ok (.getfield 208, 3) := by decide +kernel
theorem dX6_ledger_94 : decode cX6_ledger 94 = .ok (.ireturn, 1) := by decide +kernel
theorem dX6_ledger_95 : decode cX6_ledger 95 = .ok (.aload_n 0, 1) := by decide +kernel
theorem dX6_ledger_96 : decode cX6_ledger 96 = .ok (.getfield 36, 3) := by decide +kernel
theorem dX6_ledger_99 : decode cX6_ledger 99 = .ok (.getfield 113, 3) := by decide +kernel
theorem dX6_ledger_102 : decode cX6_ledger 102 = .ok (.ireturn, 1) := by decide +kernel
theorem dX6_ledger_103 : decode cX6_ledger 103 = .ok (.new 55, 3) := by decide +kernel
theorem dX6_ledger_106 : decode cX6_ledger 106 = .ok (.dup, 1) := by decide +kernel
theorem dX6_ledger_107 : decode cX6_ledger 107 = .ok (.ldc_w 274, 3) := by decide +kernel
theorem dX6_ledger_110 : decode cX6_ledger 110 = .ok (.invokespecial 59, 3) := by decide +kernel
theorem dX6_ledger_113 : decode cX6_ledger 113 = .ok (.athrow, 1) := by decide +kernel
set_option maxRecDepth 20000 in
theorem ggX6_duty_X6_dropsThatMove : GoodIn wsX6_duty wsX6_dropsThatMove := goodIn_r _ [11, 12, 13, 14, 15, 16, 17, 18, 19, 20, 21, 22, 23, 24, 25, 26, 27, 28, 29, 30, 31, 32, 33, 34, 35, 36, 45, 46, 47, 48, 49, 50, 51, 52, 53, 54, 55, 56, 63, 64, 65, 66, 67, 68, 69, 70] (by decide +kernel) (by decide +kernel)
set_option maxRecDepth 20000 in
theorem gX6_duty_X6_dropsThatMove : GoodIn wsX6_duty (wsV RX6 228 RX6 yX6_dropsThatMove wsX6_dropsThatMove) := goodIn_app (goodIn_of _ (by decide +kernel)) ggX6_duty_X6_dropsThatMove
set_option maxRecDepth 20000 in
theorem ggX6_duty_X1_dutyFor : GoodIn wsX6_duty wsX1_dutyFor := goodIn_r _ [41, 42, 43, 10, 44, 57, 58, 59] (by decide +kernel) (by decide +kernel)
set_option maxRecDepth 20000 in
theorem gX6_duty_X1_dutyFor : GoodIn wsX6_duty (wsV RX6 231 RX1 yX1_dutyFor wsX1_dutyFor) := goodIn_app (goodIn_of _ (by decide +kernel)) ggX6_duty_X1_dutyFor
theorem dX6_duty_0 : decode cX6_duty 0 = .ok (.iload_n 1, 1) := by decide +kernel
theorem dX6_duty_1 : decode cX6_duty 1 = .ok (.tableswitch 104 0 5 #[39, 47, 55, 74, 82, 87], 39) := by decide +kernel
theorem dX6_duty_40 : decode cX6_duty 40 = .ok (.aload_n 0, 1) := by decide +kernel
theorem dX6_duty_41 : decode cX6_duty 41 = .ok (.getfield 29, 3) := by decide +kernel
theorem dX6_duty_44 : decode cX6_duty 44 = .ok (.getfield 205, 3) := by decide +kernel
theorem dX6_duty_47 : decode cX6_duty 47 = .ok (.ireturn, 1) := by decide +kernel
theorem dX6_duty_48 : decode cX6_duty 48 = .ok (.aload_n 0, 1) := by decide +kernel
theorem dX6_duty_49 : decode cX6_duty 49 = .ok (.getfield 29, 3) := by decide +kernel
theorem dX6_duty_52 : decode cX6_duty 52 = .ok (.getfield 285, 3) := by decide +kernel
theorem dX6_duty_55 : decode cX6_duty 55 = .ok (.ireturn, 1) := by decide +kernel
theorem dX6_duty_56 : decode cX6_duty 56 = .ok (.aload_n 0, 1) := by decide +kernel
theorem dX6_duty_57 : decode cX6_duty 57 = .ok (.getfield 159, 3) := by decide +kernel
theorem dX6_duty_60 : decode cX6_duty 60 = .ok (.ifnonnull 7, 3) := by decide +kernel
theorem dX6_duty_63 : decode cX6_duty 63 = .ok (.iconst (-1), 1) := by decide +kernel
theorem dX6_duty_64 : decode cX6_duty 64 = .ok (.goto 10, 3) := by decide +kernel
theorem dX6_duty_67 : decode cX6_duty 67 = .ok (.aload_n 0, 1) := by decide +kernel
theorem dX6_duty_68 : decode cX6_duty 68 = .ok (.getfield 159, 3) := by decide +kernel
theorem dX6_duty_71 : decode cX6_duty 71 = .ok (.getfield 166, 3) := by decide +kernel
theorem dX6_duty_74 : decode cX6_duty 74 = .ok (.ireturn, 1) := by decide +kernel
theorem dX6_duty_75 : decode cX6_duty 75 = .ok (.aload_n 0, 1) := by decide +kernel
theorem dX6_duty_76 : decode cX6_duty 76 = .ok (.getfield 29, 3) := by decide +kernel
theorem dX6_duty_79 : decode cX6_duty 79 = .ok (.getfield 288, 3) := by decide +kernel
theorem dX6_duty_82 : decode cX6_duty 82 = .ok (.ireturn, 1) := by decide +kernel
theorem dX6_duty_83 : decode cX6_duty 83 = .ok (.aload_n 0, 1) := by decide +kernel
theorem dX6_duty_84 : decode cX6_duty 84 = .ok (.getfield 182, 3) := by decide +kernel
theorem dX6_duty_87 : decode cX6_duty 87 = .ok (.ireturn, 1) := by decide +kernel
theorem dX6_duty_88 : decode cX6_duty 88 = .ok (.aload_n 0, 1) := by decide +kernel
theorem dX6_duty_89 : decode cX6_duty 89 = .ok (.getfield 236, 3) := by decide +kernel
theorem dX6_duty_92 : decode cX6_duty 92 = .ok (.aload_n 0, 1) := by decide +kernel
theorem dX6_duty_93 : decode cX6_duty 93 = .ok (.getfield 29, 3) := by decide +kernel
theorem dX6_duty_96 : decode cX6_duty 96 = .ok (.aload_n 0, 1) := by decide +kernel
theorem dX6_duty_97 : decode cX6_duty 97 = .ok (.invokevirtual 228, 3) := by decide +kernel
theorem dX6_duty_100 : decode cX6_duty 100 = .ok (.invokevirtual 231, 3) := by decide +kernel
theorem dX6_duty_103 : decode cX6_duty 103 = .ok (.isub, 1) := by decide +kernel
theorem dX6_duty_104 : decode cX6_duty 104 = .ok (.ireturn, 1) := by decide +kernel
theorem dX6_duty_105 : decode cX6_duty 105 = .ok (.new 55, 3) := by decide +kernel
theorem dX6_duty_108 : decode cX6_duty 108 = .ok (.dup, 1) := by decide +kernel
theorem dX6_duty_109 : decode cX6_duty 109 = .ok (.ldc_w 274, 3) := by decide +kernel
theorem dX6_duty_112 : decode cX6_duty 112 = .ok (.invokespecial 59, 3) := by decide +kernel
theorem dX6_duty_115 : decode cX6_duty 115 = .ok (.athrow, 1) := by decide +kernel
theorem dX6_isWithin_0 : decode cX6_isWithin 0 = .ok (.iload_n 0, 1) := by decide +kernel
theorem dX6_isWithin_1 : decode cX6_isWithin 1 = .ok (.iload_n 1, 1) := by decide +kernel
theorem dX6_isWithin_2 : decode cX6_isWithin 2 = .ok (.if_icmp .lt 12, 3) := by decide +kernel
theorem dX6_isWithin_5 : decode cX6_isWithin 5 = .ok (.iload_n 0, 1) := by decide +kernel
theorem dX6_isWithin_6 : decode cX6_isWithin 6 = .ok (.iload_n 2, 1) := by decide +kernel
theorem dX6_isWithin_7 : decode cX6_isWithin 7 = .ok (.if_icmp .gt 7, 3) := by decide +kernel
theorem dX6_isWithin_10 : decode cX6_isWithin 10 = .ok (.iconst 1, 1) := by decide +kernel
theorem dX6_isWithin_11 : decode cX6_isWithin 11 = .ok (.goto 4, 3) := by decide +kernel
theorem dX6_isWithin_14 : decode cX6_isWithin 14 = .ok (.iconst 0, 1) := by decide +kernel
theorem dX6_isWithin_15 : decode cX6_isWithin 15 = .ok (.ireturn, 1) := by decide +kernel
theorem dX6_part_0 : decode cX6_part 0 = .ok (.iload_n 2, 1) := by decide +kernel
theorem dX6_part_1 : decode cX6_part 1 = .ok (.iconst 1, 1) := by decide +kernel
theorem dX6_part_2 : decode cX6_part 2 = .ok (.if_icmp .ge 7, 3) := by decide +kernel
theorem dX6_part_5 : decode cX6_part 5 = .ok (.iconst 0, 1) := by decide +kernel
theorem dX6_part_6 : decode cX6_part 6 = .ok (.goto 12, 3) := by decide +kernel
theorem dX6_part_9 : decode cX6_part 9 = .ok (.iload_n 0, 1) := by decide +kernel
theorem dX6_part_10 : decode cX6_part 10 = .ok (.i2l, 1) := by decide +kernel
theorem dX6_part_11 : decode cX6_part 11 = .ok (.iload_n 1, 1) := by decide +kernel
theorem dX6_part_12 : decode cX6_part 12 = .ok (.i2l, 1) := by decide +kernel
theorem dX6_part_13 : decode cX6_part 13 = .ok (.lmul, 1) := by decide +kernel
theorem dX6_part_14 : decode cX6_part 14 = .ok (.iload_n 2, 1) := by decide +kernel
theorem dX6_part_15 : decode cX6_part 15 = .ok (.i2l, 1) := by decide +kernel
theorem dX6_part_16 : decode cX6_part 16 = .ok (.ldiv, 1) := by decide +kernel
theorem dX6_part_17 : decode cX6_part 17 = .ok (.l2i, 1) := by decide +kernel
theorem dX6_part_18 : decode cX6_part 18 = .ok (.ireturn, 1) := by decide +kernel
theorem dX6_isPlace_0 : decode cX6_isPlace 0 = .ok (.iload_n 1, 1) := by decide +kernel
theorem dX6_isPlace_1 : decode cX6_isPlace 1 = .ok (.ifCond .lt 16, 3) := by decide +kernel
theorem dX6_isPlace_4 : decode cX6_isPlace 4 = .ok (.iload_n 1, 1) := by decide +kernel
theorem dX6_isPlace_5 : decode cX6_isPlace 5 = .ok (.aload_n 0, 1) := by decide +kernel
theorem dX6_isPlace_6 : decode cX6_isPlace 6 = .ok (.getfield 22, 3) := by decide +kernel
theorem dX6_isPlace_9 : decode cX6_isPlace 9 = .ok (.arraylength, 1) := by decide +kernel
theorem dX6_isPlace_10 : decode cX6_isPlace 10 = .ok (.if_icmp .ge 7, 3) := by decide +kernel
theorem dX6_isPlace_13 : decode cX6_isPlace 13 = .ok (.iconst 1, 1) := by decide +kernel
theorem dX6_isPlace_14 : decode cX6_isPlace 14 = .ok (.goto 4, 3) := by decide +kernel
theorem dX6_isPlace_17 : decode cX6_isPlace 17 = .ok (.iconst 0, 1) := by decide +kernel
theorem dX6_isPlace_18 : decode cX6_isPlace 18 = .ok (.ireturn, 1) := by decide +kernel
set_option maxRecDepth 20000 in
theorem ggX6_vesselOf_Jx4a65c_size_8abf5 : GoodIn wsX6_vesselOf wsJx4a65c_size_8abf5 := goodIn_r _ [9, 10, 40, 41, 42] (by decide +kernel) (by decide +kernel)
set_option maxRecDepth 20000 in
theorem gX6_vesselOf_Jx4a65c_size_8abf5 : GoodIn wsX6_vesselOf (wsV RX6 60 RJx4a65c yJx4a65c_size_8abf5 wsJx4a65c_size_8abf5) := goodIn_app (goodIn_of _ (by decide +kernel)) ggX6_vesselOf_Jx4a65c_size_8abf5
set_option maxRecDepth 20000 in
theorem ggX6_vesselOf_Jx4a65c_get_915e3 : GoodIn wsX6_vesselOf wsJx4a65c_get_915e3 := goodIn_r _ [14, 10, 15, 16, 17, 18, 19, 20, 21, 22, 23, 24, 25, 8, 26, 27, 40, 41, 42] (by decide +kernel) (by decide +kernel)
set_option maxRecDepth 20000 in
theorem gX6_vesselOf_Jx4a65c_get_915e3 : GoodIn wsX6_vesselOf (wsV RX6 194 RJx4a65c yJx4a65c_get_915e3 wsJx4a65c_get_915e3) := goodIn_app (goodIn_of _ (by decide +kernel)) ggX6_vesselOf_Jx4a65c_get_915e3
theorem dX6_vesselOf_0 : decode cX6_vesselOf 0 = .ok (.iload_n 1, 1) := by decide +kernel
theorem dX6_vesselOf_1 : decode cX6_vesselOf 1 = .ok (.ifCond .lt 14, 3) := by decide +kernel
theorem dX6_vesselOf_4 : decode cX6_vesselOf 4 = .ok (.iload_n 1, 1) := by decide +kernel
theorem dX6_vesselOf_5 : decode cX6_vesselOf 5 = .ok (.aload_n 0, 1) := by decide +kernel
theorem dX6_vesselOf_6 : decode cX6_vesselOf 6 = .ok (.getfield 10, 3) := by decide +kernel
theorem dX6_vesselOf_9 : decode cX6_vesselOf 9 = .ok (.invokevirtual 60, 3) := by decide +kernel
theorem dX6_vesselOf_12 : decode cX6_vesselOf 12 = .ok (.if_icmp .lt 14, 3) := by decide +kernel
theorem dX6_vesselOf_15 : decode cX6_vesselOf 15 = .ok (.new 44, 3) := by decide +kernel
theorem dX6_vesselOf_18 : decode cX6_vesselOf 18 = .ok (.dup, 1) := by decide +kernel
theorem dX6_vesselOf_19 : decode cX6_vesselOf 19 = .ok (.ldc_w 291, 3) := by decide +kernel
theorem dX6_vesselOf_22 : decode cX6_vesselOf 22 = .ok (.invokespecial 48, 3) := by decide +kernel
theorem dX6_vesselOf_25 : decode cX6_vesselOf 25 = .ok (.athrow, 1) := by decide +kernel
theorem dX6_vesselOf_26 : decode cX6_vesselOf 26 = .ok (.aload_n 0, 1) := by decide +kernel
theorem dX6_vesselOf_27 : decode cX6_vesselOf 27 = .ok (.getfield 10, 3) := by decide +kernel
theorem dX6_vesselOf_30 : decode cX6_vesselOf 30 = .ok (.iload_n 1, 1) := by decide +kernel
theorem dX6_vesselOf_31 : decode cX6_vesselOf 31 = .ok (.invokevirtual 194, 3) := by decide +kernel
theorem dX6_vesselOf_34 : decode cX6_vesselOf 34 = .ok (.checkcast 69, 3) := by decide +kernel
theorem dX6_vesselOf_37 : decode cX6_vesselOf 37 = .ok (.areturn, 1) := by decide +kernel
set_option maxRecDepth 20000 in
theorem ggX6_movementOf_Jx4a65c_size_8abf5 : GoodIn wsX6_movementOf wsJx4a65c_size_8abf5 := goodIn_r _ [9, 10, 40, 41, 42] (by decide +kernel) (by decide +kernel)
set_option maxRecDepth 20000 in
theorem gX6_movementOf_Jx4a65c_size_8abf5 : GoodIn wsX6_movementOf (wsV RX6 60 RJx4a65c yJx4a65c_size_8abf5 wsJx4a65c_size_8abf5) := goodIn_app (goodIn_of _ (by decide +kernel)) ggX6_movementOf_Jx4a65c_size_8abf5
set_option maxRecDepth 20000 in
theorem ggX6_movementOf_Jx4a65c_get_915e3 : GoodIn wsX6_movementOf wsJx4a65c_get_915e3 := goodIn_r _ [14, 10, 15, 16, 17, 18, 19, 20, 21, 22, 23, 24, 25, 8, 26, 27, 40, 41, 42] (by decide +kernel) (by decide +kernel)
set_option maxRecDepth 20000 in
theorem gX6_movementOf_Jx4a65c_get_915e3 : GoodIn wsX6_movementOf (wsV RX6 194 RJx4a65c yJx4a65c_get_915e3 wsJx4a65c_get_915e3) := goodIn_app (goodIn_of _ (by decide +kernel)) ggX6_movementOf_Jx4a65c_get_915e3
theorem dX6_movementOf_0 : decode cX6_movementOf 0 = .ok (.iload_n 1, 1) := by decide +kernel
theorem dX6_movementOf_1 : decode cX6_movementOf 1 = .ok (.ifCond .lt 14, 3) := by decide +kernel
theorem dX6_movementOf_4 : decode cX6_movementOf 4 = .ok (.iload_n 1, 1) := by decide +kernel
theorem dX6_movementOf_5 : decode cX6_movementOf 5 = .ok (.aload_n 0, 1) := by decide +kernel
theorem dX6_movementOf_6 : decode cX6_movementOf 6 = .ok (.getfield 16, 3) := by decide +kernel
theorem dX6_movementOf_9 : decode cX6_movementOf 9 = .ok (.invokevirtual 60, 3) := by decide +kernel
theorem dX6_movementOf_12 : decode cX6_movementOf 12 = .ok (.if_icmp .lt 14, 3) := by decide +kernel
theorem dX6_movementOf_15 : decode cX6_movementOf 15 = .ok (.new 44, 3) := by decide +kernel
theorem dX6_movementOf_18 : decode cX6_movementOf 18 = .ok (.dup, 1) := by decide +kernel
theorem dX6_movementOf_19 : decode cX6_movementOf 19 = .ok (.ldc_w 293, 3) := by decide +kernel
theorem dX6_movementOf_22 : decode cX6_movementOf 22 = .ok (.invokespecial 48, 3) := by decide +kernel
theorem dX6_movementOf_25 : decode cX6_movementOf 25 = .ok (.athrow, 1) := by decide +kernel
theorem dX6_movementOf_26 : decode cX6_movementOf 26 = .ok (.aload_n 0, 1) := by decide +kernel
theorem dX6_movementOf_27 : decode cX6_movementOf 27 = .ok (.getfield 16, 3) := by decide +kernel
theorem dX6_movementOf_30 : decode cX6_movementOf 30 = .ok (.iload_n 1, 1) := by decide +kernel
theorem dX6_movementOf_31 : decode cX6_movementOf 31 = .ok (.invokevirtual 194, 3) := by decide +kernel
theorem dX6_movementOf_34 : decode cX6_movementOf 34 = .ok (.checkcast 245, 3) := by decide +kernel
theorem dX6_movementOf_37 : decode cX6_movementOf 37 = .ok (.areturn, 1) := by decide +kernel
set_option maxRecDepth 20000 in
theorem ggX6_dropsInVessels_Jx4a65c_size_8abf5 : GoodIn wsX6_dropsInVessels wsJx4a65c_size_8abf5 := goodIn_r _ [7, 8, 42, 43, 44] (by decide +kernel) (by decide +kernel)
set_option maxRecDepth 20000 in
theorem gX6_dropsInVessels_Jx4a65c_size_8abf5 : GoodIn wsX6_dropsInVessels (wsV RX6 60 RJx4a65c yJx4a65c_size_8abf5 wsJx4a65c_size_8abf5) := goodIn_app (goodIn_of _ (by decide +kernel)) ggX6_dropsInVessels_Jx4a65c_size_8abf5
set_option maxRecDepth 20000 in
theorem ggX6_dropsInVessels_Jx4a65c_get_915e3 : GoodIn wsX6_dropsInVessels wsJx4a65c_get_915e3 := goodIn_r _ [12, 8, 13, 14, 15, 16, 17, 18, 19, 20, 21, 22, 23, 6, 24, 25, 42, 43, 44] (by decide +kernel) (by decide +kernel)
set_option maxRecDepth 20000 in
theorem gX6_dropsInVessels_Jx4a65c_get_915e3 : GoodIn wsX6_dropsInVessels (wsV RX6 194 RJx4a65c yJx4a65c_get_915e3 wsJx4a65c_get_915e3) := goodIn_app (goodIn_of _ (by decide +kernel)) ggX6_dropsInVessels_Jx4a65c_get_915e3
theorem dX6_dropsInVessels_0 : decode cX6_dropsInVessels 0 = .ok (.iconst 0, 1) := by decide +kernel
theorem dX6_dropsInVessels_1 : decode cX6_dropsInVessels 1 = .ok (.istore_n 1, 1) := by decide +kernel
theorem dX6_dropsInVessels_2 : decode cX6_dropsInVessels 2 = .ok (.iconst 0, 1) := by decide +kernel
theorem dX6_dropsInVessels_3 : decode cX6_dropsInVessels 3 = .ok (.istore_n 2, 1) := by decide +kernel
theorem dX6_dropsInVessels_4 : decode cX6_dropsInVessels 4 = .ok (.iload_n 2, 1) := by decide +kernel
theorem dX6_dropsInVessels_5 : decode cX6_dropsInVessels 5 = .ok (.aload_n 0, 1) := by decide +kernel
theorem dX6_dropsInVessels_6 : decode cX6_dropsInVessels 6 = .ok (.getfield 10, 3) := by decide +kernel
theorem dX6_dropsInVessels_9 : decode cX6_dropsInVessels 9 = .ok (.invokevirtual 60, 3) := by decide +kernel
theorem dX6_dropsInVessels_12 : decode cX6_dropsInVessels 12 = .ok (.if_icmp .ge 26, 3) := by decide +kernel
theorem dX6_dropsInVessels_15 : decode cX6_dropsInVessels 15 = .ok (.iload_n 1, 1) := by decide +kernel
theorem dX6_dropsInVessels_16 : decode cX6_dropsInVessels 16 = .ok (.aload_n 0, 1) := by decide +kernel
theorem dX6_dropsInVessels_17 : decode cX6_dropsInVessels 17 = .ok (.getfield 10, 3) := by decide +kernel
theorem dX6_dropsInVessels_20 : decode cX6_dropsInVessels 20 = .ok (.iload_n 2, 1) := by decide +kernel
theorem dX6_dropsInVessels_21 : decode cX6_dropsInVessels 21 = .ok (.invokevirtual 194, 3) := by decide +kernel
theorem dX6_dropsInVessels_24 : decode cX6_dropsInVessels 24 = .ok (.checkcast 69, 3) := by decide +kernel
theorem dX6_dropsInVessels_27 : decode cX6_dropsInVessels 27 = .ok (.getfield 144, 3) := by decide +kernel
theorem dX6_dropsInVessels_30 : decode cX6_dropsInVessels 30 = .ok (.iadd, 1) := by decide +kernel
theorem dX6_dropsInVessels_31 : decode cX6_dropsInVessels 31 = .ok (.istore_n 1, 1) := by decide +kernel
theorem dX6_dropsInVessels_32 : decode cX6_dropsInVessels 32 = .ok (.iinc 2 1, 3) := by decide +kernel
theorem dX6_dropsInVessels_35 : decode cX6_dropsInVessels 35 = .ok (.goto (-31), 3) := by decide +kernel
theorem dX6_dropsInVessels_38 : decode cX6_dropsInVessels 38 = .ok (.iload_n 1, 1) := by decide +kernel
theorem dX6_dropsInVessels_39 : decode cX6_dropsInVessels 39 = .ok (.ireturn, 1) := by decide +kernel
set_option maxRecDepth 20000 in
theorem ggX6_dropsThatMove_Jx4a65c_size_8abf5 : GoodIn wsX6_dropsThatMove wsJx4a65c_size_8abf5 := goodIn_r _ [7, 8, 43, 44, 45] (by decide +kernel) (by decide +kernel)
set_option maxRecDepth 20000 in
theorem gX6_dropsThatMove_Jx4a65c_size_8abf5 : GoodIn wsX6_dropsThatMove (wsV RX6 60 RJx4a65c yJx4a65c_size_8abf5 wsJx4a65c_size_8abf5) := goodIn_app (goodIn_of _ (by decide +kernel)) ggX6_dropsThatMove_Jx4a65c_size_8abf5
set_option maxRecDepth 20000 in
theorem ggX6_dropsThatMove_Jx4a65c_get_915e3 : GoodIn wsX6_dropsThatMove wsJx4a65c_get_915e3 := goodIn_r _ [12, 8, 13, 14, 15, 16, 17, 18, 19, 20, 21, 22, 23, 6, 24, 25, 43, 44, 45] (by decide +kernel) (by decide +kernel)
set_option maxRecDepth 20000 in
theorem gX6_dropsThatMove_Jx4a65c_get_915e3 : GoodIn wsX6_dropsThatMove (wsV RX6 194 RJx4a65c yJx4a65c_get_915e3 wsJx4a65c_get_915e3) := goodIn_app (goodIn_of _ (by decide +kernel)) ggX6_dropsThatMove_Jx4a65c_get_915e3
theorem dX6_dropsThatMove_0 : decode cX6_dropsThatMove 0 = .ok (.iconst 0, 1) := by decide +kernel
theorem dX6_dropsThatMove_1 : decode cX6_dropsThatMove 1 = .ok (.istore_n 1, 1) := by decide +kernel
theorem dX6_dropsThatMove_2 : decode cX6_dropsThatMove 2 = .ok (.iconst 0, 1) := by decide +kernel
theorem dX6_dropsThatMove_3 : decode cX6_dropsThatMove 3 = .ok (.istore_n 2, 1) := by decide +kernel
theorem dX6_dropsThatMove_4 : decode cX6_dropsThatMove 4 = .ok (.iload_n 2, 1) := by decide +kernel
theorem dX6_dropsThatMove_5 : decode cX6_dropsThatMove 5 = .ok (.aload_n 0, 1) := by decide +kernel
theorem dX6_dropsThatMove_6 : decode cX6_dropsThatMove 6 = .ok (.getfield 16, 3) := by decide +kernel
theorem dX6_dropsThatMove_9 : decode cX6_dropsThatMove 9 = .ok (.invokevirtual 60, 3) := by decide +kernel
theorem dX6_dropsThatMove_12 : decode cX6_dropsThatMove 12 = .ok (.if_icmp .ge 39, 3) := by decide +kernel
theorem dX6_dropsThatMove_15 : decode cX6_dropsThatMove 15 = .ok (.aload_n 0, 1) := by decide +kernel
theorem dX6_dropsThatMove_16 : decode cX6_dropsThatMove 16 = .ok (.getfield 16, 3) := by decide +kernel
theorem dX6_dropsThatMove_19 : decode cX6_dropsThatMove 19 = .ok (.iload_n 2, 1) := by decide +kernel
theorem dX6_dropsThatMove_20 : decode cX6_dropsThatMove 20 = .ok (.invokevirtual 194, 3) := by decide +kernel
theorem dX6_dropsThatMove_23 : decode cX6_dropsThatMove 23 = .ok (.checkcast 245, 3) := by decide +kernel
theorem dX6_dropsThatMove_26 : decode cX6_dropsThatMove 26 = .ok (.astore_n 3, 1) := by decide +kernel
theorem dX6_dropsThatMove_27 : decode cX6_dropsThatMove 27 = .ok (.iload_n 1, 1) := by decide +kernel
theorem dX6_dropsThatMove_28 : decode cX6_dropsThatMove 28 = .ok (.aload_n 3, 1) := by decide +kernel
theorem dX6_dropsThatMove_29 : decode cX6_dropsThatMove 29 = .ok (.getfield 257, 3) := by decide +kernel
theorem dX6_dropsThatMove_32 : decode cX6_dropsThatMove 32 = .ok (.ifCond .ne 10, 3) := by decide +kernel
theorem dX6_dropsThatMove_35 : decode cX6_dropsThatMove 35 = .ok (.aload_n 3, 1) := by decide +kernel
theorem dX6_dropsThatMove_36 : decode cX6_dropsThatMove 36 = .ok (.getfield 266, 3) := by decide +kernel
theorem dX6_dropsThatMove_39 : decode cX6_dropsThatMove 39 = .ok (.goto 4, 3) := by decide +kernel
theorem dX6_dropsThatMove_42 : decode cX6_dropsThatMove 42 = .ok (.iconst 0, 1) := by decide +kernel
theorem dX6_dropsThatMove_43 : decode cX6_dropsThatMove 43 = .ok (.iadd, 1) := by decide +kernel
theorem dX6_dropsThatMove_44 : decode cX6_dropsThatMove 44 = .ok (.istore_n 1, 1) := by decide +kernel
theorem dX6_dropsThatMove_45 : decode cX6_dropsThatMove 45 = .ok (.iinc 2 1, 3) := by decide +kernel
theorem dX6_dropsThatMove_48 : decode cX6_dropsThatMove 48 = .ok (.goto (-44), 3) := by decide +kernel
theorem dX6_dropsThatMove_51 : decode cX6_dropsThatMove 51 = .ok (.iload_n 1, 1) := by decide +kernel
theorem dX6_dropsThatMove_52 : decode cX6_dropsThatMove 52 = .ok (.ireturn, 1) := by decide +kernel
set_option maxRecDepth 20000 in
theorem ggX6_dropsInLots_Jx4a65c_size_8abf5 : GoodIn wsX6_dropsInLots wsJx4a65c_size_8abf5 := goodIn_r _ [7, 8, 40, 41, 42] (by decide +kernel) (by decide +kernel)
set_option maxRecDepth 20000 in
theorem gX6_dropsInLots_Jx4a65c_size_8abf5 : GoodIn wsX6_dropsInLots (wsV RX6 60 RJx4a65c yJx4a65c_size_8abf5 wsJx4a65c_size_8abf5) := goodIn_app (goodIn_of _ (by decide +kernel)) ggX6_dropsInLots_Jx4a65c_size_8abf5
set_option maxRecDepth 20000 in
theorem ggX6_dropsInLots_Jx4a65c_get_915e3 : GoodIn wsX6_dropsInLots wsJx4a65c_get_915e3 := goodIn_r _ [12, 8, 13, 14, 15, 16, 17, 18, 19, 20, 21, 22, 23, 6, 24, 25, 40, 41, 42] (by decide +kernel) (by decide +kernel)
set_option maxRecDepth 20000 in
theorem gX6_dropsInLots_Jx4a65c_get_915e3 : GoodIn wsX6_dropsInLots (wsV RX6 194 RJx4a65c yJx4a65c_get_915e3 wsJx4a65c_get_915e3) := goodIn_app (goodIn_of _ (by decide +kernel)) ggX6_dropsInLots_Jx4a65c_get_915e3
theorem dX6_dropsInLots_0 : decode cX6_dropsInLots 0 = .ok (.iconst 0, 1) := by decide +kernel
theorem dX6_dropsInLots_1 : decode cX6_dropsInLots 1 = .ok (.istore_n 1, 1) := by decide +kernel
theorem dX6_dropsInLots_2 : decode cX6_dropsInLots 2 = .ok (.iconst 0, 1) := by decide +kernel
theorem dX6_dropsInLots_3 : decode cX6_dropsInLots 3 = .ok (.istore_n 2, 1) := by decide +kernel
theorem dX6_dropsInLots_4 : decode cX6_dropsInLots 4 = .ok (.iload_n 2, 1) := by decide +kernel
theorem dX6_dropsInLots_5 : decode cX6_dropsInLots 5 = .ok (.aload_n 0, 1) := by decide +kernel
theorem dX6_dropsInLots_6 : decode cX6_dropsInLots 6 = .ok (.getfield 19, 3) := by decide +kernel
theorem dX6_dropsInLots_9 : decode cX6_dropsInLots 9 = .ok (.invokevirtual 60, 3) := by decide +kernel
theorem dX6_dropsInLots_12 : decode cX6_dropsInLots 12 = .ok (.if_icmp .ge 26, 3) := by decide +kernel
theorem dX6_dropsInLots_15 : decode cX6_dropsInLots 15 = .ok (.iload_n 1, 1) := by decide +kernel
theorem dX6_dropsInLots_16 : decode cX6_dropsInLots 16 = .ok (.aload_n 0, 1) := by decide +kernel
theorem dX6_dropsInLots_17 : decode cX6_dropsInLots 17 = .ok (.getfield 19, 3) := by decide +kernel
theorem dX6_dropsInLots_20 : decode cX6_dropsInLots 20 = .ok (.iload_n 2, 1) := by decide +kernel
theorem dX6_dropsInLots_21 : decode cX6_dropsInLots 21 = .ok (.invokevirtual 194, 3) := by decide +kernel
theorem dX6_dropsInLots_24 : decode cX6_dropsInLots 24 = .ok (.checkcast 176, 3) := by decide +kernel
theorem dX6_dropsInLots_27 : decode cX6_dropsInLots 27 = .ok (.getfield 198, 3) := by decide +kernel
theorem dX6_dropsInLots_30 : decode cX6_dropsInLots 30 = .ok (.iadd, 1) := by decide +kernel
theorem dX6_dropsInLots_31 : decode cX6_dropsInLots 31 = .ok (.istore_n 1, 1) := by decide +kernel
theorem dX6_dropsInLots_32 : decode cX6_dropsInLots 32 = .ok (.iinc 2 1, 3) := by decide +kernel
theorem dX6_dropsInLots_35 : decode cX6_dropsInLots 35 = .ok (.goto (-31), 3) := by decide +kernel
theorem dX6_dropsInLots_38 : decode cX6_dropsInLots 38 = .ok (.iload_n 1, 1) := by decide +kernel
theorem dX6_dropsInLots_39 : decode cX6_dropsInLots 39 = .ok (.ireturn, 1) := by decide +kernel
set_option maxRecDepth 20000 in
theorem ggX6_miss_X1_chargeWhole : GoodIn wsX6_miss wsX1_chargeWhole := goodIn_r _ [7, 8, 9, 10, 11, 6, 12, 13, 14, 15, 16, 34, 35, 36] (by decide +kernel) (by decide +kernel)
set_option maxRecDepth 20000 in
theorem gX6_miss_X1_chargeWhole : GoodIn wsX6_miss (wsV RX6 116 RX1 yX1_chargeWhole wsX1_chargeWhole) := goodIn_app (goodIn_of _ (by decide +kernel)) ggX6_miss_X1_chargeWhole
theorem dX6_miss_0 : decode cX6_miss 0 = .ok (.aload_n 0, 1) := by decide +kernel
theorem dX6_miss_1 : decode cX6_miss 1 = .ok (.getfield 36, 3) := by decide +kernel
theorem dX6_miss_4 : decode cX6_miss 4 = .ok (.dup, 1) := by decide +kernel
theorem dX6_miss_5 : decode cX6_miss 5 = .ok (.getfield 282, 3) := by decide +kernel
theorem dX6_miss_8 : decode cX6_miss 8 = .ok (.iload_n 1, 1) := by decide +kernel
theorem dX6_miss_9 : decode cX6_miss 9 = .ok (.iadd, 1) := by decide +kernel
theorem dX6_miss_10 : decode cX6_miss 10 = .ok (.putfield 282, 3) := by decide +kernel
theorem dX6_miss_13 : decode cX6_miss 13 = .ok (.aload_n 0, 1) := by decide +kernel
theorem dX6_miss_14 : decode cX6_miss 14 = .ok (.getfield 29, 3) := by decide +kernel
theorem dX6_miss_17 : decode cX6_miss 17 = .ok (.iload_n 1, 1) := by decide +kernel
theorem dX6_miss_18 : decode cX6_miss 18 = .ok (.invokevirtual 116, 3) := by decide +kernel
theorem dX6_miss_21 : decode cX6_miss 21 = .ok (.ireturn, 1) := by decide +kernel
set_option maxRecDepth 20000 in
theorem ggX6_beginDay_X1_beginYear : GoodIn wsX6_beginDay wsX1_beginYear := goodIn_r _ [8, 9, 10, 96, 97, 98] (by decide +kernel) (by decide +kernel)
set_option maxRecDepth 20000 in
theorem gX6_beginDay_X1_beginYear : GoodIn wsX6_beginDay (wsV RX6 295 RX1 yX1_beginYear wsX1_beginYear) := goodIn_app (goodIn_of _ (by decide +kernel)) ggX6_beginDay_X1_beginYear
set_option maxRecDepth 20000 in
theorem ggX6_beginDay_X6_loseLateMovements : GoodIn wsX6_beginDay wsX6_loseLateMovements := goodIn_r _ [15, 16, 17, 1, 18, 19, 20, 21, 22, 23, 24, 25, 26, 27, 28, 29, 30, 31, 32, 33, 34, 35, 36, 37, 38, 39, 40, 41, 42, 43, 14, 44, 45, 2, 46, 47, 48, 7, 49, 50, 51, 52, 53, 54, 55, 56, 57, 81, 82, 83, 84, 85, 86, 87, 88, 89, 90, 91, 92, 99, 100, 101, 102, 103, 104, 105, 106, 107, 108, 109, 110, 111, 96, 97, 98] (by decide +kernel) (by decide +kernel)
set_option maxRecDepth 20000 in
theorem gX6_beginDay_X6_loseLateMovements : GoodIn wsX6_beginDay (wsV RX6 302 RX6 yX6_loseLateMovements wsX6_loseLateMovements) := goodIn_app (goodIn_of _ (by decide +kernel)) ggX6_beginDay_X6_loseLateMovements
set_option maxRecDepth 20000 in
theorem ggX6_beginDay_X6_takeShares : GoodIn wsX6_beginDay wsX6_takeShares := goodIn_r _ [61, 62, 63, 45, 64, 18, 19, 20, 21, 22, 23, 24, 25, 26, 27, 28, 29, 30, 31, 32, 33, 34, 35, 36, 37, 38, 39, 40, 65, 66, 67, 14, 68, 69, 70, 71, 72, 73, 74, 75, 76, 56, 57, 81, 82, 83, 84, 85, 86, 87, 88, 89, 90, 91, 92, 112, 113, 114, 115, 107, 108, 109, 110, 111, 104, 105, 106] (by decide +kernel) (by decide +kernel)
set_option maxRecDepth 20000 in
theorem gX6_beginDay_X6_takeShares : GoodIn wsX6_beginDay (wsV RX6 305 RX6 yX6_takeShares wsX6_takeShares) := goodIn_app (goodIn_of _ (by decide +kernel)) ggX6_beginDay_X6_takeShares
set_option maxRecDepth 20000 in
theorem ggX6_beginDay_X1_growOwed : GoodIn wsX6_beginDay wsX1_growOwed := goodIn_r _ [80, 50, 96, 97, 98] (by decide +kernel) (by decide +kernel)
set_option maxRecDepth 20000 in
theorem gX6_beginDay_X1_growOwed : GoodIn wsX6_beginDay (wsV RX6 308 RX1 yX1_growOwed wsX1_growOwed) := goodIn_app (goodIn_of _ (by decide +kernel)) ggX6_beginDay_X1_growOwed
theorem dX6_beginDay_0 : decode cX6_beginDay 0 = .ok (.aload_n 0, 1) := by decide +kernel
theorem dX6_beginDay_1 : decode cX6_beginDay 1 = .ok (.dup, 1) := by decide +kernel
theorem dX6_beginDay_2 : decode cX6_beginDay 2 = .ok (.getfield 216, 3) := by decide +kernel
theorem dX6_beginDay_5 : decode cX6_beginDay 5 = .ok (.iconst 1, 1) := by decide +kernel
theorem dX6_beginDay_6 : decode cX6_beginDay 6 = .ok (.iadd, 1) := by decide +kernel
theorem dX6_beginDay_7 : decode cX6_beginDay 7 = .ok (.putfield 216, 3) := by decide +kernel
theorem dX6_beginDay_10 : decode cX6_beginDay 10 = .ok (.aload_n 0, 1) := by decide +kernel
theorem dX6_beginDay_11 : decode cX6_beginDay 11 = .ok (.getfield 216, 3) := by decide +kernel
theorem dX6_beginDay_14 : decode cX6_beginDay 14 = .ok (.bipush 100, 2) := by decide +kernel
theorem dX6_beginDay_16 : decode cX6_beginDay 16 = .ok (.irem, 1) := by decide +kernel
theorem dX6_beginDay_17 : decode cX6_beginDay 17 = .ok (.ifCond .ne 10, 3) := by decide +kernel
theorem dX6_beginDay_20 : decode cX6_beginDay 20 = .ok (.aload_n 0, 1) := by decide +kernel
theorem dX6_beginDay_21 : decode cX6_beginDay 21 = .ok (.getfield 29, 3) := by decide +kernel
theorem dX6_beginDay_24 : decode cX6_beginDay 24 = .ok (.invokevirtual 295, 3) := by decide +kernel
theorem dX6_beginDay_27 : decode cX6_beginDay 27 = .ok (.aload_n 0, 1) := by decide +kernel
theorem dX6_beginDay_28 : decode cX6_beginDay 28 = .ok (.getfield 159, 3) := by decide +kernel
theorem dX6_beginDay_31 : decode cX6_beginDay 31 = .ok (.ifnull 36, 3) := by decide +kernel
theorem dX6_beginDay_34 : decode cX6_beginDay 34 = .ok (.aload_n 0, 1) := by decide +kernel
theorem dX6_beginDay_35 : decode cX6_beginDay 35 = .ok (.getfield 159, 3) := by decide +kernel
theorem dX6_beginDay_38 : decode cX6_beginDay 38 = .ok (.getfield 298, 3) := by decide +kernel
theorem dX6_beginDay_41 : decode cX6_beginDay 41 = .ok (.aload_n 0, 1) := by decide +kernel
theorem dX6_beginDay_42 : decode cX6_beginDay 42 = .ok (.getfield 216, 3) := by decide +kernel
theorem dX6_beginDay_45 : decode cX6_beginDay 45 = .ok (.if_icmp .ne 22, 3) := by decide +kernel
theorem dX6_beginDay_48 : decode cX6_beginDay 48 = .ok (.aload_n 0, 1) := by decide +kernel
theorem dX6_beginDay_49 : decode cX6_beginDay 49 = .ok (.getfield 29, 3) := by decide +kernel
theorem dX6_beginDay_52 : decode cX6_beginDay 52 = .ok (.aload_n 0, 1) := by decide +kernel
theorem dX6_beginDay_53 : decode cX6_beginDay 53 = .ok (.getfield 159, 3) := by decide +kernel
theorem dX6_beginDay_56 : decode cX6_beginDay 56 = .ok (.getfield 301, 3) := by decide +kernel
theorem dX6_beginDay_59 : decode cX6_beginDay 59 = .ok (.putfield 285, 3) := by decide +kernel
theorem dX6_beginDay_62 : decode cX6_beginDay 62 = .ok (.aload_n 0, 1) := by decide +kernel
theorem dX6_beginDay_63 : decode cX6_beginDay 63 = .ok (.aconst_null, 1) := by decide +kernel
theorem dX6_beginDay_64 : decode cX6_beginDay 64 = .ok (.putfield 159, 3) := by decide +kernel
theorem dX6_beginDay_67 : decode cX6_beginDay 67 = .ok (.aload_n 0, 1) := by decide +kernel
theorem dX6_beginDay_68 : decode cX6_beginDay 68 = .ok (.invokevirtual 302, 3) := by decide +kernel
theorem dX6_beginDay_71 : decode cX6_beginDay 71 = .ok (.aload_n 0, 1) := by decide +kernel
theorem dX6_beginDay_72 : decode cX6_beginDay 72 = .ok (.invokevirtual 305, 3) := by decide +kernel
theorem dX6_beginDay_75 : decode cX6_beginDay 75 = .ok (.aload_n 0, 1) := by decide +kernel
theorem dX6_beginDay_76 : decode cX6_beginDay 76 = .ok (.getfield 216, 3) := by decide +kernel
theorem dX6_beginDay_79 : decode cX6_beginDay 79 = .ok (.bipush 30, 2) := by decide +kernel
theorem dX6_beginDay_81 : decode cX6_beginDay 81 = .ok (.irem, 1) := by decide +kernel
theorem dX6_beginDay_82 : decode cX6_beginDay 82 = .ok (.ifCond .ne 10, 3) := by decide +kernel
theorem dX6_beginDay_85 : decode cX6_beginDay 85 = .ok (.aload_n 0, 1) := by decide +kernel
theorem dX6_beginDay_86 : decode cX6_beginDay 86 = .ok (.getfield 29, 3) := by decide +kernel
theorem dX6_beginDay_89 : decode cX6_beginDay 89 = .ok (.invokevirtual 308, 3) := by decide +kernel
theorem dX6_beginDay_92 : decode cX6_beginDay 92 = .ok (.return_, 1) := by decide +kernel
set_option maxRecDepth 20000 in
theorem ggX6_loseLateMovements_Jx4a65c_size_8abf5 : GoodIn wsX6_loseLateMovements wsJx4a65c_size_8abf5 := goodIn_r _ [8, 9, 64, 65, 66] (by decide +kernel) (by decide +kernel)
set_option maxRecDepth 20000 in
theorem gX6_loseLateMovements_Jx4a65c_size_8abf5 : GoodIn wsX6_loseLateMovements (wsV RX6 60 RJx4a65c yJx4a65c_size_8abf5 wsJx4a65c_size_8abf5) := goodIn_app (goodIn_of _ (by decide +kernel)) ggX6_loseLateMovements_Jx4a65c_size_8abf5
set_option maxRecDepth 20000 in
theorem ggX6_loseLateMovements_Jx4a65c_get_915e3 : GoodIn wsX6_loseLateMovements wsJx4a65c_get_915e3 := goodIn_r _ [13, 9, 14, 15, 16, 17, 18, 19, 20, 21, 22, 23, 24, 7, 25, 26, 64, 65, 66] (by decide +kernel) (by decide +kernel)
set_option maxRecDepth 20000 in
theorem gX6_loseLateMovements_Jx4a65c_get_915e3 : GoodIn wsX6_loseLateMovements (wsV RX6 194 RJx4a65c yJx4a65c_get_915e3 wsJx4a65c_get_915e3) := goodIn_app (goodIn_of _ (by decide +kernel)) ggX6_loseLateMovements_Jx4a65c_get_915e3
set_option maxRecDepth 20000 in
theorem ggX6_loseLateMovements_X6_miss : GoodIn wsX6_loseLateMovements wsX6_miss := goodIn_r _ [31, 32, 33, 34, 35, 36, 37, 38, 39, 40, 41, 42, 43, 44, 45, 30, 46, 47, 48, 49, 50, 51, 52, 53, 54, 55, 56, 57, 58, 67, 68, 69, 70, 71, 72, 73, 74] (by decide +kernel) (by decide +kernel)
set_option maxRecDepth 20000 in
theorem gX6_loseLateMovements_X6_miss : GoodIn wsX6_loseLateMovements (wsV RX6 147 RX6 yX6_miss wsX6_miss) := goodIn_app (goodIn_of _ (by decide +kernel)) ggX6_loseLateMovements_X6_miss
theorem dX6_loseLateMovements_0 : decode cX6_loseLateMovements 0 = .ok (.iconst 0, 1) := by decide +kernel
theorem dX6_loseLateMovements_1 : decode cX6_loseLateMovements 1 = .ok (.istore_n 1, 1) := by decide +kernel
theorem dX6_loseLateMovements_2 : decode cX6_loseLateMovements 2 = .ok (.iload_n 1, 1) := by decide +kernel
theorem dX6_loseLateMovements_3 : decode cX6_loseLateMovements 3 = .ok (.aload_n 0, 1) := by decide +kernel
theorem dX6_loseLateMovements_4 : decode cX6_loseLateMovements 4 = .ok (.getfield 16, 3) := by decide +kernel
theorem dX6_loseLateMovements_7 : decode cX6_loseLateMovements 7 = .ok (.invokevirtual 60, 3) := by decide +kernel
theorem dX6_loseLateMovements_10 : decode cX6_loseLateMovements 10 = .ok (.if_icmp .ge 53, 3) := by decide +kernel
theorem dX6_loseLateMovements_13 : decode cX6_loseLateMovements 13 = .ok (.aload_n 0, 1) := by decide +kernel
theorem dX6_loseLateMovements_14 : decode cX6_loseLateMovements 14 = .ok (.getfield 16, 3) := by decide +kernel
theorem dX6_loseLateMovements_17 : decode cX6_loseLateMovements 17 = .ok (.iload_n 1, 1) := by decide +kernel
theorem dX6_loseLateMovements_18 : decode cX6_loseLateMovements 18 = .ok (.invokevirtual 194, 3) := by decide +kernel
theorem dX6_loseLateMovements_21 : decode cX6_loseLateMovements 21 = .ok (.checkcast 245, 3) := by decide +kernel
theorem dX6_loseLateMovements_24 : decode cX6_loseLateMovements 24 = .ok (.astore_n 2, 1) := by decide +kernel
theorem dX6_loseLateMovements_25 : decode cX6_loseLateMovements 25 = .ok (.aload_n 2, 1) := by decide +kernel
theorem dX6_loseLateMovements_26 : decode cX6_loseLateMovements 26 = .ok (.getfield 257, 3) := by decide +kernel
theorem dX6_loseLateMovements_29 : decode cX6_loseLateMovements 29 = .ok (.ifCond .ne 28, 3) := by decide +kernel
theorem dX6_loseLateMovements_32 : decode cX6_loseLateMovements 32 = .ok (.aload_n 0, 1) := by decide +kernel
theorem dX6_loseLateMovements_33 : decode cX6_loseLateMovements 33 = .ok (.getfield 216, 3) := by decide +kernel
theorem dX6_loseLateMovements_36 : decode cX6_loseLateMovements 36 = .ok (.aload_n 2, 1) := by decide +kernel
theorem dX6_loseLateMovements_37 : decode cX6_loseLateMovements 37 = .ok (.getfield 276, 3) := by decide +kernel
theorem dX6_loseLateMovements_40 : decode cX6_loseLateMovements 40 = .ok (.if_icmp .le 17, 3) := by decide +kernel
theorem dX6_loseLateMovements_43 : decode cX6_loseLateMovements 43 = .ok (.aload_n 2, 1) := by decide +kernel
theorem dX6_loseLateMovements_44 : decode cX6_loseLateMovements 44 = .ok (.iconst 2, 1) := by decide +kernel
theorem dX6_loseLateMovements_45 : decode cX6_loseLateMovements 45 = .ok (.putfield 257, 3) := by decide +kernel
theorem dX6_loseLateMovements_48 : decode cX6_loseLateMovements 48 = .ok (.aload_n 0, 1) := by decide +kernel
theorem dX6_loseLateMovements_49 : decode cX6_loseLateMovements 49 = .ok (.aload_n 2, 1) := by decide +kernel
theorem dX6_loseLateMovements_50 : decode cX6_loseLateMovements 50 = .ok (.getfield 266, 3) := by decide +kernel
theorem dX6_loseLateMovements_53 : decode cX6_loseLateMovements 53 = .ok (.invokevirtual 147, 3) := by decide +kernel
theorem dX6_loseLateMovements_56 : decode cX6_loseLateMovements 56 = .ok (.pop, 1) := by decide +kernel
theorem dX6_loseLateMovements_57 : decode cX6_loseLateMovements 57 = .ok (.iinc 1 1, 3) := by decide +kernel
theorem dX6_loseLateMovements_60 : decode cX6_loseLateMovements 60 = .ok (.goto (-58), 3) := by decide +kernel
theorem dX6_loseLateMovements_63 : decode cX6_loseLateMovements 63 = .ok (.return_, 1) := by decide +kernel
set_option maxRecDepth 20000 in
theorem ggX6_takeShares_Jx4a65c_size_8abf5 : GoodIn wsX6_takeShares wsJx4a65c_size_8abf5 := goodIn_r _ [9, 10, 64, 65, 66] (by decide +kernel) (by decide +kernel)
set_option maxRecDepth 20000 in
theorem gX6_takeShares_Jx4a65c_size_8abf5 : GoodIn wsX6_takeShares (wsV RX6 60 RJx4a65c yJx4a65c_size_8abf5 wsJx4a65c_size_8abf5) := goodIn_app (goodIn_of _ (by decide +kernel)) ggX6_takeShares_Jx4a65c_size_8abf5
set_option maxRecDepth 20000 in
theorem ggX6_takeShares_Jx4a65c_get_915e3 : GoodIn wsX6_takeShares wsJx4a65c_get_915e3 := goodIn_r _ [14, 10, 15, 16, 17, 18, 19, 20, 21, 22, 23, 24, 25, 8, 26, 27, 64, 65, 66] (by decide +kernel) (by decide +kernel)
set_option maxRecDepth 20000 in
theorem gX6_takeShares_Jx4a65c_get_915e3 : GoodIn wsX6_takeShares (wsV RX6 194 RJx4a65c yJx4a65c_get_915e3 wsJx4a65c_get_915e3) := goodIn_app (goodIn_of _ (by decide +kernel)) ggX6_takeShares_Jx4a65c_get_915e3
set_option maxRecDepth 20000 in
theorem ggX6_takeShares_X6_isPlace : GoodIn wsX6_takeShares wsX6_isPlace := goodIn_r _ [32, 4, 43, 44, 45, 46, 47, 48, 49, 50, 51, 52, 53, 54] (by decide +kernel) (by decide +kernel)
set_option maxRecDepth 20000 in
theorem gX6_takeShares_X6_isPlace : GoodIn wsX6_takeShares (wsV RX6 40 RX6 yX6_isPlace wsX6_isPlace) := goodIn_app (goodIn_of _ (by decide +kernel)) ggX6_takeShares_X6_isPlace
set_option maxRecDepth 20000 in
theorem ggX6_takeShares_X5_takeShare : GoodIn wsX6_takeShares wsX5_takeShare := goodIn_r _ [37, 38, 39, 40, 41, 31, 42, 55, 56, 57, 58] (by decide +kernel) (by decide +kernel)
set_option maxRecDepth 20000 in
theorem gX6_takeShares_X5_takeShare : GoodIn wsX6_takeShares (wsV RX6 311 RX5 yX5_takeShare wsX5_takeShare) := goodIn_app (goodIn_of _ (by decide +kernel)) ggX6_takeShares_X5_takeShare
theorem dX6_takeShares_0 : decode cX6_takeShares 0 = .ok (.iconst 0, 1) := by decide +kernel
theorem dX6_takeShares_1 : decode cX6_takeShares 1 = .ok (.istore_n 1, 1) := by decide +kernel
theorem dX6_takeShares_2 : decode cX6_takeShares 2 = .ok (.iload_n 1, 1) := by decide +kernel
theorem dX6_takeShares_3 : decode cX6_takeShares 3 = .ok (.aload_n 0, 1) := by decide +kernel
theorem dX6_takeShares_4 : decode cX6_takeShares 4 = .ok (.getfield 10, 3) := by decide +kernel
theorem dX6_takeShares_7 : decode cX6_takeShares 7 = .ok (.invokevirtual 60, 3) := by decide +kernel
theorem dX6_takeShares_10 : decode cX6_takeShares 10 = .ok (.if_icmp .ge 57, 3) := by decide +kernel
theorem dX6_takeShares_13 : decode cX6_takeShares 13 = .ok (.aload_n 0, 1) := by decide +kernel
theorem dX6_takeShares_14 : decode cX6_takeShares 14 = .ok (.getfield 10, 3) := by decide +kernel
theorem dX6_takeShares_17 : decode cX6_takeShares 17 = .ok (.iload_n 1, 1) := by decide +kernel
theorem dX6_takeShares_18 : decode cX6_takeShares 18 = .ok (.invokevirtual 194, 3) := by decide +kernel
theorem dX6_takeShares_21 : decode cX6_takeShares 21 = .ok (.checkcast 69, 3) := by decide +kernel
theorem dX6_takeShares_24 : decode cX6_takeShares 24 = .ok (.astore_n 2, 1) := by decide +kernel
theorem dX6_takeShares_25 : decode cX6_takeShares 25 = .ok (.aload_n 0, 1) := by decide +kernel
theorem dX6_takeShares_26 : decode cX6_takeShares 26 = .ok (.aload_n 2, 1) := by decide +kernel
theorem dX6_takeShares_27 : decode cX6_takeShares 27 = .ok (.getfield 122, 3) := by decide +kernel
theorem dX6_takeShares_30 : decode cX6_takeShares 30 = .ok (.invokevirtual 40, 3) := by decide +kernel
theorem dX6_takeShares_33 : decode cX6_takeShares 33 = .ok (.ifCond .eq 28, 3) := by decide +kernel
theorem dX6_takeShares_36 : decode cX6_takeShares 36 = .ok (.aload_n 0, 1) := by decide +kernel
theorem dX6_takeShares_37 : decode cX6_takeShares 37 = .ok (.getfield 36, 3) := by decide +kernel
theorem dX6_takeShares_40 : decode cX6_takeShares 40 = .ok (.dup, 1) := by decide +kernel
theorem dX6_takeShares_41 : decode cX6_takeShares 41 = .ok (.getfield 150, 3) := by decide +kernel
theorem dX6_takeShares_44 : decode cX6_takeShares 44 = .ok (.aload_n 2, 1) := by decide +kernel
theorem dX6_takeShares_45 : decode cX6_takeShares 45 = .ok (.aload_n 0, 1) := by decide +kernel
theorem dX6_takeShares_46 : decode cX6_takeShares 46 = .ok (.getfield 22, 3) := by decide +kernel
theorem dX6_takeShares_49 : decode cX6_takeShares 49 = .ok (.aload_n 2, 1) := by decide +kernel
theorem dX6_takeShares_50 : decode cX6_takeShares 50 = .ok (.getfield 122, 3) := by decide +kernel
theorem dX6_takeShares_53 : decode cX6_takeShares 53 = .ok (.iaload, 1) := by decide +kernel
theorem dX6_takeShares_54 : decode cX6_takeShares 54 = .ok (.invokevirtual 311, 3) := by decide +kernel
theorem dX6_takeShares_57 : decode cX6_takeShares 57 = .ok (.iadd, 1) := by decide +kernel
theorem dX6_takeShares_58 : decode cX6_takeShares 58 = .ok (.putfield 150, 3) := by decide +kernel
theorem dX6_takeShares_61 : decode cX6_takeShares 61 = .ok (.iinc 1 1, 3) := by decide +kernel
theorem dX6_takeShares_64 : decode cX6_takeShares 64 = .ok (.goto (-62), 3) := by decide +kernel
theorem dX6_takeShares_67 : decode cX6_takeShares 67 = .ok (.return_, 1) := by decide +kernel
