theorem dX0_init_0 : decode cX0_init 0 = .ok (.aload_n 0, 1) := by decide +kernel
theorem dX0_init_1 : decode cX0_init 1 = .ok (.invokespecial 1, 3) := by decide +kernel
theorem dX0_init_4 : decode cX0_init 4 = .ok (.aload_n 0, 1) := by decide +kernel
theorem dX0_init_5 : decode cX0_init 5 = .ok (.iload_n 1, 1) := by decide +kernel
theorem dX0_init_6 : decode cX0_init 6 = .ok (.putfield 7, 3) := by decide +kernel
theorem dX0_init_9 : decode cX0_init 9 = .ok (.aload_n 0, 1) := by decide +kernel
theorem dX0_init_10 : decode cX0_init 10 = .ok (.iload_n 2, 1) := by decide +kernel
theorem dX0_init_11 : decode cX0_init 11 = .ok (.putfield 13, 3) := by decide +kernel
theorem dX0_init_14 : decode cX0_init 14 = .ok (.aload_n 0, 1) := by decide +kernel
theorem dX0_init_15 : decode cX0_init 15 = .ok (.iload_n 3, 1) := by decide +kernel
theorem dX0_init_16 : decode cX0_init 16 = .ok (.putfield 16, 3) := by decide +kernel
theorem dX0_init_19 : decode cX0_init 19 = .ok (.return_, 1) := by decide +kernel
theorem dX1_init_0 : decode cX1_init 0 = .ok (.aload_n 0, 1) := by decide +kernel
theorem dX1_init_1 : decode cX1_init 1 = .ok (.invokespecial 1, 3) := by decide +kernel
theorem dX1_init_4 : decode cX1_init 4 = .ok (.aload_n 0, 1) := by decide +kernel
theorem dX1_init_5 : decode cX1_init 5 = .ok (.bipush 10, 2) := by decide +kernel
theorem dX1_init_7 : decode cX1_init 7 = .ok (.putfield 7, 3) := by decide +kernel
theorem dX1_init_10 : decode cX1_init 10 = .ok (.aload_n 0, 1) := by decide +kernel
theorem dX1_init_11 : decode cX1_init 11 = .ok (.ldc 13, 2) := by decide +kernel
theorem dX1_init_13 : decode cX1_init 13 = .ok (.putfield 14, 3) := by decide +kernel
theorem dX1_init_16 : decode cX1_init 16 = .ok (.return_, 1) := by decide +kernel
set_option maxRecDepth 20000 in
theorem ggX1_dutyFor_X6_part : GoodIn wsX1_dutyFor wsX6_part := goodIn_r _ [4] (by decide +kernel) (by decide +kernel)
set_option maxRecDepth 20000 in
theorem gX1_dutyFor_X6_part_n17 : GoodIn wsX1_dutyFor (wsX6_part) := ggX1_dutyFor_X6_part
theorem dX1_dutyFor_0 : decode cX1_dutyFor 0 = .ok (.iload_n 1, 1) := by decide +kernel
theorem dX1_dutyFor_1 : decode cX1_dutyFor 1 = .ok (.aload_n 0, 1) := by decide +kernel
theorem dX1_dutyFor_2 : decode cX1_dutyFor 2 = .ok (.getfield 7, 3) := by decide +kernel
theorem dX1_dutyFor_5 : decode cX1_dutyFor 5 = .ok (.sipush 1000, 3) := by decide +kernel
theorem dX1_dutyFor_8 : decode cX1_dutyFor 8 = .ok (.invokestatic 17, 3) := by decide +kernel
theorem dX1_dutyFor_11 : decode cX1_dutyFor 11 = .ok (.ireturn, 1) := by decide +kernel
set_option maxRecDepth 20000 in
theorem ggX1_chargeWhole_X1_dutyFor : GoodIn wsX1_chargeWhole wsX1_dutyFor := goodIn_r _ [6, 7, 8, 9, 10, 11, 12, 13] (by decide +kernel) (by decide +kernel)
set_option maxRecDepth 20000 in
theorem gX1_chargeWhole_X1_dutyFor : GoodIn wsX1_chargeWhole (wsV RX1 23 RX1 yX1_dutyFor wsX1_dutyFor) := goodIn_app (goodIn_of _ (by decide +kernel)) ggX1_chargeWhole_X1_dutyFor
theorem dX1_chargeWhole_0 : decode cX1_chargeWhole 0 = .ok (.aload_n 0, 1) := by decide +kernel
theorem dX1_chargeWhole_1 : decode cX1_chargeWhole 1 = .ok (.iload_n 1, 1) := by decide +kernel
theorem dX1_chargeWhole_2 : decode cX1_chargeWhole 2 = .ok (.invokevirtual 23, 3) := by decide +kernel
theorem dX1_chargeWhole_5 : decode cX1_chargeWhole 5 = .ok (.istore_n 2, 1) := by decide +kernel
theorem dX1_chargeWhole_6 : decode cX1_chargeWhole 6 = .ok (.aload_n 0, 1) := by decide +kernel
theorem dX1_chargeWhole_7 : decode cX1_chargeWhole 7 = .ok (.dup, 1) := by decide +kernel
theorem dX1_chargeWhole_8 : decode cX1_chargeWhole 8 = .ok (.getfield 27, 3) := by decide +kernel
theorem dX1_chargeWhole_11 : decode cX1_chargeWhole 11 = .ok (.iload_n 2, 1) := by decide +kernel
theorem dX1_chargeWhole_12 : decode cX1_chargeWhole 12 = .ok (.iadd, 1) := by decide +kernel
theorem dX1_chargeWhole_13 : decode cX1_chargeWhole 13 = .ok (.putfield 27, 3) := by decide +kernel
theorem dX1_chargeWhole_16 : decode cX1_chargeWhole 16 = .ok (.iload_n 2, 1) := by decide +kernel
theorem dX1_chargeWhole_17 : decode cX1_chargeWhole 17 = .ok (.ireturn, 1) := by decide +kernel
set_option maxRecDepth 20000 in
theorem ggX1_chargeLeaving_X6_part : GoodIn wsX1_chargeLeaving wsX6_part := goodIn_r _ [10] (by decide +kernel) (by decide +kernel)
set_option maxRecDepth 20000 in
theorem gX1_chargeLeaving_X6_part_n17 : GoodIn wsX1_chargeLeaving (wsX6_part) := ggX1_chargeLeaving_X6_part
set_option maxRecDepth 20000 in
theorem ggX1_chargeLeaving_X1_dutyFor : GoodIn wsX1_chargeLeaving wsX1_dutyFor := goodIn_r _ [15, 6, 8, 9, 10, 16, 17, 18] (by decide +kernel) (by decide +kernel)
set_option maxRecDepth 20000 in
theorem gX1_chargeLeaving_X1_dutyFor : GoodIn wsX1_chargeLeaving (wsV RX1 23 RX1 yX1_dutyFor wsX1_dutyFor) := goodIn_app (goodIn_of _ (by decide +kernel)) ggX1_chargeLeaving_X1_dutyFor
theorem dX1_chargeLeaving_0 : decode cX1_chargeLeaving 0 = .ok (.iload_n 1, 1) := by decide +kernel
theorem dX1_chargeLeaving_1 : decode cX1_chargeLeaving 1 = .ok (.aload_n 0, 1) := by decide +kernel
theorem dX1_chargeLeaving_2 : decode cX1_chargeLeaving 2 = .ok (.getfield 14, 3) := by decide +kernel
theorem dX1_chargeLeaving_5 : decode cX1_chargeLeaving 5 = .ok (.invokestatic 30, 3) := by decide +kernel
theorem dX1_chargeLeaving_8 : decode cX1_chargeLeaving 8 = .ok (.istore_n 2, 1) := by decide +kernel
theorem dX1_chargeLeaving_9 : decode cX1_chargeLeaving 9 = .ok (.aload_n 0, 1) := by decide +kernel
theorem dX1_chargeLeaving_10 : decode cX1_chargeLeaving 10 = .ok (.dup, 1) := by decide +kernel
theorem dX1_chargeLeaving_11 : decode cX1_chargeLeaving 11 = .ok (.getfield 14, 3) := by decide +kernel
theorem dX1_chargeLeaving_14 : decode cX1_chargeLeaving 14 = .ok (.iload_n 2, 1) := by decide +kernel
theorem dX1_chargeLeaving_15 : decode cX1_chargeLeaving 15 = .ok (.isub, 1) := by decide +kernel
theorem dX1_chargeLeaving_16 : decode cX1_chargeLeaving 16 = .ok (.putfield 14, 3) := by decide +kernel
theorem dX1_chargeLeaving_19 : decode cX1_chargeLeaving 19 = .ok (.iload_n 2, 1) := by decide +kernel
theorem dX1_chargeLeaving_20 : decode cX1_chargeLeaving 20 = .ok (.aload_n 0, 1) := by decide +kernel
theorem dX1_chargeLeaving_21 : decode cX1_chargeLeaving 21 = .ok (.getfield 7, 3) := by decide +kernel
theorem dX1_chargeLeaving_24 : decode cX1_chargeLeaving 24 = .ok (.iconst 2, 1) := by decide +kernel
theorem dX1_chargeLeaving_25 : decode cX1_chargeLeaving 25 = .ok (.idiv, 1) := by decide +kernel
theorem dX1_chargeLeaving_26 : decode cX1_chargeLeaving 26 = .ok (.sipush 1000, 3) := by decide +kernel
theorem dX1_chargeLeaving_29 : decode cX1_chargeLeaving 29 = .ok (.invokestatic 17, 3) := by decide +kernel
theorem dX1_chargeLeaving_32 : decode cX1_chargeLeaving 32 = .ok (.aload_n 0, 1) := by decide +kernel
theorem dX1_chargeLeaving_33 : decode cX1_chargeLeaving 33 = .ok (.iload_n 1, 1) := by decide +kernel
theorem dX1_chargeLeaving_34 : decode cX1_chargeLeaving 34 = .ok (.iload_n 2, 1) := by decide +kernel
theorem dX1_chargeLeaving_35 : decode cX1_chargeLeaving 35 = .ok (.isub, 1) := by decide +kernel
theorem dX1_chargeLeaving_36 : decode cX1_chargeLeaving 36 = .ok (.invokevirtual 23, 3) := by decide +kernel
theorem dX1_chargeLeaving_39 : decode cX1_chargeLeaving 39 = .ok (.iadd, 1) := by decide +kernel
theorem dX1_chargeLeaving_40 : decode cX1_chargeLeaving 40 = .ok (.istore_n 3, 1) := by decide +kernel
theorem dX1_chargeLeaving_41 : decode cX1_chargeLeaving 41 = .ok (.aload_n 0, 1) := by decide +kernel
theorem dX1_chargeLeaving_42 : decode cX1_chargeLeaving 42 = .ok (.dup, 1) := by decide +kernel
theorem dX1_chargeLeaving_43 : decode cX1_chargeLeaving 43 = .ok (.getfield 27, 3) := by decide +kernel
theorem dX1_chargeLeaving_46 : decode cX1_chargeLeaving 46 = .ok (.iload_n 3, 1) := by decide +kernel
theorem dX1_chargeLeaving_47 : decode cX1_chargeLeaving 47 = .ok (.iadd, 1) := by decide +kernel
theorem dX1_chargeLeaving_48 : decode cX1_chargeLeaving 48 = .ok (.putfield 27, 3) := by decide +kernel
theorem dX1_chargeLeaving_51 : decode cX1_chargeLeaving 51 = .ok (.iload_n 3, 1) := by decide +kernel
theorem dX1_chargeLeaving_52 : decode cX1_chargeLeaving 52 = .ok (.ireturn, 1) := by decide +kernel
theorem dX1_beginYear_0 : decode cX1_beginYear 0 = .ok (.aload_n 0, 1) := by decide +kernel
theorem dX1_beginYear_1 : decode cX1_beginYear 1 = .ok (.ldc 13, 2) := by decide +kernel
theorem dX1_beginYear_3 : decode cX1_beginYear 3 = .ok (.putfield 14, 3) := by decide +kernel
theorem dX1_beginYear_6 : decode cX1_beginYear 6 = .ok (.return_, 1) := by decide +kernel
theorem dX1_growOwed_0 : decode cX1_growOwed 0 = .ok (.aload_n 0, 1) := by decide +kernel
theorem dX1_growOwed_1 : decode cX1_growOwed 1 = .ok (.getfield 27, 3) := by decide +kernel
theorem dX1_growOwed_4 : decode cX1_growOwed 4 = .ok (.ifCond .le 19, 3) := by decide +kernel
theorem dX1_growOwed_7 : decode cX1_growOwed 7 = .ok (.aload_n 0, 1) := by decide +kernel
theorem dX1_growOwed_8 : decode cX1_growOwed 8 = .ok (.dup, 1) := by decide +kernel
theorem dX1_growOwed_9 : decode cX1_growOwed 9 = .ok (.getfield 27, 3) := by decide +kernel
theorem dX1_growOwed_12 : decode cX1_growOwed 12 = .ok (.aload_n 0, 1) := by decide +kernel
theorem dX1_growOwed_13 : decode cX1_growOwed 13 = .ok (.getfield 27, 3) := by decide +kernel
theorem dX1_growOwed_16 : decode cX1_growOwed 16 = .ok (.bipush 100, 2) := by decide +kernel
theorem dX1_growOwed_18 : decode cX1_growOwed 18 = .ok (.idiv, 1) := by decide +kernel
theorem dX1_growOwed_19 : decode cX1_growOwed 19 = .ok (.iadd, 1) := by decide +kernel
theorem dX1_growOwed_20 : decode cX1_growOwed 20 = .ok (.putfield 27, 3) := by decide +kernel
theorem dX1_growOwed_23 : decode cX1_growOwed 23 = .ok (.return_, 1) := by decide +kernel
theorem dX2_init_0 : decode cX2_init 0 = .ok (.aload_n 0, 1) := by decide +kernel
theorem dX2_init_1 : decode cX2_init 1 = .ok (.invokespecial 1, 3) := by decide +kernel
theorem dX2_init_4 : decode cX2_init 4 = .ok (.return_, 1) := by decide +kernel
theorem dX3_init_0 : decode cX3_init 0 = .ok (.aload_n 0, 1) := by decide +kernel
theorem dX3_init_1 : decode cX3_init 1 = .ok (.invokespecial 1, 3) := by decide +kernel
theorem dX3_init_4 : decode cX3_init 4 = .ok (.aload_n 0, 1) := by decide +kernel
theorem dX3_init_5 : decode cX3_init 5 = .ok (.iload_n 1, 1) := by decide +kernel
theorem dX3_init_6 : decode cX3_init 6 = .ok (.putfield 7, 3) := by decide +kernel
theorem dX3_init_9 : decode cX3_init 9 = .ok (.aload_n 0, 1) := by decide +kernel
theorem dX3_init_10 : decode cX3_init 10 = .ok (.iload_n 2, 1) := by decide +kernel
theorem dX3_init_11 : decode cX3_init 11 = .ok (.putfield 13, 3) := by decide +kernel
theorem dX3_init_14 : decode cX3_init 14 = .ok (.return_, 1) := by decide +kernel
set_option maxRecDepth 20000 in
theorem ggX3_drawBack_X6_part : GoodIn wsX3_drawBack wsX6_part := goodIn_r _ [5] (by decide +kernel) (by decide +kernel)
set_option maxRecDepth 20000 in
theorem gX3_drawBack_X6_part_n16 : GoodIn wsX3_drawBack (wsX6_part) := ggX3_drawBack_X6_part
theorem dX3_drawBack_0 : decode cX3_drawBack 0 = .ok (.aload_n 0, 1) := by decide +kernel
theorem dX3_drawBack_1 : decode cX3_drawBack 1 = .ok (.getfield 13, 3) := by decide +kernel
theorem dX3_drawBack_4 : decode cX3_drawBack 4 = .ok (.iload_n 1, 1) := by decide +kernel
theorem dX3_drawBack_5 : decode cX3_drawBack 5 = .ok (.aload_n 0, 1) := by decide +kernel
theorem dX3_drawBack_6 : decode cX3_drawBack 6 = .ok (.getfield 7, 3) := by decide +kernel
theorem dX3_drawBack_9 : decode cX3_drawBack 9 = .ok (.invokestatic 16, 3) := by decide +kernel
theorem dX3_drawBack_12 : decode cX3_drawBack 12 = .ok (.istore_n 2, 1) := by decide +kernel
theorem dX3_drawBack_13 : decode cX3_drawBack 13 = .ok (.aload_n 0, 1) := by decide +kernel
theorem dX3_drawBack_14 : decode cX3_drawBack 14 = .ok (.dup, 1) := by decide +kernel
theorem dX3_drawBack_15 : decode cX3_drawBack 15 = .ok (.getfield 7, 3) := by decide +kernel
theorem dX3_drawBack_18 : decode cX3_drawBack 18 = .ok (.iload_n 1, 1) := by decide +kernel
theorem dX3_drawBack_19 : decode cX3_drawBack 19 = .ok (.isub, 1) := by decide +kernel
theorem dX3_drawBack_20 : decode cX3_drawBack 20 = .ok (.putfield 7, 3) := by decide +kernel
theorem dX3_drawBack_23 : decode cX3_drawBack 23 = .ok (.aload_n 0, 1) := by decide +kernel
theorem dX3_drawBack_24 : decode cX3_drawBack 24 = .ok (.dup, 1) := by decide +kernel
theorem dX3_drawBack_25 : decode cX3_drawBack 25 = .ok (.getfield 13, 3) := by decide +kernel
theorem dX3_drawBack_28 : decode cX3_drawBack 28 = .ok (.iload_n 2, 1) := by decide +kernel
theorem dX3_drawBack_29 : decode cX3_drawBack 29 = .ok (.isub, 1) := by decide +kernel
theorem dX3_drawBack_30 : decode cX3_drawBack 30 = .ok (.putfield 13, 3) := by decide +kernel
theorem dX3_drawBack_33 : decode cX3_drawBack 33 = .ok (.iload_n 2, 1) := by decide +kernel
theorem dX3_drawBack_34 : decode cX3_drawBack 34 = .ok (.ireturn, 1) := by decide +kernel
theorem dX4_init_0 : decode cX4_init 0 = .ok (.aload_n 0, 1) := by decide +kernel
theorem dX4_init_1 : decode cX4_init 1 = .ok (.invokespecial 3, 3) := by decide +kernel
theorem dX4_init_4 : decode cX4_init 4 = .ok (.aload_n 0, 1) := by decide +kernel
theorem dX4_init_5 : decode cX4_init 5 = .ok (.iconst 0, 1) := by decide +kernel
theorem dX4_init_6 : decode cX4_init 6 = .ok (.putfield 9, 3) := by decide +kernel
theorem dX4_init_9 : decode cX4_init 9 = .ok (.aload_n 0, 1) := by decide +kernel
theorem dX4_init_10 : decode cX4_init 10 = .ok (.aload_n 1, 1) := by decide +kernel
theorem dX4_init_11 : decode cX4_init 11 = .ok (.putfield 15, 3) := by decide +kernel
theorem dX4_init_14 : decode cX4_init 14 = .ok (.aload_n 0, 1) := by decide +kernel
theorem dX4_init_15 : decode cX4_init 15 = .ok (.iload_n 2, 1) := by decide +kernel
theorem dX4_init_16 : decode cX4_init 16 = .ok (.putfield 19, 3) := by decide +kernel
theorem dX4_init_19 : decode cX4_init 19 = .ok (.aload_n 0, 1) := by decide +kernel
theorem dX4_init_20 : decode cX4_init 20 = .ok (.iload_n 3, 1) := by decide +kernel
theorem dX4_init_21 : decode cX4_init 21 = .ok (.putfield 22, 3) := by decide +kernel
theorem dX4_init_24 : decode cX4_init 24 = .ok (.aload_n 0, 1) := by decide +kernel
theorem dX4_init_25 : decode cX4_init 25 = .ok (.iload 4, 2) := by decide +kernel
theorem dX4_init_27 : decode cX4_init 27 = .ok (.putfield 25, 3) := by decide +kernel
theorem dX4_init_30 : decode cX4_init 30 = .ok (.return_, 1) := by decide +kernel
theorem dX5_init_0 : decode cX5_init 0 = .ok (.aload_n 0, 1) := by decide +kernel
theorem dX5_init_1 : decode cX5_init 1 = .ok (.invokespecial 1, 3) := by decide +kernel
theorem dX5_init_4 : decode cX5_init 4 = .ok (.aload_n 0, 1) := by decide +kernel
theorem dX5_init_5 : decode cX5_init 5 = .ok (.iload_n 1, 1) := by decide +kernel
theorem dX5_init_6 : decode cX5_init 6 = .ok (.putfield 7, 3) := by decide +kernel
theorem dX5_init_9 : decode cX5_init 9 = .ok (.aload_n 0, 1) := by decide +kernel
theorem dX5_init_10 : decode cX5_init 10 = .ok (.iload_n 2, 1) := by decide +kernel
theorem dX5_init_11 : decode cX5_init 11 = .ok (.putfield 13, 3) := by decide +kernel
theorem dX5_init_14 : decode cX5_init 14 = .ok (.return_, 1) := by decide +kernel
theorem dX5_has_0 : decode cX5_has 0 = .ok (.iload_n 1, 1) := by decide +kernel
theorem dX5_has_1 : decode cX5_has 1 = .ok (.aload_n 0, 1) := by decide +kernel
theorem dX5_has_2 : decode cX5_has 2 = .ok (.getfield 16, 3) := by decide +kernel
theorem dX5_has_5 : decode cX5_has 5 = .ok (.if_icmp .gt 7, 3) := by decide +kernel
theorem dX5_has_8 : decode cX5_has 8 = .ok (.iconst 1, 1) := by decide +kernel
theorem dX5_has_9 : decode cX5_has 9 = .ok (.goto 4, 3) := by decide +kernel
theorem dX5_has_12 : decode cX5_has 12 = .ok (.iconst 0, 1) := by decide +kernel
theorem dX5_has_13 : decode cX5_has 13 = .ok (.ireturn, 1) := by decide +kernel
theorem dX5_hasRoomFor_0 : decode cX5_hasRoomFor 0 = .ok (.iload_n 1, 1) := by decide +kernel
theorem dX5_hasRoomFor_1 : decode cX5_hasRoomFor 1 = .ok (.aload_n 0, 1) := by decide +kernel
theorem dX5_hasRoomFor_2 : decode cX5_hasRoomFor 2 = .ok (.getfield 13, 3) := by decide +kernel
theorem dX5_hasRoomFor_5 : decode cX5_hasRoomFor 5 = .ok (.aload_n 0, 1) := by decide +kernel
theorem dX5_hasRoomFor_6 : decode cX5_hasRoomFor 6 = .ok (.getfield 16, 3) := by decide +kernel
theorem dX5_hasRoomFor_9 : decode cX5_hasRoomFor 9 = .ok (.isub, 1) := by decide +kernel
theorem dX5_hasRoomFor_10 : decode cX5_hasRoomFor 10 = .ok (.if_icmp .gt 7, 3) := by decide +kernel
theorem dX5_hasRoomFor_13 : decode cX5_hasRoomFor 13 = .ok (.iconst 1, 1) := by decide +kernel
theorem dX5_hasRoomFor_14 : decode cX5_hasRoomFor 14 = .ok (.goto 4, 3) := by decide +kernel
theorem dX5_hasRoomFor_17 : decode cX5_hasRoomFor 17 = .ok (.iconst 0, 1) := by decide +kernel
theorem dX5_hasRoomFor_18 : decode cX5_hasRoomFor 18 = .ok (.ireturn, 1) := by decide +kernel
set_option maxRecDepth 20000 in
theorem ggX5_dropsOf_X6_part : GoodIn wsX5_dropsOf wsX6_part := goodIn_r _ [5] (by decide +kernel) (by decide +kernel)
set_option maxRecDepth 20000 in
theorem gX5_dropsOf_X6_part_n22 : GoodIn wsX5_dropsOf (wsX6_part) := ggX5_dropsOf_X6_part
theorem dX5_dropsOf_0 : decode cX5_dropsOf 0 = .ok (.aload_n 0, 1) := by decide +kernel
theorem dX5_dropsOf_1 : decode cX5_dropsOf 1 = .ok (.getfield 19, 3) := by decide +kernel
theorem dX5_dropsOf_4 : decode cX5_dropsOf 4 = .ok (.iload_n 1, 1) := by decide +kernel
theorem dX5_dropsOf_5 : decode cX5_dropsOf 5 = .ok (.aload_n 0, 1) := by decide +kernel
theorem dX5_dropsOf_6 : decode cX5_dropsOf 6 = .ok (.getfield 16, 3) := by decide +kernel
theorem dX5_dropsOf_9 : decode cX5_dropsOf 9 = .ok (.invokestatic 22, 3) := by decide +kernel
theorem dX5_dropsOf_12 : decode cX5_dropsOf 12 = .ok (.ireturn, 1) := by decide +kernel
set_option maxRecDepth 20000 in
theorem ggX5_takeOut_X5_dropsOf : GoodIn wsX5_takeOut wsX5_dropsOf := goodIn_r _ [7, 2, 1, 8, 9, 10, 11, 12, 13, 14] (by decide +kernel) (by decide +kernel)
set_option maxRecDepth 20000 in
theorem gX5_takeOut_X5_dropsOf : GoodIn wsX5_takeOut (wsV RX5 28 RX5 yX5_dropsOf wsX5_dropsOf) := goodIn_app (goodIn_of _ (by decide +kernel)) ggX5_takeOut_X5_dropsOf
theorem dX5_takeOut_0 : decode cX5_takeOut 0 = .ok (.aload_n 0, 1) := by decide +kernel
theorem dX5_takeOut_1 : decode cX5_takeOut 1 = .ok (.iload_n 1, 1) := by decide +kernel
theorem dX5_takeOut_2 : decode cX5_takeOut 2 = .ok (.invokevirtual 28, 3) := by decide +kernel
theorem dX5_takeOut_5 : decode cX5_takeOut 5 = .ok (.istore_n 2, 1) := by decide +kernel
theorem dX5_takeOut_6 : decode cX5_takeOut 6 = .ok (.aload_n 0, 1) := by decide +kernel
theorem dX5_takeOut_7 : decode cX5_takeOut 7 = .ok (.dup, 1) := by decide +kernel
theorem dX5_takeOut_8 : decode cX5_takeOut 8 = .ok (.getfield 16, 3) := by decide +kernel
theorem dX5_takeOut_11 : decode cX5_takeOut 11 = .ok (.iload_n 1, 1) := by decide +kernel
theorem dX5_takeOut_12 : decode cX5_takeOut 12 = .ok (.isub, 1) := by decide +kernel
theorem dX5_takeOut_13 : decode cX5_takeOut 13 = .ok (.putfield 16, 3) := by decide +kernel
theorem dX5_takeOut_16 : decode cX5_takeOut 16 = .ok (.aload_n 0, 1) := by decide +kernel
theorem dX5_takeOut_17 : decode cX5_takeOut 17 = .ok (.dup, 1) := by decide +kernel
theorem dX5_takeOut_18 : decode cX5_takeOut 18 = .ok (.getfield 19, 3) := by decide +kernel
theorem dX5_takeOut_21 : decode cX5_takeOut 21 = .ok (.iload_n 2, 1) := by decide +kernel
theorem dX5_takeOut_22 : decode cX5_takeOut 22 = .ok (.isub, 1) := by decide +kernel
theorem dX5_takeOut_23 : decode cX5_takeOut 23 = .ok (.putfield 19, 3) := by decide +kernel
theorem dX5_takeOut_26 : decode cX5_takeOut 26 = .ok (.iload_n 2, 1) := by decide +kernel
theorem dX5_takeOut_27 : decode cX5_takeOut 27 = .ok (.ireturn, 1) := by decide +kernel
set_option maxRecDepth 20000 in
theorem ggX5_comeIn_X6_part : GoodIn wsX5_comeIn wsX6_part := goodIn_r _ [12] (by decide +kernel) (by decide +kernel)
set_option maxRecDepth 20000 in
theorem gX5_comeIn_X6_part_n22 : GoodIn wsX5_comeIn (wsX6_part) := ggX5_comeIn_X6_part
theorem dX5_comeIn_0 : decode cX5_comeIn 0 = .ok (.aload_n 0, 1) := by decide +kernel
theorem dX5_comeIn_1 : decode cX5_comeIn 1 = .ok (.getfield 19, 3) := by decide +kernel
theorem dX5_comeIn_4 : decode cX5_comeIn 4 = .ok (.iconst 1, 1) := by decide +kernel
theorem dX5_comeIn_5 : decode cX5_comeIn 5 = .ok (.aload_n 0, 1) := by decide +kernel
theorem dX5_comeIn_6 : decode cX5_comeIn 6 = .ok (.getfield 16, 3) := by decide +kernel
theorem dX5_comeIn_9 : decode cX5_comeIn 9 = .ok (.invokestatic 22, 3) := by decide +kernel
theorem dX5_comeIn_12 : decode cX5_comeIn 12 = .ok (.iload_n 2, 1) := by decide +kernel
theorem dX5_comeIn_13 : decode cX5_comeIn 13 = .ok (.iconst 1, 1) := by decide +kernel
theorem dX5_comeIn_14 : decode cX5_comeIn 14 = .ok (.iload_n 1, 1) := by decide +kernel
theorem dX5_comeIn_15 : decode cX5_comeIn 15 = .ok (.invokestatic 22, 3) := by decide +kernel
theorem dX5_comeIn_18 : decode cX5_comeIn 18 = .ok (.isub, 1) := by decide +kernel
theorem dX5_comeIn_19 : decode cX5_comeIn 19 = .ok (.invokestatic 32, 3) := by decide +kernel
theorem dX5_comeIn_22 : decode cX5_comeIn 22 = .ok (.istore_n 3, 1) := by decide +kernel
theorem dX5_comeIn_23 : decode cX5_comeIn 23 = .ok (.aload_n 0, 1) := by decide +kernel
theorem dX5_comeIn_24 : decode cX5_comeIn 24 = .ok (.getfield 16, 3) := by decide +kernel
theorem dX5_comeIn_27 : decode cX5_comeIn 27 = .ok (.iload_n 1, 1) := by decide +kernel
theorem dX5_comeIn_28 : decode cX5_comeIn 28 = .ok (.invokestatic 37, 3) := by decide +kernel
theorem dX5_comeIn_31 : decode cX5_comeIn 31 = .ok (.iload_n 3, 1) := by decide +kernel
theorem dX5_comeIn_32 : decode cX5_comeIn 32 = .ok (.sipush 10000, 3) := by decide +kernel
theorem dX5_comeIn_35 : decode cX5_comeIn 35 = .ok (.invokestatic 22, 3) := by decide +kernel
theorem dX5_comeIn_38 : decode cX5_comeIn 38 = .ok (.istore 4, 2) := by decide +kernel
theorem dX5_comeIn_40 : decode cX5_comeIn 40 = .ok (.aload_n 0, 1) := by decide +kernel
theorem dX5_comeIn_41 : decode cX5_comeIn 41 = .ok (.dup, 1) := by decide +kernel
theorem dX5_comeIn_42 : decode cX5_comeIn 42 = .ok (.getfield 16, 3) := by decide +kernel
theorem dX5_comeIn_45 : decode cX5_comeIn 45 = .ok (.iload_n 1, 1) := by decide +kernel
theorem dX5_comeIn_46 : decode cX5_comeIn 46 = .ok (.iload 4, 2) := by decide +kernel
theorem dX5_comeIn_48 : decode cX5_comeIn 48 = .ok (.isub, 1) := by decide +kernel
theorem dX5_comeIn_49 : decode cX5_comeIn 49 = .ok (.iadd, 1) := by decide +kernel
theorem dX5_comeIn_50 : decode cX5_comeIn 50 = .ok (.putfield 16, 3) := by decide +kernel
theorem dX5_comeIn_53 : decode cX5_comeIn 53 = .ok (.aload_n 0, 1) := by decide +kernel
theorem dX5_comeIn_54 : decode cX5_comeIn 54 = .ok (.dup, 1) := by decide +kernel
theorem dX5_comeIn_55 : decode cX5_comeIn 55 = .ok (.getfield 19, 3) := by decide +kernel
theorem dX5_comeIn_58 : decode cX5_comeIn 58 = .ok (.iload_n 2, 1) := by decide +kernel
theorem dX5_comeIn_59 : decode cX5_comeIn 59 = .ok (.iadd, 1) := by decide +kernel
theorem dX5_comeIn_60 : decode cX5_comeIn 60 = .ok (.putfield 19, 3) := by decide +kernel
theorem dX5_comeIn_63 : decode cX5_comeIn 63 = .ok (.return_, 1) := by decide +kernel
set_option maxRecDepth 20000 in
theorem ggX5_takeShare_X6_part : GoodIn wsX5_takeShare wsX6_part := goodIn_r _ [6] (by decide +kernel) (by decide +kernel)
set_option maxRecDepth 20000 in
theorem gX5_takeShare_X6_part_n22 : GoodIn wsX5_takeShare (wsX6_part) := ggX5_takeShare_X6_part
theorem dX5_takeShare_0 : decode cX5_takeShare 0 = .ok (.aload_n 0, 1) := by decide +kernel
theorem dX5_takeShare_1 : decode cX5_takeShare 1 = .ok (.getfield 19, 3) := by decide +kernel
theorem dX5_takeShare_4 : decode cX5_takeShare 4 = .ok (.iload_n 1, 1) := by decide +kernel
theorem dX5_takeShare_5 : decode cX5_takeShare 5 = .ok (.ldc 41, 2) := by decide +kernel
theorem dX5_takeShare_7 : decode cX5_takeShare 7 = .ok (.invokestatic 22, 3) := by decide +kernel
theorem dX5_takeShare_10 : decode cX5_takeShare 10 = .ok (.istore_n 2, 1) := by decide +kernel
theorem dX5_takeShare_11 : decode cX5_takeShare 11 = .ok (.aload_n 0, 1) := by decide +kernel
theorem dX5_takeShare_12 : decode cX5_takeShare 12 = .ok (.dup, 1) := by decide +kernel
theorem dX5_takeShare_13 : decode cX5_takeShare 13 = .ok (.getfield 19, 3) := by decide +kernel
theorem dX5_takeShare_16 : decode cX5_takeShare 16 = .ok (.iload_n 2, 1) := by decide +kernel
theorem dX5_takeShare_17 : decode cX5_takeShare 17 = .ok (.isub, 1) := by decide +kernel
theorem dX5_takeShare_18 : decode cX5_takeShare 18 = .ok (.putfield 19, 3) := by decide +kernel
theorem dX5_takeShare_21 : decode cX5_takeShare 21 = .ok (.aload_n 0, 1) := by decide +kernel
theorem dX5_takeShare_22 : decode cX5_takeShare 22 = .ok (.dup, 1) := by decide +kernel
theorem dX5_takeShare_23 : decode cX5_takeShare 23 = .ok (.getfield 16, 3) := by decide +kernel
theorem dX5_takeShare_26 : decode cX5_takeShare 26 = .ok (.aload_n 0, 1) := by decide +kernel
theorem dX5_takeShare_27 : decode cX5_takeShare 27 = .ok (.getfield 16, 3) := by decide +kernel
theorem dX5_takeShare_30 : decode cX5_takeShare 30 = .ok (.iload_n 1, 1) := by decide +kernel
theorem dX5_takeShare_31 : decode cX5_takeShare 31 = .ok (.ldc 41, 2) := by decide +kernel
theorem dX5_takeShare_33 : decode cX5_takeShare 33 = .ok (.invokestatic 22, 3) := by decide +kernel
theorem dX5_takeShare_36 : decode cX5_takeShare 36 = .ok (.isub, 1) := by decide +kernel
theorem dX5_takeShare_37 : decode cX5_takeShare 37 = .ok (.putfield 16, 3) := by decide +kernel
theorem dX5_takeShare_40 : decode cX5_takeShare 40 = .ok (.iload_n 2, 1) := by decide +kernel
theorem dX5_takeShare_41 : decode cX5_takeShare 41 = .ok (.ireturn, 1) := by decide +kernel
set_option maxRecDepth 20000 in
theorem ggX6_init_Jx4a65c_init_da8c8 : GoodIn wsX6_init wsJx4a65c_init_da8c8 := goodIn_r _ [22, 23, 24, 25, 26, 27, 28, 29, 30, 31, 32, 33, 34, 2, 3, 44, 45, 46] (by decide +kernel) (by decide +kernel)
set_option maxRecDepth 20000 in
theorem gX6_init_Jx4a65c_init_da8c8 : GoodIn wsX6_init (wsJx4a65c_init_da8c8) := ggX6_init_Jx4a65c_init_da8c8
set_option maxRecDepth 20000 in
theorem ggX6_init_X1_init : GoodIn wsX6_init wsX1_init := goodIn_r _ [36, 37, 2, 3, 38, 39, 40, 59, 60, 61] (by decide +kernel) (by decide +kernel)
set_option maxRecDepth 20000 in
theorem gX6_init_X1_init_n28 : GoodIn wsX6_init (wsX1_init) := ggX6_init_X1_init
set_option maxRecDepth 20000 in
theorem ggX6_init_X2_init : GoodIn wsX6_init wsX2_init := goodIn_r _ [42, 43, 2, 3] (by decide +kernel) (by decide +kernel)
set_option maxRecDepth 20000 in
theorem gX6_init_X2_init_n35 : GoodIn wsX6_init (wsX2_init) := ggX6_init_X2_init
theorem dX6_init_0 : decode cX6_init 0 = .ok (.aload_n 0, 1) := by decide +kernel
theorem dX6_init_1 : decode cX6_init 1 = .ok (.invokespecial 1, 3) := by decide +kernel
theorem dX6_init_4 : decode cX6_init 4 = .ok (.aload_n 0, 1) := by decide +kernel
theorem dX6_init_5 : decode cX6_init 5 = .ok (.new 7, 3) := by decide +kernel
theorem dX6_init_8 : decode cX6_init 8 = .ok (.dup, 1) := by decide +kernel
theorem dX6_init_9 : decode cX6_init 9 = .ok (.invokespecial 9, 3) := by decide +kernel
theorem dX6_init_12 : decode cX6_init 12 = .ok (.putfield 10, 3) := by decide +kernel
theorem dX6_init_15 : decode cX6_init 15 = .ok (.aload_n 0, 1) := by decide +kernel
theorem dX6_init_16 : decode cX6_init 16 = .ok (.new 7, 3) := by decide +kernel
theorem dX6_init_19 : decode cX6_init 19 = .ok (.dup, 1) := by decide +kernel
theorem dX6_init_20 : decode cX6_init 20 = .ok (.invokespecial 9, 3) := by decide +kernel
theorem dX6_init_23 : decode cX6_init 23 = .ok (.putfield 16, 3) := by decide +kernel
theorem dX6_init_26 : decode cX6_init 26 = .ok (.aload_n 0, 1) := by decide +kernel
theorem dX6_init_27 : decode cX6_init 27 = .ok (.new 7, 3) := by decide +kernel
theorem dX6_init_30 : decode cX6_init 30 = .ok (.dup, 1) := by decide +kernel
theorem dX6_init_31 : decode cX6_init 31 = .ok (.invokespecial 9, 3) := by decide +kernel
theorem dX6_init_34 : decode cX6_init 34 = .ok (.putfield 19, 3) := by decide +kernel
theorem dX6_init_37 : decode cX6_init 37 = .ok (.aload_n 0, 1) := by decide +kernel
theorem dX6_init_38 : decode cX6_init 38 = .ok (.iconst 4, 1) := by decide +kernel
theorem dX6_init_39 : decode cX6_init 39 = .ok (.newarray .int, 2) := by decide +kernel
theorem dX6_init_41 : decode cX6_init 41 = .ok (.putfield 22, 3) := by decide +kernel
theorem dX6_init_44 : decode cX6_init 44 = .ok (.aload_n 0, 1) := by decide +kernel
theorem dX6_init_45 : decode cX6_init 45 = .ok (.new 26, 3) := by decide +kernel
theorem dX6_init_48 : decode cX6_init 48 = .ok (.dup, 1) := by decide +kernel
theorem dX6_init_49 : decode cX6_init 49 = .ok (.invokespecial 28, 3) := by decide +kernel
theorem dX6_init_52 : decode cX6_init 52 = .ok (.putfield 29, 3) := by decide +kernel
theorem dX6_init_55 : decode cX6_init 55 = .ok (.aload_n 0, 1) := by decide +kernel
theorem dX6_init_56 : decode cX6_init 56 = .ok (.new 33, 3) := by decide +kernel
theorem dX6_init_59 : decode cX6_init 59 = .ok (.dup, 1) := by decide +kernel
theorem dX6_init_60 : decode cX6_init 60 = .ok (.invokespecial 35, 3) := by decide +kernel
theorem dX6_init_63 : decode cX6_init 63 = .ok (.putfield 36, 3) := by decide +kernel
theorem dX6_init_66 : decode cX6_init 66 = .ok (.return_, 1) := by decide +kernel
set_option maxRecDepth 20000 in
theorem ggX6_vessel_X6_isPlace : GoodIn wsX6_vessel wsX6_isPlace := goodIn_r _ [15, 16, 88, 89, 90, 91, 92, 93, 94, 95, 96, 97, 98, 99] (by decide +kernel) (by decide +kernel)
set_option maxRecDepth 20000 in
theorem gX6_vessel_X6_isPlace : GoodIn wsX6_vessel (wsV RX6 40 RX6 yX6_isPlace wsX6_isPlace) := goodIn_app (goodIn_of _ (by decide +kernel)) ggX6_vessel_X6_isPlace
set_option maxRecDepth 20000 in
theorem ggX6_vessel_X6_isWithin : GoodIn wsX6_vessel wsX6_isWithin := goodIn_r _ [19] (by decide +kernel) (by decide +kernel)
set_option maxRecDepth 20000 in
theorem gX6_vessel_X6_isWithin : GoodIn wsX6_vessel (va_wsS RX6 51 yX6_isWithin wsX6_isWithin) := goodIn_app (goodIn_of _ (by decide +kernel)) ggX6_vessel_X6_isWithin
set_option maxRecDepth 20000 in
theorem ggX6_vessel_Jx4a65c_size_8abf5 : GoodIn wsX6_vessel wsJx4a65c_size_8abf5 := goodIn_r _ [24, 25, 104, 105, 106] (by decide +kernel) (by decide +kernel)
set_option maxRecDepth 20000 in
theorem gX6_vessel_Jx4a65c_size_8abf5 : GoodIn wsX6_vessel (wsV RX6 60 RJx4a65c yJx4a65c_size_8abf5 wsJx4a65c_size_8abf5) := goodIn_app (goodIn_of _ (by decide +kernel)) ggX6_vessel_Jx4a65c_size_8abf5
set_option maxRecDepth 20000 in
theorem ggX6_vessel_X5_init : GoodIn wsX6_vessel wsX5_init := goodIn_r _ [28, 29, 30, 31, 32, 33, 100, 101, 102, 103] (by decide +kernel) (by decide +kernel)
set_option maxRecDepth 20000 in
theorem gX6_vessel_X5_init : GoodIn wsX6_vessel (wsX5_init) := ggX6_vessel_X5_init
set_option maxRecDepth 20000 in
theorem ggX6_vessel_Jx4a65c_add_9ea2d : GoodIn wsX6_vessel wsJx4a65c_add_9ea2d := goodIn_r _ [37, 38, 39, 40, 25, 41, 42, 43, 23, 44, 45, 46, 47, 48, 49, 50, 51, 52, 53, 54, 55, 56, 57, 58, 59, 60, 61, 62, 63, 64, 65, 66, 67, 68, 69, 70, 71, 72, 73, 74, 75, 76, 77, 78, 79, 80, 81, 82, 83, 84, 85, 86, 87, 104, 105, 106] (by decide +kernel) (by decide +kernel)
set_option maxRecDepth 20000 in
theorem gX6_vessel_Jx4a65c_add_9ea2d : GoodIn wsX6_vessel (wsV RX6 74 RJx4a65c yJx4a65c_add_9ea2d wsJx4a65c_add_9ea2d) := goodIn_app (goodIn_of _ (by decide +kernel)) ggX6_vessel_Jx4a65c_add_9ea2d
theorem dX6_vessel_0 : decode cX6_vessel 0 = .ok (.aload_n 0, 1) := by decide +kernel
theorem dX6_vessel_1 : decode cX6_vessel 1 = .ok (.iload_n 1, 1) := by decide +kernel
theorem dX6_vessel_2 : decode cX6_vessel 2 = .ok (.invokevirtual 40, 3) := by decide +kernel
theorem dX6_vessel_5 : decode cX6_vessel 5 = .ok (.ifCond .ne 13, 3) := by decide +kernel
theorem dX6_vessel_8 : decode cX6_vessel 8 = .ok (.new 44, 3) := by decide +kernel
theorem dX6_vessel_11 : decode cX6_vessel 11 = .ok (.dup, 1) := by decide +kernel
theorem dX6_vessel_12 : decode cX6_vessel 12 = .ok (.ldc 46, 2) := by decide +kernel
theorem dX6_vessel_14 : decode cX6_vessel 14 = .ok (.invokespecial 48, 3) := by decide +kernel
theorem dX6_vessel_17 : decode cX6_vessel 17 = .ok (.athrow, 1) := by decide +kernel
theorem dX6_vessel_18 : decode cX6_vessel 18 = .ok (.iload_n 2, 1) := by decide +kernel
theorem dX6_vessel_19 : decode cX6_vessel 19 = .ok (.iconst 1, 1) := by decide +kernel
theorem dX6_vessel_20 : decode cX6_vessel 20 = .ok (.sipush 9999, 3) := by decide +kernel
theorem dX6_vessel_23 : decode cX6_vessel 23 = .ok (.invokestatic 51, 3) := by decide +kernel
theorem dX6_vessel_26 : decode cX6_vessel 26 = .ok (.ifCond .ne 13, 3) := by decide +kernel
theorem dX6_vessel_29 : decode cX6_vessel 29 = .ok (.new 55, 3) := by decide +kernel
theorem dX6_vessel_32 : decode cX6_vessel 32 = .ok (.dup, 1) := by decide +kernel
theorem dX6_vessel_33 : decode cX6_vessel 33 = .ok (.ldc 57, 2) := by decide +kernel
theorem dX6_vessel_35 : decode cX6_vessel 35 = .ok (.invokespecial 59, 3) := by decide +kernel
theorem dX6_vessel_38 : decode cX6_vessel 38 = .ok (.athrow, 1) := by decide +kernel
theorem dX6_vessel_39 : decode cX6_vessel 39 = .ok (.aload_n 0, 1) := by decide +kernel
theorem dX6_vessel_40 : decode cX6_vessel 40 = .ok (.getfield 10, 3) := by decide +kernel
theorem dX6_vessel_43 : decode cX6_vessel 43 = .ok (.invokevirtual 60, 3) := by decide +kernel
theorem dX6_vessel_46 : decode cX6_vessel 46 = .ok (.bipush 10, 2) := by decide +kernel
theorem dX6_vessel_48 : decode cX6_vessel 48 = .ok (.if_icmp .lt 13, 3) := by decide +kernel
theorem dX6_vessel_51 : decode cX6_vessel 51 = .ok (.new 64, 3) := by decide +kernel
theorem dX6_vessel_54 : decode cX6_vessel 54 = .ok (.dup, 1) := by decide +kernel
theorem dX6_vessel_55 : decode cX6_vessel 55 = .ok (.ldc 66, 2) := by decide +kernel
theorem dX6_vessel_57 : decode cX6_vessel 57 = .ok (.invokespecial 68, 3) := by decide +kernel
theorem dX6_vessel_60 : decode cX6_vessel 60 = .ok (.athrow, 1) := by decide +kernel
theorem dX6_vessel_61 : decode cX6_vessel 61 = .ok (.aload_n 0, 1) := by decide +kernel
theorem dX6_vessel_62 : decode cX6_vessel 62 = .ok (.getfield 10, 3) := by decide +kernel
theorem dX6_vessel_65 : decode cX6_vessel 65 = .ok (.new 69, 3) := by decide +kernel
theorem dX6_vessel_68 : decode cX6_vessel 68 = .ok (.dup, 1) := by decide +kernel
theorem dX6_vessel_69 : decode cX6_vessel 69 = .ok (.iload_n 1, 1) := by decide +kernel
theorem dX6_vessel_70 : decode cX6_vessel 70 = .ok (.iload_n 2, 1) := by decide +kernel
theorem dX6_vessel_71 : decode cX6_vessel 71 = .ok (.invokespecial 71, 3) := by decide +kernel
theorem dX6_vessel_74 : decode cX6_vessel 74 = .ok (.invokevirtual 74, 3) := by decide +kernel
theorem dX6_vessel_77 : decode cX6_vessel 77 = .ok (.pop, 1) := by decide +kernel
theorem dX6_vessel_78 : decode cX6_vessel 78 = .ok (.aload_n 0, 1) := by decide +kernel
theorem dX6_vessel_79 : decode cX6_vessel 79 = .ok (.getfield 10, 3) := by decide +kernel
theorem dX6_vessel_82 : decode cX6_vessel 82 = .ok (.invokevirtual 60, 3) := by decide +kernel
theorem dX6_vessel_85 : decode cX6_vessel 85 = .ok (.iconst 1, 1) := by decide +kernel
theorem dX6_vessel_86 : decode cX6_vessel 86 = .ok (.isub, 1) := by decide +kernel
theorem dX6_vessel_87 : decode cX6_vessel 87 = .ok (.ireturn, 1) := by decide +kernel
set_option maxRecDepth 20000 in
theorem ggX6_shares_X6_isPlace : GoodIn wsX6_shares wsX6_isPlace := goodIn_r _ [10, 5, 14, 15, 16, 17, 18, 19, 20, 21, 22, 23, 24, 25] (by decide +kernel) (by decide +kernel)
set_option maxRecDepth 20000 in
theorem gX6_shares_X6_isPlace : GoodIn wsX6_shares (wsV RX6 40 RX6 yX6_isPlace wsX6_isPlace) := goodIn_app (goodIn_of _ (by decide +kernel)) ggX6_shares_X6_isPlace
set_option maxRecDepth 20000 in
theorem ggX6_shares_X6_isWithin : GoodIn wsX6_shares wsX6_isWithin := goodIn_r _ [13] (by decide +kernel) (by decide +kernel)
set_option maxRecDepth 20000 in
theorem gX6_shares_X6_isWithin : GoodIn wsX6_shares (va_wsS RX6 51 yX6_isWithin wsX6_isWithin) := goodIn_app (goodIn_of _ (by decide +kernel)) ggX6_shares_X6_isWithin
theorem dX6_shares_0 : decode cX6_shares 0 = .ok (.aload_n 0, 1) := by decide +kernel
theorem dX6_shares_1 : decode cX6_shares 1 = .ok (.iload_n 1, 1) := by decide +kernel
theorem dX6_shares_2 : decode cX6_shares 2 = .ok (.invokevirtual 40, 3) := by decide +kernel
theorem dX6_shares_5 : decode cX6_shares 5 = .ok (.ifCond .ne 13, 3) := by decide +kernel
theorem dX6_shares_8 : decode cX6_shares 8 = .ok (.new 44, 3) := by decide +kernel
theorem dX6_shares_11 : decode cX6_shares 11 = .ok (.dup, 1) := by decide +kernel
theorem dX6_shares_12 : decode cX6_shares 12 = .ok (.ldc 46, 2) := by decide +kernel
theorem dX6_shares_14 : decode cX6_shares 14 = .ok (.invokespecial 48, 3) := by decide +kernel
theorem dX6_shares_17 : decode cX6_shares 17 = .ok (.athrow, 1) := by decide +kernel
theorem dX6_shares_18 : decode cX6_shares 18 = .ok (.iload_n 2, 1) := by decide +kernel
theorem dX6_shares_19 : decode cX6_shares 19 = .ok (.iconst 0, 1) := by decide +kernel
theorem dX6_shares_20 : decode cX6_shares 20 = .ok (.sipush 500, 3) := by decide +kernel
theorem dX6_shares_23 : decode cX6_shares 23 = .ok (.invokestatic 51, 3) := by decide +kernel
theorem dX6_shares_26 : decode cX6_shares 26 = .ok (.ifCond .ne 13, 3) := by decide +kernel
theorem dX6_shares_29 : decode cX6_shares 29 = .ok (.new 55, 3) := by decide +kernel
theorem dX6_shares_32 : decode cX6_shares 32 = .ok (.dup, 1) := by decide +kernel
theorem dX6_shares_33 : decode cX6_shares 33 = .ok (.ldc 78, 2) := by decide +kernel
theorem dX6_shares_35 : decode cX6_shares 35 = .ok (.invokespecial 59, 3) := by decide +kernel
theorem dX6_shares_38 : decode cX6_shares 38 = .ok (.athrow, 1) := by decide +kernel
theorem dX6_shares_39 : decode cX6_shares 39 = .ok (.aload_n 0, 1) := by decide +kernel
theorem dX6_shares_40 : decode cX6_shares 40 = .ok (.getfield 22, 3) := by decide +kernel
theorem dX6_shares_43 : decode cX6_shares 43 = .ok (.iload_n 1, 1) := by decide +kernel
theorem dX6_shares_44 : decode cX6_shares 44 = .ok (.iaload, 1) := by decide +kernel
theorem dX6_shares_45 : decode cX6_shares 45 = .ok (.istore_n 3, 1) := by decide +kernel
theorem dX6_shares_46 : decode cX6_shares 46 = .ok (.aload_n 0, 1) := by decide +kernel
theorem dX6_shares_47 : decode cX6_shares 47 = .ok (.getfield 22, 3) := by decide +kernel
theorem dX6_shares_50 : decode cX6_shares 50 = .ok (.iload_n 1, 1) := by decide +kernel
theorem dX6_shares_51 : decode cX6_shares 51 = .ok (.iload_n 2, 1) := by decide +kernel
theorem dX6_shares_52 : decode cX6_shares 52 = .ok (.iastore, 1) := by decide +kernel
theorem dX6_shares_53 : decode cX6_shares 53 = .ok (.iload_n 3, 1) := by decide +kernel
theorem dX6_shares_54 : decode cX6_shares 54 = .ok (.ireturn, 1) := by decide +kernel
set_option maxRecDepth 20000 in
theorem ggX6_run_X6_vesselOf : GoodIn wsX6_run wsX6_vesselOf := goodIn_ca (goodIn_r _ [16, 17, 18, 19, 20, 21, 22, 23, 24, 25, 26, 27, 28, 29, 30, 31, 32, 33, 34, 35, 36, 37, 38, 39, 40, 41, 42, 43, 79, 80, 81, 82, 83, 84, 85, 86, 87, 88, 89, 90, 96, 97, 98] (by decide +kernel) (by decide +kernel)) (goodIn_sub (fun _ h => List.mem_cons_of_mem _ (List.mem_append_right _ h)) (by decide +kernel))
set_option maxRecDepth 20000 in
theorem gX6_run_X6_vesselOf : GoodIn wsX6_run (wsV RX6 80 RX6 yX6_vesselOf wsX6_vesselOf) := goodIn_app (goodIn_of _ (by decide +kernel)) ggX6_run_X6_vesselOf
set_option maxRecDepth 20000 in
theorem ggX6_run_X6_isWithin : GoodIn wsX6_run wsX6_isWithin := goodIn_r _ [46] (by decide +kernel) (by decide +kernel)
set_option maxRecDepth 20000 in
theorem gX6_run_X6_isWithin : GoodIn wsX6_run (va_wsS RX6 51 yX6_isWithin wsX6_isWithin) := goodIn_app (goodIn_of _ (by decide +kernel)) ggX6_run_X6_isWithin
set_option maxRecDepth 20000 in
theorem ggX6_run_X5_hasRoomFor : GoodIn wsX6_run wsX5_hasRoomFor := goodIn_r _ [51, 52, 53, 99, 100, 101, 102] (by decide +kernel) (by decide +kernel)
set_option maxRecDepth 20000 in
theorem gX6_run_X5_hasRoomFor : GoodIn wsX6_run (wsV RX6 88 RX5 yX5_hasRoomFor wsX5_hasRoomFor) := goodIn_app (goodIn_of _ (by decide +kernel)) ggX6_run_X5_hasRoomFor
set_option maxRecDepth 20000 in
theorem ggX6_run_X5_comeIn : GoodIn wsX6_run wsX5_comeIn := goodIn_r _ [57, 58, 53, 59, 60, 9, 61, 62, 63, 64, 65, 15, 66, 99, 100, 101, 102] (by decide +kernel) (by decide +kernel)
set_option maxRecDepth 20000 in
theorem gX6_run_X5_comeIn : GoodIn wsX6_run (wsV RX6 97 RX5 yX5_comeIn wsX5_comeIn) := goodIn_app (goodIn_of _ (by decide +kernel)) ggX6_run_X5_comeIn
set_option maxRecDepth 20000 in
theorem ggX6_run_X6_part : GoodIn wsX6_run wsX6_part := goodIn_r _ [66] (by decide +kernel) (by decide +kernel)
set_option maxRecDepth 20000 in
theorem gX6_run_X6_part : GoodIn wsX6_run (va_wsS RX6 103 yX6_part wsX6_part) := goodIn_app (goodIn_of _ (by decide +kernel)) ggX6_run_X6_part
set_option maxRecDepth 20000 in
theorem ggX6_run_X1_chargeWhole : GoodIn wsX6_run wsX1_chargeWhole := goodIn_r _ [72, 73, 74, 75, 76, 71, 77, 78, 65, 15, 66, 103, 104, 105] (by decide +kernel) (by decide +kernel)
set_option maxRecDepth 20000 in
theorem gX6_run_X1_chargeWhole : GoodIn wsX6_run (wsV RX6 116 RX1 yX1_chargeWhole wsX1_chargeWhole) := goodIn_app (goodIn_of _ (by decide +kernel)) ggX6_run_X1_chargeWhole
theorem dX6_run_0 : decode cX6_run 0 = .ok (.aload_n 0, 1) := by decide +kernel
theorem dX6_run_1 : decode cX6_run 1 = .ok (.iload_n 1, 1) := by decide +kernel
theorem dX6_run_2 : decode cX6_run 2 = .ok (.invokevirtual 80, 3) := by decide +kernel
theorem dX6_run_5 : decode cX6_run 5 = .ok (.astore 6, 2) := by decide +kernel
theorem dX6_run_7 : decode cX6_run 7 = .ok (.iload_n 2, 1) := by decide +kernel
theorem dX6_run_8 : decode cX6_run 8 = .ok (.iconst 1, 1) := by decide +kernel
theorem dX6_run_9 : decode cX6_run 9 = .ok (.sipush 9999, 3) := by decide +kernel
theorem dX6_run_12 : decode cX6_run 12 = .ok (.invokestatic 51, 3) := by decide +kernel
theorem dX6_run_15 : decode cX6_run 15 = .ok (.ifCond .eq 14, 3) := by decide +kernel
theorem dX6_run_18 : decode cX6_run 18 = .ok (.iload_n 3, 1) := by decide +kernel
theorem dX6_run_19 : decode cX6_run 19 = .ok (.iconst 1, 1) := by decide +kernel
theorem dX6_run_20 : decode cX6_run 20 = .ok (.sipush 300, 3) := by decide +kernel
theorem dX6_run_23 : decode cX6_run 23 = .ok (.invokestatic 51, 3) := by decide +kernel
theorem dX6_run_26 : decode cX6_run 26 = .ok (.ifCond .ne 13, 3) := by decide +kernel
theorem dX6_run_29 : decode cX6_run 29 = .ok (.new 55, 3) := by decide +kernel
theorem dX6_run_32 : decode cX6_run 32 = .ok (.dup, 1) := by decide +kernel
theorem dX6_run_33 : decode cX6_run 33 = .ok (.ldc 84, 2) := by decide +kernel
theorem dX6_run_35 : decode cX6_run 35 = .ok (.invokespecial 59, 3) := by decide +kernel
theorem dX6_run_38 : decode cX6_run 38 = .ok (.athrow, 1) := by decide +kernel
theorem dX6_run_39 : decode cX6_run 39 = .ok (.iload 4, 2) := by decide +kernel
theorem dX6_run_41 : decode cX6_run 41 = .ok (.iconst 1, 1) := by decide +kernel
theorem dX6_run_42 : decode cX6_run 42 = .ok (.sipush 9999, 3) := by decide +kernel
theorem dX6_run_45 : decode cX6_run 45 = .ok (.invokestatic 51, 3) := by decide +kernel
theorem dX6_run_48 : decode cX6_run 48 = .ok (.ifCond .eq 15, 3) := by decide +kernel
theorem dX6_run_51 : decode cX6_run 51 = .ok (.iload 5, 2) := by decide +kernel
theorem dX6_run_53 : decode cX6_run 53 = .ok (.iconst 1, 1) := by decide +kernel
theorem dX6_run_54 : decode cX6_run 54 = .ok (.sipush 960, 3) := by decide +kernel
theorem dX6_run_57 : decode cX6_run 57 = .ok (.invokestatic 51, 3) := by decide +kernel
theorem dX6_run_60 : decode cX6_run 60 = .ok (.ifCond .ne 13, 3) := by decide +kernel
theorem dX6_run_63 : decode cX6_run 63 = .ok (.new 55, 3) := by decide +kernel
theorem dX6_run_66 : decode cX6_run 66 = .ok (.dup, 1) := by decide +kernel
theorem dX6_run_67 : decode cX6_run 67 = .ok (.ldc 86, 2) := by decide +kernel
theorem dX6_run_69 : decode cX6_run 69 = .ok (.invokespecial 59, 3) := by decide +kernel
theorem dX6_run_72 : decode cX6_run 72 = .ok (.athrow, 1) := by decide +kernel
theorem dX6_run_73 : decode cX6_run 73 = .ok (.iload_n 2, 1) := by decide +kernel
theorem dX6_run_74 : decode cX6_run 74 = .ok (.iload_n 3, 1) := by decide +kernel
theorem dX6_run_75 : decode cX6_run 75 = .ok (.imul, 1) := by decide +kernel
theorem dX6_run_76 : decode cX6_run 76 = .ok (.istore 7, 2) := by decide +kernel
theorem dX6_run_78 : decode cX6_run 78 = .ok (.iload 4, 2) := by decide +kernel
theorem dX6_run_80 : decode cX6_run 80 = .ok (.iload 5, 2) := by decide +kernel
theorem dX6_run_82 : decode cX6_run 82 = .ok (.imul, 1) := by decide +kernel
theorem dX6_run_83 : decode cX6_run 83 = .ok (.istore 8, 2) := by decide +kernel
theorem dX6_run_85 : decode cX6_run 85 = .ok (.iload 8, 2) := by decide +kernel
theorem dX6_run_87 : decode cX6_run 87 = .ok (.iload 7, 2) := by decide +kernel
theorem dX6_run_89 : decode cX6_run 89 = .ok (.if_icmp .gt 22, 3) := by decide +kernel
theorem dX6_run_92 : decode cX6_run 92 = .ok (.aload 6, 2) := by decide +kernel
theorem dX6_run_94 : decode cX6_run 94 = .ok (.iload 4, 2) := by decide +kernel
theorem dX6_run_96 : decode cX6_run 96 = .ok (.invokevirtual 88, 3) := by decide +kernel
theorem dX6_run_99 : decode cX6_run 99 = .ok (.ifCond .eq 12, 3) := by decide +kernel
theorem dX6_run_102 : decode cX6_run 102 = .ok (.aload_n 0, 1) := by decide +kernel
theorem dX6_run_103 : decode cX6_run 103 = .ok (.getfield 91, 3) := by decide +kernel
theorem dX6_run_106 : decode cX6_run 106 = .ok (.bipush 60, 2) := by decide +kernel
theorem dX6_run_108 : decode cX6_run 108 = .ok (.if_icmp .lt 13, 3) := by decide +kernel
theorem dX6_run_111 : decode cX6_run 111 = .ok (.new 64, 3) := by decide +kernel
theorem dX6_run_114 : decode cX6_run 114 = .ok (.dup, 1) := by decide +kernel
theorem dX6_run_115 : decode cX6_run 115 = .ok (.ldc 95, 2) := by decide +kernel
theorem dX6_run_117 : decode cX6_run 117 = .ok (.invokespecial 68, 3) := by decide +kernel
theorem dX6_run_120 : decode cX6_run 120 = .ok (.athrow, 1) := by decide +kernel
theorem dX6_run_121 : decode cX6_run 121 = .ok (.aload_n 0, 1) := by decide +kernel
theorem dX6_run_122 : decode cX6_run 122 = .ok (.dup, 1) := by decide +kernel
theorem dX6_run_123 : decode cX6_run 123 = .ok (.getfield 91, 3) := by decide +kernel
theorem dX6_run_126 : decode cX6_run 126 = .ok (.iconst 1, 1) := by decide +kernel
theorem dX6_run_127 : decode cX6_run 127 = .ok (.iadd, 1) := by decide +kernel
theorem dX6_run_128 : decode cX6_run 128 = .ok (.putfield 91, 3) := by decide +kernel
theorem dX6_run_131 : decode cX6_run 131 = .ok (.aload 6, 2) := by decide +kernel
theorem dX6_run_133 : decode cX6_run 133 = .ok (.iload 4, 2) := by decide +kernel
theorem dX6_run_135 : decode cX6_run 135 = .ok (.iload 8, 2) := by decide +kernel
theorem dX6_run_137 : decode cX6_run 137 = .ok (.invokevirtual 97, 3) := by decide +kernel
theorem dX6_run_140 : decode cX6_run 140 = .ok (.aload_n 0, 1) := by decide +kernel
theorem dX6_run_141 : decode cX6_run 141 = .ok (.getfield 36, 3) := by decide +kernel
theorem dX6_run_144 : decode cX6_run 144 = .ok (.dup, 1) := by decide +kernel
theorem dX6_run_145 : decode cX6_run 145 = .ok (.getfield 100, 3) := by decide +kernel
theorem dX6_run_148 : decode cX6_run 148 = .ok (.iload 8, 2) := by decide +kernel
theorem dX6_run_150 : decode cX6_run 150 = .ok (.iadd, 1) := by decide +kernel
theorem dX6_run_151 : decode cX6_run 151 = .ok (.putfield 100, 3) := by decide +kernel
theorem dX6_run_154 : decode cX6_run 154 = .ok (.iconst 0, 1) := by decide +kernel
theorem dX6_run_155 : decode cX6_run 155 = .ok (.iload 7, 2) := by decide +kernel
theorem dX6_run_157 : decode cX6_run 157 = .ok (.bipush 9, 2) := by decide +kernel
theorem dX6_run_159 : decode cX6_run 159 = .ok (.bipush 10, 2) := by decide +kernel
theorem dX6_run_161 : decode cX6_run 161 = .ok (.invokestatic 103, 3) := by decide +kernel
theorem dX6_run_164 : decode cX6_run 164 = .ok (.iload 8, 2) := by decide +kernel
theorem dX6_run_166 : decode cX6_run 166 = .ok (.isub, 1) := by decide +kernel
theorem dX6_run_167 : decode cX6_run 167 = .ok (.invokestatic 107, 3) := by decide +kernel
theorem dX6_run_170 : decode cX6_run 170 = .ok (.istore 9, 2) := by decide +kernel
theorem dX6_run_172 : decode cX6_run 172 = .ok (.aload_n 0, 1) := by decide +kernel
theorem dX6_run_173 : decode cX6_run 173 = .ok (.getfield 36, 3) := by decide +kernel
theorem dX6_run_176 : decode cX6_run 176 = .ok (.dup, 1) := by decide +kernel
theorem dX6_run_177 : decode cX6_run 177 = .ok (.getfield 113, 3) := by decide +kernel
theorem dX6_run_180 : decode cX6_run 180 = .ok (.iload 9, 2) := by decide +kernel
theorem dX6_run_182 : decode cX6_run 182 = .ok (.iadd, 1) := by decide +kernel
theorem dX6_run_183 : decode cX6_run 183 = .ok (.putfield 113, 3) := by decide +kernel
theorem dX6_run_186 : decode cX6_run 186 = .ok (.aload_n 0, 1) := by decide +kernel
theorem dX6_run_187 : decode cX6_run 187 = .ok (.getfield 29, 3) := by decide +kernel
theorem dX6_run_190 : decode cX6_run 190 = .ok (.iload 9, 2) := by decide +kernel
theorem dX6_run_192 : decode cX6_run 192 = .ok (.invokevirtual 116, 3) := by decide +kernel
theorem dX6_run_195 : decode cX6_run 195 = .ok (.pop, 1) := by decide +kernel
theorem dX6_run_196 : decode cX6_run 196 = .ok (.iload 9, 2) := by decide +kernel
theorem dX6_run_198 : decode cX6_run 198 = .ok (.ireturn, 1) := by decide +kernel
set_option maxRecDepth 20000 in
theorem ggX6_move_X6_vesselOf : GoodIn wsX6_move wsX6_vesselOf := goodIn_ca (goodIn_r _ [9, 10, 11, 12, 13, 14, 15, 16, 17, 18, 19, 20, 21, 22, 23, 24, 25, 26, 27, 28, 29, 30, 31, 32, 33, 34, 35, 36, 74, 75, 76, 77, 78, 79, 80, 81, 82, 83, 84, 85, 86, 87, 88] (by decide +kernel) (by decide +kernel)) (goodIn_sub (fun _ h => List.mem_cons_of_mem _ (List.mem_append_right _ h)) (by decide +kernel))
set_option maxRecDepth 20000 in
theorem gX6_move_X6_vesselOf : GoodIn wsX6_move (wsV RX6 80 RX6 yX6_vesselOf wsX6_vesselOf) := goodIn_app (goodIn_of _ (by decide +kernel)) ggX6_move_X6_vesselOf
set_option maxRecDepth 20000 in
theorem ggX6_move_X5_has : GoodIn wsX6_move wsX5_has := goodIn_r _ [41, 42, 70, 71, 72, 73] (by decide +kernel) (by decide +kernel)
set_option maxRecDepth 20000 in
theorem gX6_move_X5_has : GoodIn wsX6_move (wsV RX6 125 RX5 yX5_has wsX5_has) := goodIn_app (goodIn_of _ (by decide +kernel)) ggX6_move_X5_has
set_option maxRecDepth 20000 in
theorem ggX6_move_X5_hasRoomFor : GoodIn wsX6_move wsX5_hasRoomFor := goodIn_r _ [46, 47, 42, 70, 71, 72, 73] (by decide +kernel) (by decide +kernel)
set_option maxRecDepth 20000 in
theorem gX6_move_X5_hasRoomFor : GoodIn wsX6_move (wsV RX6 88 RX5 yX5_hasRoomFor wsX5_hasRoomFor) := goodIn_app (goodIn_of _ (by decide +kernel)) ggX6_move_X5_hasRoomFor
set_option maxRecDepth 20000 in
theorem ggX6_move_X5_takeOut : GoodIn wsX6_move wsX5_takeOut := goodIn_r _ [51, 42, 52, 53, 54, 55, 40, 56, 57, 8, 58, 70, 71, 72, 73] (by decide +kernel) (by decide +kernel)
set_option maxRecDepth 20000 in
theorem gX6_move_X5_takeOut : GoodIn wsX6_move (wsV RX6 130 RX5 yX5_takeOut wsX5_takeOut) := goodIn_app (goodIn_of _ (by decide +kernel)) ggX6_move_X5_takeOut
set_option maxRecDepth 20000 in
theorem ggX6_move_X5_comeIn : GoodIn wsX6_move wsX5_comeIn := goodIn_r _ [62, 52, 42, 63, 64, 65, 66, 67, 68, 69, 57, 8, 58, 70, 71, 72, 73] (by decide +kernel) (by decide +kernel)
set_option maxRecDepth 20000 in
theorem gX6_move_X5_comeIn : GoodIn wsX6_move (wsV RX6 97 RX5 yX5_comeIn wsX5_comeIn) := goodIn_app (goodIn_of _ (by decide +kernel)) ggX6_move_X5_comeIn
theorem dX6_move_0 : decode cX6_move 0 = .ok (.aload_n 0, 1) := by decide +kernel
theorem dX6_move_1 : decode cX6_move 1 = .ok (.iload_n 1, 1) := by decide +kernel
theorem dX6_move_2 : decode cX6_move 2 = .ok (.invokevirtual 80, 3) := by decide +kernel
theorem dX6_move_5 : decode cX6_move 5 = .ok (.astore 4, 2) := by decide +kernel
theorem dX6_move_7 : decode cX6_move 7 = .ok (.aload_n 0, 1) := by decide +kernel
theorem dX6_move_8 : decode cX6_move 8 = .ok (.iload_n 2, 1) := by decide +kernel
theorem dX6_move_9 : decode cX6_move 9 = .ok (.invokevirtual 80, 3) := by decide +kernel
theorem dX6_move_12 : decode cX6_move 12 = .ok (.astore 5, 2) := by decide +kernel
theorem dX6_move_14 : decode cX6_move 14 = .ok (.iload_n 1, 1) := by decide +kernel
theorem dX6_move_15 : decode cX6_move 15 = .ok (.iload_n 2, 1) := by decide +kernel
theorem dX6_move_16 : decode cX6_move 16 = .ok (.if_icmp .eq 8, 3) := by decide +kernel
theorem dX6_move_19 : decode cX6_move 19 = .ok (.iload_n 3, 1) := by decide +kernel
theorem dX6_move_20 : decode cX6_move 20 = .ok (.iconst 1, 1) := by decide +kernel
theorem dX6_move_21 : decode cX6_move 21 = .ok (.if_icmp .ge 13, 3) := by decide +kernel
theorem dX6_move_24 : decode cX6_move 24 = .ok (.new 55, 3) := by decide +kernel
theorem dX6_move_27 : decode cX6_move 27 = .ok (.dup, 1) := by decide +kernel
theorem dX6_move_28 : decode cX6_move 28 = .ok (.ldc 120, 2) := by decide +kernel
theorem dX6_move_30 : decode cX6_move 30 = .ok (.invokespecial 59, 3) := by decide +kernel
theorem dX6_move_33 : decode cX6_move 33 = .ok (.athrow, 1) := by decide +kernel
theorem dX6_move_34 : decode cX6_move 34 = .ok (.aload 4, 2) := by decide +kernel
theorem dX6_move_36 : decode cX6_move 36 = .ok (.getfield 122, 3) := by decide +kernel
theorem dX6_move_39 : decode cX6_move 39 = .ok (.aload 5, 2) := by decide +kernel
theorem dX6_move_41 : decode cX6_move 41 = .ok (.getfield 122, 3) := by decide +kernel
theorem dX6_move_44 : decode cX6_move 44 = .ok (.if_icmp .ne 21, 3) := by decide +kernel
theorem dX6_move_47 : decode cX6_move 47 = .ok (.aload 4, 2) := by decide +kernel
theorem dX6_move_49 : decode cX6_move 49 = .ok (.iload_n 3, 1) := by decide +kernel
theorem dX6_move_50 : decode cX6_move 50 = .ok (.invokevirtual 125, 3) := by decide +kernel
theorem dX6_move_53 : decode cX6_move 53 = .ok (.ifCond .eq 12, 3) := by decide +kernel
theorem dX6_move_56 : decode cX6_move 56 = .ok (.aload 5, 2) := by decide +kernel
theorem dX6_move_58 : decode cX6_move 58 = .ok (.iload_n 3, 1) := by decide +kernel
theorem dX6_move_59 : decode cX6_move 59 = .ok (.invokevirtual 88, 3) := by decide +kernel
theorem dX6_move_62 : decode cX6_move 62 = .ok (.ifCond .ne 13, 3) := by decide +kernel
theorem dX6_move_65 : decode cX6_move 65 = .ok (.new 64, 3) := by decide +kernel
theorem dX6_move_68 : decode cX6_move 68 = .ok (.dup, 1) := by decide +kernel
theorem dX6_move_69 : decode cX6_move 69 = .ok (.ldc 128, 2) := by decide +kernel
theorem dX6_move_71 : decode cX6_move 71 = .ok (.invokespecial 68, 3) := by decide +kernel
theorem dX6_move_74 : decode cX6_move 74 = .ok (.athrow, 1) := by decide +kernel
theorem dX6_move_75 : decode cX6_move 75 = .ok (.aload 5, 2) := by decide +kernel
theorem dX6_move_77 : decode cX6_move 77 = .ok (.iload_n 3, 1) := by decide +kernel
theorem dX6_move_78 : decode cX6_move 78 = .ok (.aload 4, 2) := by decide +kernel
theorem dX6_move_80 : decode cX6_move 80 = .ok (.iload_n 3, 1) := by decide +kernel
theorem dX6_move_81 : decode cX6_move 81 = .ok (.invokevirtual 130, 3) := by decide +kernel
theorem dX6_move_84 : decode cX6_move 84 = .ok (.invokevirtual 97, 3) := by decide +kernel
theorem dX6_move_87 : decode cX6_move 87 = .ok (.aload 5, 2) := by decide +kernel
theorem dX6_move_89 : decode cX6_move 89 = .ok (.getfield 133, 3) := by decide +kernel
theorem dX6_move_92 : decode cX6_move 92 = .ok (.ireturn, 1) := by decide +kernel
set_option maxRecDepth 20000 in
theorem ggX6_dip_X6_vesselOf : GoodIn wsX6_dip wsX6_vesselOf := goodIn_ca (goodIn_r _ [11, 12, 13, 14, 15, 16, 17, 18, 19, 20, 21, 22, 23, 24, 25, 26, 27, 28, 29, 30, 31, 32, 33, 34, 35, 36, 37, 38, 64, 65, 66, 67, 68, 69, 70, 71, 72, 73, 74, 75, 81, 82, 83] (by decide +kernel) (by decide +kernel)) (goodIn_sub (fun _ h => List.mem_cons_of_mem _ (List.mem_append_right _ h)) (by decide +kernel))
set_option maxRecDepth 20000 in
theorem gX6_dip_X6_vesselOf : GoodIn wsX6_dip (wsV RX6 80 RX6 yX6_vesselOf wsX6_vesselOf) := goodIn_app (goodIn_of _ (by decide +kernel)) ggX6_dip_X6_vesselOf
set_option maxRecDepth 20000 in
theorem ggX6_dip_X6_isWithin : GoodIn wsX6_dip wsX6_isWithin := goodIn_r _ [41] (by decide +kernel) (by decide +kernel)
set_option maxRecDepth 20000 in
theorem gX6_dip_X6_isWithin : GoodIn wsX6_dip (va_wsS RX6 51 yX6_isWithin wsX6_isWithin) := goodIn_app (goodIn_of _ (by decide +kernel)) ggX6_dip_X6_isWithin
set_option maxRecDepth 20000 in
theorem ggX6_dip_X6_miss : GoodIn wsX6_dip wsX6_miss := goodIn_r _ [45, 6, 46, 47, 48, 49, 50, 51, 52, 53, 54, 55, 56, 57, 58, 10, 59, 64, 65, 66, 67, 68, 69, 70, 71, 72, 73, 74, 75, 76, 77, 78, 79, 80, 84, 85, 86] (by decide +kernel) (by decide +kernel)
set_option maxRecDepth 20000 in
theorem gX6_dip_X6_miss : GoodIn wsX6_dip (wsV RX6 147 RX6 yX6_miss wsX6_miss) := goodIn_app (goodIn_of _ (by decide +kernel)) ggX6_dip_X6_miss
theorem dX6_dip_0 : decode cX6_dip 0 = .ok (.aload_n 0, 1) := by decide +kernel
theorem dX6_dip_1 : decode cX6_dip 1 = .ok (.iload_n 1, 1) := by decide +kernel
theorem dX6_dip_2 : decode cX6_dip 2 = .ok (.invokevirtual 80, 3) := by decide +kernel
theorem dX6_dip_5 : decode cX6_dip 5 = .ok (.astore 4, 2) := by decide +kernel
theorem dX6_dip_7 : decode cX6_dip 7 = .ok (.iload_n 2, 1) := by decide +kernel
theorem dX6_dip_8 : decode cX6_dip 8 = .ok (.iconst 0, 1) := by decide +kernel
theorem dX6_dip_9 : decode cX6_dip 9 = .ok (.aload 4, 2) := by decide +kernel
theorem dX6_dip_11 : decode cX6_dip 11 = .ok (.getfield 136, 3) := by decide +kernel
theorem dX6_dip_14 : decode cX6_dip 14 = .ok (.invokestatic 51, 3) := by decide +kernel
theorem dX6_dip_17 : decode cX6_dip 17 = .ok (.ifCond .eq 14, 3) := by decide +kernel
theorem dX6_dip_20 : decode cX6_dip 20 = .ok (.iload_n 3, 1) := by decide +kernel
theorem dX6_dip_21 : decode cX6_dip 21 = .ok (.iconst 0, 1) := by decide +kernel
theorem dX6_dip_22 : decode cX6_dip 22 = .ok (.sipush 960, 3) := by decide +kernel
theorem dX6_dip_25 : decode cX6_dip 25 = .ok (.invokestatic 51, 3) := by decide +kernel
theorem dX6_dip_28 : decode cX6_dip 28 = .ok (.ifCond .ne 13, 3) := by decide +kernel
theorem dX6_dip_31 : decode cX6_dip 31 = .ok (.new 55, 3) := by decide +kernel
theorem dX6_dip_34 : decode cX6_dip 34 = .ok (.dup, 1) := by decide +kernel
theorem dX6_dip_35 : decode cX6_dip 35 = .ok (.ldc 86, 2) := by decide +kernel
theorem dX6_dip_37 : decode cX6_dip 37 = .ok (.invokespecial 59, 3) := by decide +kernel
theorem dX6_dip_40 : decode cX6_dip 40 = .ok (.athrow, 1) := by decide +kernel
theorem dX6_dip_41 : decode cX6_dip 41 = .ok (.aload_n 0, 1) := by decide +kernel
theorem dX6_dip_42 : decode cX6_dip 42 = .ok (.getfield 139, 3) := by decide +kernel
theorem dX6_dip_45 : decode cX6_dip 45 = .ok (.bipush 60, 2) := by decide +kernel
theorem dX6_dip_47 : decode cX6_dip 47 = .ok (.if_icmp .lt 13, 3) := by decide +kernel
theorem dX6_dip_50 : decode cX6_dip 50 = .ok (.new 64, 3) := by decide +kernel
theorem dX6_dip_53 : decode cX6_dip 53 = .ok (.dup, 1) := by decide +kernel
theorem dX6_dip_54 : decode cX6_dip 54 = .ok (.ldc 142, 2) := by decide +kernel
theorem dX6_dip_56 : decode cX6_dip 56 = .ok (.invokespecial 68, 3) := by decide +kernel
theorem dX6_dip_59 : decode cX6_dip 59 = .ok (.athrow, 1) := by decide +kernel
theorem dX6_dip_60 : decode cX6_dip 60 = .ok (.aload_n 0, 1) := by decide +kernel
theorem dX6_dip_61 : decode cX6_dip 61 = .ok (.dup, 1) := by decide +kernel
theorem dX6_dip_62 : decode cX6_dip 62 = .ok (.getfield 139, 3) := by decide +kernel
theorem dX6_dip_65 : decode cX6_dip 65 = .ok (.iconst 1, 1) := by decide +kernel
theorem dX6_dip_66 : decode cX6_dip 66 = .ok (.iadd, 1) := by decide +kernel
theorem dX6_dip_67 : decode cX6_dip 67 = .ok (.putfield 139, 3) := by decide +kernel
theorem dX6_dip_70 : decode cX6_dip 70 = .ok (.aload 4, 2) := by decide +kernel
theorem dX6_dip_72 : decode cX6_dip 72 = .ok (.getfield 144, 3) := by decide +kernel
theorem dX6_dip_75 : decode cX6_dip 75 = .ok (.istore 5, 2) := by decide +kernel
theorem dX6_dip_77 : decode cX6_dip 77 = .ok (.iload 5, 2) := by decide +kernel
theorem dX6_dip_79 : decode cX6_dip 79 = .ok (.iload_n 2, 1) := by decide +kernel
theorem dX6_dip_80 : decode cX6_dip 80 = .ok (.iload_n 3, 1) := by decide +kernel
theorem dX6_dip_81 : decode cX6_dip 81 = .ok (.imul, 1) := by decide +kernel
theorem dX6_dip_82 : decode cX6_dip 82 = .ok (.isub, 1) := by decide +kernel
theorem dX6_dip_83 : decode cX6_dip 83 = .ok (.istore 6, 2) := by decide +kernel
theorem dX6_dip_85 : decode cX6_dip 85 = .ok (.aload 4, 2) := by decide +kernel
theorem dX6_dip_87 : decode cX6_dip 87 = .ok (.iload_n 2, 1) := by decide +kernel
theorem dX6_dip_88 : decode cX6_dip 88 = .ok (.putfield 133, 3) := by decide +kernel
theorem dX6_dip_91 : decode cX6_dip 91 = .ok (.aload 4, 2) := by decide +kernel
theorem dX6_dip_93 : decode cX6_dip 93 = .ok (.iload_n 2, 1) := by decide +kernel
theorem dX6_dip_94 : decode cX6_dip 94 = .ok (.iload_n 3, 1) := by decide +kernel
theorem dX6_dip_95 : decode cX6_dip 95 = .ok (.imul, 1) := by decide +kernel
theorem dX6_dip_96 : decode cX6_dip 96 = .ok (.putfield 144, 3) := by decide +kernel
theorem dX6_dip_99 : decode cX6_dip 99 = .ok (.iload 6, 2) := by decide +kernel
theorem dX6_dip_101 : decode cX6_dip 101 = .ok (.ifCond .ge 20, 3) := by decide +kernel
theorem dX6_dip_104 : decode cX6_dip 104 = .ok (.aload_n 0, 1) := by decide +kernel
theorem dX6_dip_105 : decode cX6_dip 105 = .ok (.getfield 36, 3) := by decide +kernel
theorem dX6_dip_108 : decode cX6_dip 108 = .ok (.dup, 1) := by decide +kernel
theorem dX6_dip_109 : decode cX6_dip 109 = .ok (.getfield 100, 3) := by decide +kernel
theorem dX6_dip_112 : decode cX6_dip 112 = .ok (.iload 6, 2) := by decide +kernel
theorem dX6_dip_114 : decode cX6_dip 114 = .ok (.isub, 1) := by decide +kernel
theorem dX6_dip_115 : decode cX6_dip 115 = .ok (.putfield 100, 3) := by decide +kernel
theorem dX6_dip_118 : decode cX6_dip 118 = .ok (.goto 37, 3) := by decide +kernel
theorem dX6_dip_121 : decode cX6_dip 121 = .ok (.iload 6, 2) := by decide +kernel
theorem dX6_dip_123 : decode cX6_dip 123 = .ok (.iload 5, 2) := by decide +kernel
theorem dX6_dip_125 : decode cX6_dip 125 = .ok (.bipush 100, 2) := by decide +kernel
theorem dX6_dip_127 : decode cX6_dip 127 = .ok (.idiv, 1) := by decide +kernel
theorem dX6_dip_128 : decode cX6_dip 128 = .ok (.if_icmp .le 13, 3) := by decide +kernel
theorem dX6_dip_131 : decode cX6_dip 131 = .ok (.aload_n 0, 1) := by decide +kernel
theorem dX6_dip_132 : decode cX6_dip 132 = .ok (.iload 6, 2) := by decide +kernel
theorem dX6_dip_134 : decode cX6_dip 134 = .ok (.invokevirtual 147, 3) := by decide +kernel
theorem dX6_dip_137 : decode cX6_dip 137 = .ok (.pop, 1) := by decide +kernel
theorem dX6_dip_138 : decode cX6_dip 138 = .ok (.goto 17, 3) := by decide +kernel
theorem dX6_dip_141 : decode cX6_dip 141 = .ok (.aload_n 0, 1) := by decide +kernel
theorem dX6_dip_142 : decode cX6_dip 142 = .ok (.getfield 36, 3) := by decide +kernel
theorem dX6_dip_145 : decode cX6_dip 145 = .ok (.dup, 1) := by decide +kernel
theorem dX6_dip_146 : decode cX6_dip 146 = .ok (.getfield 150, 3) := by decide +kernel
theorem dX6_dip_149 : decode cX6_dip 149 = .ok (.iload 6, 2) := by decide +kernel
theorem dX6_dip_151 : decode cX6_dip 151 = .ok (.iadd, 1) := by decide +kernel
theorem dX6_dip_152 : decode cX6_dip 152 = .ok (.putfield 150, 3) := by decide +kernel
theorem dX6_dip_155 : decode cX6_dip 155 = .ok (.iload 6, 2) := by decide +kernel
theorem dX6_dip_157 : decode cX6_dip 157 = .ok (.ireturn, 1) := by decide +kernel
set_option maxRecDepth 20000 in
theorem ggX6_lose_X6_vesselOf : GoodIn wsX6_lose wsX6_vesselOf := goodIn_ca (goodIn_r _ [10, 11, 12, 13, 14, 15, 16, 17, 18, 19, 20, 21, 22, 23, 24, 25, 26, 27, 28, 29, 30, 31, 32, 33, 34, 35, 36, 37, 71, 72, 73, 74, 75, 76, 77, 78, 79, 80, 81, 82, 88, 89, 90] (by decide +kernel) (by decide +kernel)) (goodIn_sub (fun _ h => List.mem_cons_of_mem _ (List.mem_append_right _ h)) (by decide +kernel))
set_option maxRecDepth 20000 in
theorem gX6_lose_X6_vesselOf : GoodIn wsX6_lose (wsV RX6 80 RX6 yX6_vesselOf wsX6_vesselOf) := goodIn_app (goodIn_of _ (by decide +kernel)) ggX6_lose_X6_vesselOf
set_option maxRecDepth 20000 in
theorem ggX6_lose_X5_has : GoodIn wsX6_lose wsX5_has := goodIn_r _ [42, 43, 91, 92, 93, 94] (by decide +kernel) (by decide +kernel)
set_option maxRecDepth 20000 in
theorem gX6_lose_X5_has : GoodIn wsX6_lose (wsV RX6 125 RX5 yX5_has wsX5_has) := goodIn_app (goodIn_of _ (by decide +kernel)) ggX6_lose_X5_has
set_option maxRecDepth 20000 in
theorem ggX6_lose_X5_takeOut : GoodIn wsX6_lose wsX5_takeOut := goodIn_r _ [47, 43, 48, 49, 50, 51, 41, 52, 53, 9, 54, 91, 92, 93, 94] (by decide +kernel) (by decide +kernel)
set_option maxRecDepth 20000 in
theorem gX6_lose_X5_takeOut : GoodIn wsX6_lose (wsV RX6 130 RX5 yX5_takeOut wsX5_takeOut) := goodIn_app (goodIn_of _ (by decide +kernel)) ggX6_lose_X5_takeOut
set_option maxRecDepth 20000 in
theorem ggX6_lose_X6_miss : GoodIn wsX6_lose wsX6_miss := goodIn_r _ [58, 5, 59, 60, 61, 62, 63, 64, 65, 66, 67, 68, 69, 70, 53, 9, 54, 71, 72, 73, 74, 75, 76, 77, 78, 79, 80, 81, 82, 83, 84, 85, 86, 87, 95, 96, 97] (by decide +kernel) (by decide +kernel)
set_option maxRecDepth 20000 in
theorem gX6_lose_X6_miss : GoodIn wsX6_lose (wsV RX6 147 RX6 yX6_miss wsX6_miss) := goodIn_app (goodIn_of _ (by decide +kernel)) ggX6_lose_X6_miss
theorem dX6_lose_0 : decode cX6_lose 0 = .ok (.aload_n 0, 1) := by decide +kernel
theorem dX6_lose_1 : decode cX6_lose 1 = .ok (.iload_n 1, 1) := by decide +kernel
theorem dX6_lose_2 : decode cX6_lose 2 = .ok (.invokevirtual 80, 3) := by decide +kernel
theorem dX6_lose_5 : decode cX6_lose 5 = .ok (.astore 4, 2) := by decide +kernel
theorem dX6_lose_7 : decode cX6_lose 7 = .ok (.iload_n 2, 1) := by decide +kernel
theorem dX6_lose_8 : decode cX6_lose 8 = .ok (.iconst 1, 1) := by decide +kernel
theorem dX6_lose_9 : decode cX6_lose 9 = .ok (.if_icmp .ge 13, 3) := by decide +kernel
theorem dX6_lose_12 : decode cX6_lose 12 = .ok (.new 55, 3) := by decide +kernel
theorem dX6_lose_15 : decode cX6_lose 15 = .ok (.dup, 1) := by decide +kernel
theorem dX6_lose_16 : decode cX6_lose 16 = .ok (.ldc 153, 2) := by decide +kernel
theorem dX6_lose_18 : decode cX6_lose 18 = .ok (.invokespecial 59, 3) := by decide +kernel
theorem dX6_lose_21 : decode cX6_lose 21 = .ok (.athrow, 1) := by decide +kernel
theorem dX6_lose_22 : decode cX6_lose 22 = .ok (.aload 4, 2) := by decide +kernel
theorem dX6_lose_24 : decode cX6_lose 24 = .ok (.iload_n 2, 1) := by decide +kernel
theorem dX6_lose_25 : decode cX6_lose 25 = .ok (.invokevirtual 125, 3) := by decide +kernel
theorem dX6_lose_28 : decode cX6_lose 28 = .ok (.ifCond .ne 13, 3) := by decide +kernel
theorem dX6_lose_31 : decode cX6_lose 31 = .ok (.new 64, 3) := by decide +kernel
theorem dX6_lose_34 : decode cX6_lose 34 = .ok (.dup, 1) := by decide +kernel
theorem dX6_lose_35 : decode cX6_lose 35 = .ok (.ldc 155, 2) := by decide +kernel
theorem dX6_lose_37 : decode cX6_lose 37 = .ok (.invokespecial 68, 3) := by decide +kernel
theorem dX6_lose_40 : decode cX6_lose 40 = .ok (.athrow, 1) := by decide +kernel
theorem dX6_lose_41 : decode cX6_lose 41 = .ok (.aload 4, 2) := by decide +kernel
theorem dX6_lose_43 : decode cX6_lose 43 = .ok (.iload_n 2, 1) := by decide +kernel
theorem dX6_lose_44 : decode cX6_lose 44 = .ok (.invokevirtual 130, 3) := by decide +kernel
theorem dX6_lose_47 : decode cX6_lose 47 = .ok (.istore 5, 2) := by decide +kernel
theorem dX6_lose_49 : decode cX6_lose 49 = .ok (.iload_n 3, 1) := by decide +kernel
theorem dX6_lose_50 : decode cX6_lose 50 = .ok (.ifCond .ne 10, 3) := by decide +kernel
theorem dX6_lose_53 : decode cX6_lose 53 = .ok (.aload_n 0, 1) := by decide +kernel
theorem dX6_lose_54 : decode cX6_lose 54 = .ok (.iload 5, 2) := by decide +kernel
theorem dX6_lose_56 : decode cX6_lose 56 = .ok (.invokevirtual 147, 3) := by decide +kernel
theorem dX6_lose_59 : decode cX6_lose 59 = .ok (.ireturn, 1) := by decide +kernel
theorem dX6_lose_60 : decode cX6_lose 60 = .ok (.aload_n 0, 1) := by decide +kernel
theorem dX6_lose_61 : decode cX6_lose 61 = .ok (.getfield 36, 3) := by decide +kernel
theorem dX6_lose_64 : decode cX6_lose 64 = .ok (.dup, 1) := by decide +kernel
theorem dX6_lose_65 : decode cX6_lose 65 = .ok (.getfield 150, 3) := by decide +kernel
theorem dX6_lose_68 : decode cX6_lose 68 = .ok (.iload 5, 2) := by decide +kernel
theorem dX6_lose_70 : decode cX6_lose 70 = .ok (.iadd, 1) := by decide +kernel
theorem dX6_lose_71 : decode cX6_lose 71 = .ok (.putfield 150, 3) := by decide +kernel
theorem dX6_lose_74 : decode cX6_lose 74 = .ok (.iconst 0, 1) := by decide +kernel
theorem dX6_lose_75 : decode cX6_lose 75 = .ok (.ireturn, 1) := by decide +kernel
set_option maxRecDepth 20000 in
theorem ggX6_release_X6_vesselOf : GoodIn wsX6_release wsX6_vesselOf := goodIn_ca (goodIn_r _ [15, 16, 17, 18, 19, 20, 21, 22, 23, 24, 25, 26, 27, 28, 29, 30, 31, 32, 33, 34, 35, 36, 37, 38, 39, 40, 41, 42, 135, 136, 137, 138, 139, 140, 141, 142, 143, 144, 145, 146, 152, 153, 154] (by decide +kernel) (by decide +kernel)) (goodIn_sub (fun _ h => List.mem_cons_of_mem _ (List.mem_append_right _ h)) (by decide +kernel))
set_option maxRecDepth 20000 in
theorem gX6_release_X6_vesselOf : GoodIn wsX6_release (wsV RX6 80 RX6 yX6_vesselOf wsX6_vesselOf) := goodIn_app (goodIn_of _ (by decide +kernel)) ggX6_release_X6_vesselOf
set_option maxRecDepth 20000 in
theorem ggX6_release_X5_has : GoodIn wsX6_release wsX5_has := goodIn_r _ [47, 48, 155, 156, 157, 158] (by decide +kernel) (by decide +kernel)
set_option maxRecDepth 20000 in
theorem gX6_release_X5_has : GoodIn wsX6_release (wsV RX6 125 RX5 yX5_has wsX5_has) := goodIn_app (goodIn_of _ (by decide +kernel)) ggX6_release_X5_has
set_option maxRecDepth 20000 in
theorem ggX6_release_Jx4a65c_size_8abf5 : GoodIn wsX6_release wsJx4a65c_size_8abf5 := goodIn_r _ [24, 25, 152, 153, 154] (by decide +kernel) (by decide +kernel)
set_option maxRecDepth 20000 in
theorem gX6_release_Jx4a65c_size_8abf5 : GoodIn wsX6_release (wsV RX6 60 RJx4a65c yJx4a65c_size_8abf5 wsJx4a65c_size_8abf5) := goodIn_app (goodIn_of _ (by decide +kernel)) ggX6_release_Jx4a65c_size_8abf5
set_option maxRecDepth 20000 in
theorem ggX6_release_X5_dropsOf : GoodIn wsX6_release wsX5_dropsOf := goodIn_r _ [52, 53, 48, 54, 14, 55, 155, 156, 157, 158] (by decide +kernel) (by decide +kernel)
set_option maxRecDepth 20000 in
theorem gX6_release_X5_dropsOf : GoodIn wsX6_release (wsV RX6 163 RX5 yX5_dropsOf wsX5_dropsOf) := goodIn_app (goodIn_of _ (by decide +kernel)) ggX6_release_X5_dropsOf
set_option maxRecDepth 20000 in
theorem ggX6_release_X5_takeOut : GoodIn wsX6_release wsX5_takeOut := goodIn_r _ [59, 48, 53, 60, 50, 51, 46, 52, 54, 14, 55, 155, 156, 157, 158] (by decide +kernel) (by decide +kernel)
set_option maxRecDepth 20000 in
theorem gX6_release_X5_takeOut : GoodIn wsX6_release (wsV RX6 130 RX5 yX5_takeOut wsX5_takeOut) := goodIn_app (goodIn_of _ (by decide +kernel)) ggX6_release_X5_takeOut
set_option maxRecDepth 20000 in
theorem ggX6_release_X1_chargeLeaving : GoodIn wsX6_release wsX1_chargeLeaving := goodIn_r _ [65, 66, 67, 68, 69, 70, 71, 72, 54, 14, 55, 73, 74, 75, 64, 76, 159, 160, 161] (by decide +kernel) (by decide +kernel)
set_option maxRecDepth 20000 in
theorem gX6_release_X1_chargeLeaving : GoodIn wsX6_release (wsV RX6 173 RX1 yX1_chargeLeaving wsX1_chargeLeaving) := goodIn_app (goodIn_of _ (by decide +kernel)) ggX6_release_X1_chargeLeaving
set_option maxRecDepth 20000 in
theorem ggX6_release_X3_init : GoodIn wsX6_release wsX3_init := goodIn_r _ [79, 80, 81, 82, 83, 84, 150, 151] (by decide +kernel) (by decide +kernel)
set_option maxRecDepth 20000 in
theorem gX6_release_X3_init : GoodIn wsX6_release (wsX3_init) := ggX6_release_X3_init
set_option maxRecDepth 20000 in
theorem ggX6_release_Jx4a65c_add_9ea2d : GoodIn wsX6_release wsJx4a65c_add_9ea2d := goodIn_r _ [88, 89, 90, 42, 25, 91, 92, 93, 23, 94, 95, 96, 97, 98, 99, 100, 101, 102, 103, 104, 105, 69, 106, 107, 108, 109, 110, 111, 112, 113, 114, 115, 116, 117, 118, 119, 120, 121, 122, 123, 124, 125, 126, 127, 128, 129, 130, 68, 70, 131, 132, 133, 134, 152, 153, 154] (by decide +kernel) (by decide +kernel)
set_option maxRecDepth 20000 in
theorem gX6_release_Jx4a65c_add_9ea2d : GoodIn wsX6_release (wsV RX6 74 RJx4a65c yJx4a65c_add_9ea2d wsJx4a65c_add_9ea2d) := goodIn_app (goodIn_of _ (by decide +kernel)) ggX6_release_Jx4a65c_add_9ea2d
theorem dX6_release_0 : decode cX6_release 0 = .ok (.aload_n 0, 1) := by decide +kernel
theorem dX6_release_1 : decode cX6_release 1 = .ok (.iload_n 1, 1) := by decide +kernel
theorem dX6_release_2 : decode cX6_release 2 = .ok (.invokevirtual 80, 3) := by decide +kernel
theorem dX6_release_5 : decode cX6_release 5 = .ok (.astore_n 3, 1) := by decide +kernel
theorem dX6_release_6 : decode cX6_release 6 = .ok (.iload_n 2, 1) := by decide +kernel
theorem dX6_release_7 : decode cX6_release 7 = .ok (.iconst 1, 1) := by decide +kernel
theorem dX6_release_8 : decode cX6_release 8 = .ok (.if_icmp .ge 13, 3) := by decide +kernel
theorem dX6_release_11 : decode cX6_release 11 = .ok (.new 55, 3) := by decide +kernel
theorem dX6_release_14 : decode cX6_release 14 = .ok (.dup, 1) := by decide +kernel
theorem dX6_release_15 : decode cX6_release 15 = .ok (.ldc 153, 2) := by decide +kernel
theorem dX6_release_17 : decode cX6_release 17 = .ok (.invokespecial 59, 3) := by decide +kernel
theorem dX6_release_20 : decode cX6_release 20 = .ok (.athrow, 1) := by decide +kernel
theorem dX6_release_21 : decode cX6_release 21 = .ok (.aload_n 3, 1) := by decide +kernel
theorem dX6_release_22 : decode cX6_release 22 = .ok (.iload_n 2, 1) := by decide +kernel
theorem dX6_release_23 : decode cX6_release 23 = .ok (.invokevirtual 125, 3) := by decide +kernel
theorem dX6_release_26 : decode cX6_release 26 = .ok (.ifCond .eq 15, 3) := by decide +kernel
theorem dX6_release_29 : decode cX6_release 29 = .ok (.aload_n 0, 1) := by decide +kernel
theorem dX6_release_30 : decode cX6_release 30 = .ok (.getfield 19, 3) := by decide +kernel
theorem dX6_release_33 : decode cX6_release 33 = .ok (.invokevirtual 60, 3) := by decide +kernel
theorem dX6_release_36 : decode cX6_release 36 = .ok (.bipush 100, 2) := by decide +kernel
theorem dX6_release_38 : decode cX6_release 38 = .ok (.if_icmp .lt 13, 3) := by decide +kernel
theorem dX6_release_41 : decode cX6_release 41 = .ok (.new 64, 3) := by decide +kernel
theorem dX6_release_44 : decode cX6_release 44 = .ok (.dup, 1) := by decide +kernel
theorem dX6_release_45 : decode cX6_release 45 = .ok (.ldc 157, 2) := by decide +kernel
theorem dX6_release_47 : decode cX6_release 47 = .ok (.invokespecial 68, 3) := by decide +kernel
theorem dX6_release_50 : decode cX6_release 50 = .ok (.athrow, 1) := by decide +kernel
theorem dX6_release_51 : decode cX6_release 51 = .ok (.aload_n 0, 1) := by decide +kernel
theorem dX6_release_52 : decode cX6_release 52 = .ok (.getfield 159, 3) := by decide +kernel
theorem dX6_release_55 : decode cX6_release 55 = .ok (.ifnull 28, 3) := by decide +kernel
theorem dX6_release_58 : decode cX6_release 58 = .ok (.aload_n 3, 1) := by decide +kernel
theorem dX6_release_59 : decode cX6_release 59 = .ok (.iload_n 2, 1) := by decide +kernel
theorem dX6_release_60 : decode cX6_release 60 = .ok (.invokevirtual 163, 3) := by decide +kernel
theorem dX6_release_63 : decode cX6_release 63 = .ok (.aload_n 0, 1) := by decide +kernel
theorem dX6_release_64 : decode cX6_release 64 = .ok (.getfield 159, 3) := by decide +kernel
theorem dX6_release_67 : decode cX6_release 67 = .ok (.getfield 166, 3) := by decide +kernel
theorem dX6_release_70 : decode cX6_release 70 = .ok (.if_icmp .le 13, 3) := by decide +kernel
theorem dX6_release_73 : decode cX6_release 73 = .ok (.new 64, 3) := by decide +kernel
theorem dX6_release_76 : decode cX6_release 76 = .ok (.dup, 1) := by decide +kernel
theorem dX6_release_77 : decode cX6_release 77 = .ok (.ldc 171, 2) := by decide +kernel
theorem dX6_release_79 : decode cX6_release 79 = .ok (.invokespecial 68, 3) := by decide +kernel
theorem dX6_release_82 : decode cX6_release 82 = .ok (.athrow, 1) := by decide +kernel
theorem dX6_release_83 : decode cX6_release 83 = .ok (.aload_n 3, 1) := by decide +kernel
theorem dX6_release_84 : decode cX6_release 84 = .ok (.iload_n 2, 1) := by decide +kernel
theorem dX6_release_85 : decode cX6_release 85 = .ok (.invokevirtual 130, 3) := by decide +kernel
theorem dX6_release_88 : decode cX6_release 88 = .ok (.istore 4, 2) := by decide +kernel
theorem dX6_release_90 : decode cX6_release 90 = .ok (.aload_n 0, 1) := by decide +kernel
theorem dX6_release_91 : decode cX6_release 91 = .ok (.getfield 159, 3) := by decide +kernel
theorem dX6_release_94 : decode cX6_release 94 = .ok (.ifnull 17, 3) := by decide +kernel
theorem dX6_release_97 : decode cX6_release 97 = .ok (.aload_n 0, 1) := by decide +kernel
theorem dX6_release_98 : decode cX6_release 98 = .ok (.getfield 159, 3) := by decide +kernel
theorem dX6_release_101 : decode cX6_release 101 = .ok (.dup, 1) := by decide +kernel
theorem dX6_release_102 : decode cX6_release 102 = .ok (.getfield 166, 3) := by decide +kernel
theorem dX6_release_105 : decode cX6_release 105 = .ok (.iload 4, 2) := by decide +kernel
theorem dX6_release_107 : decode cX6_release 107 = .ok (.isub, 1) := by decide +kernel
theorem dX6_release_108 : decode cX6_release 108 = .ok (.putfield 166, 3) := by decide +kernel
theorem dX6_release_111 : decode cX6_release 111 = .ok (.aload_n 0, 1) := by decide +kernel
theorem dX6_release_112 : decode cX6_release 112 = .ok (.getfield 29, 3) := by decide +kernel
theorem dX6_release_115 : decode cX6_release 115 = .ok (.iload 4, 2) := by decide +kernel
theorem dX6_release_117 : decode cX6_release 117 = .ok (.invokevirtual 173, 3) := by decide +kernel
theorem dX6_release_120 : decode cX6_release 120 = .ok (.istore 5, 2) := by decide +kernel
theorem dX6_release_122 : decode cX6_release 122 = .ok (.aload_n 0, 1) := by decide +kernel
theorem dX6_release_123 : decode cX6_release 123 = .ok (.getfield 19, 3) := by decide +kernel
theorem dX6_release_126 : decode cX6_release 126 = .ok (.new 176, 3) := by decide +kernel
theorem dX6_release_129 : decode cX6_release 129 = .ok (.dup, 1) := by decide +kernel
theorem dX6_release_130 : decode cX6_release 130 = .ok (.iload 4, 2) := by decide +kernel
theorem dX6_release_132 : decode cX6_release 132 = .ok (.iload 5, 2) := by decide +kernel
theorem dX6_release_134 : decode cX6_release 134 = .ok (.invokespecial 178, 3) := by decide +kernel
theorem dX6_release_137 : decode cX6_release 137 = .ok (.invokevirtual 74, 3) := by decide +kernel
theorem dX6_release_140 : decode cX6_release 140 = .ok (.pop, 1) := by decide +kernel
theorem dX6_release_141 : decode cX6_release 141 = .ok (.iload 5, 2) := by decide +kernel
theorem dX6_release_143 : decode cX6_release 143 = .ok (.ireturn, 1) := by decide +kernel
set_option maxRecDepth 20000 in
theorem ggX6_permit_X6_isWithin : GoodIn wsX6_permit wsX6_isWithin := goodIn_r _ [8] (by decide +kernel) (by decide +kernel)
set_option maxRecDepth 20000 in
theorem gX6_permit_X6_isWithin : GoodIn wsX6_permit (va_wsS RX6 51 yX6_isWithin wsX6_isWithin) := goodIn_app (goodIn_of _ (by decide +kernel)) ggX6_permit_X6_isWithin
theorem dX6_permit_0 : decode cX6_permit 0 = .ok (.iload_n 1, 1) := by decide +kernel
theorem dX6_permit_1 : decode cX6_permit 1 = .ok (.iconst 0, 1) := by decide +kernel
theorem dX6_permit_2 : decode cX6_permit 2 = .ok (.ldc 179, 2) := by decide +kernel
theorem dX6_permit_4 : decode cX6_permit 4 = .ok (.invokestatic 51, 3) := by decide +kernel
theorem dX6_permit_7 : decode cX6_permit 7 = .ok (.ifCond .ne 13, 3) := by decide +kernel
theorem dX6_permit_10 : decode cX6_permit 10 = .ok (.new 55, 3) := by decide +kernel
theorem dX6_permit_13 : decode cX6_permit 13 = .ok (.dup, 1) := by decide +kernel
theorem dX6_permit_14 : decode cX6_permit 14 = .ok (.ldc 180, 2) := by decide +kernel
theorem dX6_permit_16 : decode cX6_permit 16 = .ok (.invokespecial 59, 3) := by decide +kernel
theorem dX6_permit_19 : decode cX6_permit 19 = .ok (.athrow, 1) := by decide +kernel
theorem dX6_permit_20 : decode cX6_permit 20 = .ok (.aload_n 0, 1) := by decide +kernel
theorem dX6_permit_21 : decode cX6_permit 21 = .ok (.getfield 182, 3) := by decide +kernel
theorem dX6_permit_24 : decode cX6_permit 24 = .ok (.istore_n 2, 1) := by decide +kernel
theorem dX6_permit_25 : decode cX6_permit 25 = .ok (.aload_n 0, 1) := by decide +kernel
theorem dX6_permit_26 : decode cX6_permit 26 = .ok (.iload_n 1, 1) := by decide +kernel
theorem dX6_permit_27 : decode cX6_permit 27 = .ok (.putfield 182, 3) := by decide +kernel
theorem dX6_permit_30 : decode cX6_permit 30 = .ok (.iload_n 2, 1) := by decide +kernel
theorem dX6_permit_31 : decode cX6_permit 31 = .ok (.ireturn, 1) := by decide +kernel
set_option maxRecDepth 20000 in
theorem ggX6_denature_X6_vesselOf : GoodIn wsX6_denature wsX6_vesselOf := goodIn_ca (goodIn_r _ [11, 12, 13, 14, 15, 16, 17, 18, 19, 20, 21, 22, 23, 24, 25, 26, 27, 28, 29, 30, 31, 32, 33, 34, 35, 36, 37, 38, 57, 58, 59, 60, 61, 62, 63, 64, 65, 66, 67, 68, 74, 75, 76] (by decide +kernel) (by decide +kernel)) (goodIn_sub (fun _ h => List.mem_cons_of_mem _ (List.mem_append_right _ h)) (by decide +kernel))
set_option maxRecDepth 20000 in
theorem gX6_denature_X6_vesselOf : GoodIn wsX6_denature (wsV RX6 80 RX6 yX6_vesselOf wsX6_vesselOf) := goodIn_app (goodIn_of _ (by decide +kernel)) ggX6_denature_X6_vesselOf
set_option maxRecDepth 20000 in
theorem ggX6_denature_X5_has : GoodIn wsX6_denature wsX5_has := goodIn_r _ [43, 44, 77, 78, 79, 80] (by decide +kernel) (by decide +kernel)
set_option maxRecDepth 20000 in
theorem gX6_denature_X5_has : GoodIn wsX6_denature (wsV RX6 125 RX5 yX5_has wsX5_has) := goodIn_app (goodIn_of _ (by decide +kernel)) ggX6_denature_X5_has
set_option maxRecDepth 20000 in
theorem ggX6_denature_X5_dropsOf : GoodIn wsX6_denature wsX5_dropsOf := goodIn_r _ [48, 49, 44, 50, 10, 51, 77, 78, 79, 80] (by decide +kernel) (by decide +kernel)
set_option maxRecDepth 20000 in
theorem gX6_denature_X5_dropsOf : GoodIn wsX6_denature (wsV RX6 163 RX5 yX5_dropsOf wsX5_dropsOf) := goodIn_app (goodIn_of _ (by decide +kernel)) ggX6_denature_X5_dropsOf
set_option maxRecDepth 20000 in
theorem ggX6_denature_X5_takeOut : GoodIn wsX6_denature wsX5_takeOut := goodIn_r _ [55, 44, 49, 56, 46, 47, 42, 48, 50, 10, 51, 77, 78, 79, 80] (by decide +kernel) (by decide +kernel)
set_option maxRecDepth 20000 in
theorem gX6_denature_X5_takeOut : GoodIn wsX6_denature (wsV RX6 130 RX5 yX5_takeOut wsX5_takeOut) := goodIn_app (goodIn_of _ (by decide +kernel)) ggX6_denature_X5_takeOut
theorem dX6_denature_0 : decode cX6_denature 0 = .ok (.aload_n 0, 1) := by decide +kernel
theorem dX6_denature_1 : decode cX6_denature 1 = .ok (.iload_n 1, 1) := by decide +kernel
theorem dX6_denature_2 : decode cX6_denature 2 = .ok (.invokevirtual 80, 3) := by decide +kernel
theorem dX6_denature_5 : decode cX6_denature 5 = .ok (.astore_n 3, 1) := by decide +kernel
theorem dX6_denature_6 : decode cX6_denature 6 = .ok (.iload_n 2, 1) := by decide +kernel
theorem dX6_denature_7 : decode cX6_denature 7 = .ok (.iconst 1, 1) := by decide +kernel
theorem dX6_denature_8 : decode cX6_denature 8 = .ok (.if_icmp .ge 13, 3) := by decide +kernel
theorem dX6_denature_11 : decode cX6_denature 11 = .ok (.new 55, 3) := by decide +kernel
theorem dX6_denature_14 : decode cX6_denature 14 = .ok (.dup, 1) := by decide +kernel
theorem dX6_denature_15 : decode cX6_denature 15 = .ok (.ldc 153, 2) := by decide +kernel
theorem dX6_denature_17 : decode cX6_denature 17 = .ok (.invokespecial 59, 3) := by decide +kernel
theorem dX6_denature_20 : decode cX6_denature 20 = .ok (.athrow, 1) := by decide +kernel
theorem dX6_denature_21 : decode cX6_denature 21 = .ok (.aload_n 3, 1) := by decide +kernel
theorem dX6_denature_22 : decode cX6_denature 22 = .ok (.iload_n 2, 1) := by decide +kernel
theorem dX6_denature_23 : decode cX6_denature 23 = .ok (.invokevirtual 125, 3) := by decide +kernel
theorem dX6_denature_26 : decode cX6_denature 26 = .ok (.ifCond .eq 15, 3) := by decide +kernel
theorem dX6_denature_29 : decode cX6_denature 29 = .ok (.aload_n 3, 1) := by decide +kernel
theorem dX6_denature_30 : decode cX6_denature 30 = .ok (.iload_n 2, 1) := by decide +kernel
theorem dX6_denature_31 : decode cX6_denature 31 = .ok (.invokevirtual 163, 3) := by decide +kernel
theorem dX6_denature_34 : decode cX6_denature 34 = .ok (.aload_n 0, 1) := by decide +kernel
theorem dX6_denature_35 : decode cX6_denature 35 = .ok (.getfield 182, 3) := by decide +kernel
theorem dX6_denature_38 : decode cX6_denature 38 = .ok (.if_icmp .le 13, 3) := by decide +kernel
theorem dX6_denature_41 : decode cX6_denature 41 = .ok (.new 64, 3) := by decide +kernel
theorem dX6_denature_44 : decode cX6_denature 44 = .ok (.dup, 1) := by decide +kernel
theorem dX6_denature_45 : decode cX6_denature 45 = .ok (.ldc 185, 2) := by decide +kernel
theorem dX6_denature_47 : decode cX6_denature 47 = .ok (.invokespecial 68, 3) := by decide +kernel
theorem dX6_denature_50 : decode cX6_denature 50 = .ok (.athrow, 1) := by decide +kernel
theorem dX6_denature_51 : decode cX6_denature 51 = .ok (.aload_n 3, 1) := by decide +kernel
theorem dX6_denature_52 : decode cX6_denature 52 = .ok (.iload_n 2, 1) := by decide +kernel
theorem dX6_denature_53 : decode cX6_denature 53 = .ok (.invokevirtual 130, 3) := by decide +kernel
theorem dX6_denature_56 : decode cX6_denature 56 = .ok (.istore 4, 2) := by decide +kernel
theorem dX6_denature_58 : decode cX6_denature 58 = .ok (.aload_n 0, 1) := by decide +kernel
theorem dX6_denature_59 : decode cX6_denature 59 = .ok (.dup, 1) := by decide +kernel
theorem dX6_denature_60 : decode cX6_denature 60 = .ok (.getfield 182, 3) := by decide +kernel
theorem dX6_denature_63 : decode cX6_denature 63 = .ok (.iload 4, 2) := by decide +kernel
theorem dX6_denature_65 : decode cX6_denature 65 = .ok (.isub, 1) := by decide +kernel
theorem dX6_denature_66 : decode cX6_denature 66 = .ok (.putfield 182, 3) := by decide +kernel
theorem dX6_denature_69 : decode cX6_denature 69 = .ok (.aload_n 0, 1) := by decide +kernel
theorem dX6_denature_70 : decode cX6_denature 70 = .ok (.getfield 36, 3) := by decide +kernel
theorem dX6_denature_73 : decode cX6_denature 73 = .ok (.dup, 1) := by decide +kernel
theorem dX6_denature_74 : decode cX6_denature 74 = .ok (.getfield 150, 3) := by decide +kernel
theorem dX6_denature_77 : decode cX6_denature 77 = .ok (.iload 4, 2) := by decide +kernel
theorem dX6_denature_79 : decode cX6_denature 79 = .ok (.iadd, 1) := by decide +kernel
theorem dX6_denature_80 : decode cX6_denature 80 = .ok (.putfield 150, 3) := by decide +kernel
theorem dX6_denature_83 : decode cX6_denature 83 = .ok (.iload 4, 2) := by decide +kernel
theorem dX6_denature_85 : decode cX6_denature 85 = .ok (.ireturn, 1) := by decide +kernel
set_option maxRecDepth 20000 in
theorem ggX6_export_X6_dropsInLots : GoodIn wsX6_export wsX6_dropsInLots := goodIn_r _ [17, 5, 6, 18, 19, 20, 21, 22, 23, 24, 25, 26, 27, 28, 29, 30, 31, 32, 33, 34, 35, 36, 37, 38, 39, 40, 50, 51, 52, 53, 54, 55, 56, 57, 58, 59, 60, 61, 62, 63, 72, 73, 74] (by decide +kernel) (by decide +kernel)
set_option maxRecDepth 20000 in
theorem gX6_export_X6_dropsInLots : GoodIn wsX6_export (wsV RX6 189 RX6 yX6_dropsInLots wsX6_dropsInLots) := goodIn_app (goodIn_of _ (by decide +kernel)) ggX6_export_X6_dropsInLots
set_option maxRecDepth 20000 in
theorem ggX6_export_Jx4a65c_size_8abf5 : GoodIn wsX6_export wsJx4a65c_size_8abf5 := goodIn_r _ [22, 23, 72, 73, 74] (by decide +kernel) (by decide +kernel)
set_option maxRecDepth 20000 in
theorem gX6_export_Jx4a65c_size_8abf5 : GoodIn wsX6_export (wsV RX6 60 RJx4a65c yJx4a65c_size_8abf5 wsJx4a65c_size_8abf5) := goodIn_app (goodIn_of _ (by decide +kernel)) ggX6_export_Jx4a65c_size_8abf5
set_option maxRecDepth 20000 in
theorem ggX6_export_Jx4a65c_get_915e3 : GoodIn wsX6_export wsJx4a65c_get_915e3 := goodIn_r _ [27, 23, 28, 29, 30, 31, 32, 33, 34, 35, 36, 37, 38, 21, 39, 40, 72, 73, 74] (by decide +kernel) (by decide +kernel)
set_option maxRecDepth 20000 in
theorem gX6_export_Jx4a65c_get_915e3 : GoodIn wsX6_export (wsV RX6 194 RJx4a65c yJx4a65c_get_915e3 wsJx4a65c_get_915e3) := goodIn_app (goodIn_of _ (by decide +kernel)) ggX6_export_Jx4a65c_get_915e3
set_option maxRecDepth 20000 in
theorem ggX6_export_X3_drawBack : GoodIn wsX6_export wsX3_drawBack := goodIn_r _ [45, 46, 47, 48, 16, 49, 62, 63] (by decide +kernel) (by decide +kernel)
set_option maxRecDepth 20000 in
theorem gX6_export_X3_drawBack : GoodIn wsX6_export (wsV RX6 202 RX3 yX3_drawBack wsX3_drawBack) := goodIn_app (goodIn_of _ (by decide +kernel)) ggX6_export_X3_drawBack
theorem dX6_export_0 : decode cX6_export 0 = .ok (.iload_n 1, 1) := by decide +kernel
theorem dX6_export_1 : decode cX6_export 1 = .ok (.iconst 1, 1) := by decide +kernel
theorem dX6_export_2 : decode cX6_export 2 = .ok (.if_icmp .ge 13, 3) := by decide +kernel
theorem dX6_export_5 : decode cX6_export 5 = .ok (.new 55, 3) := by decide +kernel
theorem dX6_export_8 : decode cX6_export 8 = .ok (.dup, 1) := by decide +kernel
theorem dX6_export_9 : decode cX6_export 9 = .ok (.ldc 187, 2) := by decide +kernel
theorem dX6_export_11 : decode cX6_export 11 = .ok (.invokespecial 59, 3) := by decide +kernel
theorem dX6_export_14 : decode cX6_export 14 = .ok (.athrow, 1) := by decide +kernel
theorem dX6_export_15 : decode cX6_export 15 = .ok (.iload_n 1, 1) := by decide +kernel
theorem dX6_export_16 : decode cX6_export 16 = .ok (.aload_n 0, 1) := by decide +kernel
theorem dX6_export_17 : decode cX6_export 17 = .ok (.invokevirtual 189, 3) := by decide +kernel
theorem dX6_export_20 : decode cX6_export 20 = .ok (.if_icmp .le 13, 3) := by decide +kernel
theorem dX6_export_23 : decode cX6_export 23 = .ok (.new 64, 3) := by decide +kernel
theorem dX6_export_26 : decode cX6_export 26 = .ok (.dup, 1) := by decide +kernel
theorem dX6_export_27 : decode cX6_export 27 = .ok (.ldc 192, 2) := by decide +kernel
theorem dX6_export_29 : decode cX6_export 29 = .ok (.invokespecial 68, 3) := by decide +kernel
theorem dX6_export_32 : decode cX6_export 32 = .ok (.athrow, 1) := by decide +kernel
theorem dX6_export_33 : decode cX6_export 33 = .ok (.iload_n 1, 1) := by decide +kernel
theorem dX6_export_34 : decode cX6_export 34 = .ok (.istore_n 2, 1) := by decide +kernel
theorem dX6_export_35 : decode cX6_export 35 = .ok (.iconst 0, 1) := by decide +kernel
theorem dX6_export_36 : decode cX6_export 36 = .ok (.istore_n 3, 1) := by decide +kernel
theorem dX6_export_37 : decode cX6_export 37 = .ok (.iconst 0, 1) := by decide +kernel
theorem dX6_export_38 : decode cX6_export 38 = .ok (.istore 4, 2) := by decide +kernel
theorem dX6_export_40 : decode cX6_export 40 = .ok (.iload 4, 2) := by decide +kernel
theorem dX6_export_42 : decode cX6_export 42 = .ok (.aload_n 0, 1) := by decide +kernel
theorem dX6_export_43 : decode cX6_export 43 = .ok (.getfield 19, 3) := by decide +kernel
theorem dX6_export_46 : decode cX6_export 46 = .ok (.invokevirtual 60, 3) := by decide +kernel
theorem dX6_export_49 : decode cX6_export 49 = .ok (.if_icmp .ge 53, 3) := by decide +kernel
theorem dX6_export_52 : decode cX6_export 52 = .ok (.iload_n 2, 1) := by decide +kernel
theorem dX6_export_53 : decode cX6_export 53 = .ok (.ifCond .le 49, 3) := by decide +kernel
theorem dX6_export_56 : decode cX6_export 56 = .ok (.aload_n 0, 1) := by decide +kernel
theorem dX6_export_57 : decode cX6_export 57 = .ok (.getfield 19, 3) := by decide +kernel
theorem dX6_export_60 : decode cX6_export 60 = .ok (.iload 4, 2) := by decide +kernel
theorem dX6_export_62 : decode cX6_export 62 = .ok (.invokevirtual 194, 3) := by decide +kernel
theorem dX6_export_65 : decode cX6_export 65 = .ok (.checkcast 176, 3) := by decide +kernel
theorem dX6_export_68 : decode cX6_export 68 = .ok (.astore 5, 2) := by decide +kernel
theorem dX6_export_70 : decode cX6_export 70 = .ok (.iload_n 2, 1) := by decide +kernel
theorem dX6_export_71 : decode cX6_export 71 = .ok (.aload 5, 2) := by decide +kernel
theorem dX6_export_73 : decode cX6_export 73 = .ok (.getfield 198, 3) := by decide +kernel
theorem dX6_export_76 : decode cX6_export 76 = .ok (.invokestatic 199, 3) := by decide +kernel
theorem dX6_export_79 : decode cX6_export 79 = .ok (.istore 6, 2) := by decide +kernel
theorem dX6_export_81 : decode cX6_export 81 = .ok (.iload_n 3, 1) := by decide +kernel
theorem dX6_export_82 : decode cX6_export 82 = .ok (.aload 5, 2) := by decide +kernel
theorem dX6_export_84 : decode cX6_export 84 = .ok (.iload 6, 2) := by decide +kernel
theorem dX6_export_86 : decode cX6_export 86 = .ok (.invokevirtual 202, 3) := by decide +kernel
theorem dX6_export_89 : decode cX6_export 89 = .ok (.iadd, 1) := by decide +kernel
theorem dX6_export_90 : decode cX6_export 90 = .ok (.istore_n 3, 1) := by decide +kernel
theorem dX6_export_91 : decode cX6_export 91 = .ok (.iload_n 2, 1) := by decide +kernel
theorem dX6_export_92 : decode cX6_export 92 = .ok (.iload 6, 2) := by decide +kernel
theorem dX6_export_94 : decode cX6_export 94 = .ok (.isub, 1) := by decide +kernel
theorem dX6_export_95 : decode cX6_export 95 = .ok (.istore_n 2, 1) := by decide +kernel
theorem dX6_export_96 : decode cX6_export 96 = .ok (.iinc 4 1, 3) := by decide +kernel
theorem dX6_export_99 : decode cX6_export 99 = .ok (.goto (-59), 3) := by decide +kernel
theorem dX6_export_102 : decode cX6_export 102 = .ok (.aload_n 0, 1) := by decide +kernel
theorem dX6_export_103 : decode cX6_export 103 = .ok (.getfield 29, 3) := by decide +kernel
theorem dX6_export_106 : decode cX6_export 106 = .ok (.dup, 1) := by decide +kernel
theorem dX6_export_107 : decode cX6_export 107 = .ok (.getfield 205, 3) := by decide +kernel
theorem dX6_export_110 : decode cX6_export 110 = .ok (.iload_n 3, 1) := by decide +kernel
theorem dX6_export_111 : decode cX6_export 111 = .ok (.isub, 1) := by decide +kernel
theorem dX6_export_112 : decode cX6_export 112 = .ok (.putfield 205, 3) := by decide +kernel
theorem dX6_export_115 : decode cX6_export 115 = .ok (.aload_n 0, 1) := by decide +kernel
theorem dX6_export_116 : decode cX6_export 116 = .ok (.getfield 36, 3) := by decide +kernel
theorem dX6_export_119 : decode cX6_export 119 = .ok (.dup, 1) := by decide +kernel
theorem dX6_export_120 : decode cX6_export 120 = .ok (.getfield 208, 3) := by decide +kernel
theorem dX6_export_123 : decode cX6_export 123 = .ok (.iload_n 1, 1) := by decide +kernel
theorem dX6_export_124 : decode cX6_export 124 = .ok (.iadd, 1) := by decide +kernel
theorem dX6_export_125 : decode cX6_export 125 = .ok (.putfield 208, 3) := by decide +kernel
theorem dX6_export_128 : decode cX6_export 128 = .ok (.iload_n 3, 1) := by decide +kernel
theorem dX6_export_129 : decode cX6_export 129 = .ok (.ireturn, 1) := by decide +kernel
set_option maxRecDepth 20000 in
theorem ggX6_pay_X6_isWithin : GoodIn wsX6_pay wsX6_isWithin := goodIn_r _ [10] (by decide +kernel) (by decide +kernel)
set_option maxRecDepth 20000 in
theorem gX6_pay_X6_isWithin : GoodIn wsX6_pay (va_wsS RX6 51 yX6_isWithin wsX6_isWithin) := goodIn_app (goodIn_of _ (by decide +kernel)) ggX6_pay_X6_isWithin
theorem dX6_pay_0 : decode cX6_pay 0 = .ok (.iload_n 1, 1) := by decide +kernel
theorem dX6_pay_1 : decode cX6_pay 1 = .ok (.iconst 1, 1) := by decide +kernel
theorem dX6_pay_2 : decode cX6_pay 2 = .ok (.ldc 211, 2) := by decide +kernel
theorem dX6_pay_4 : decode cX6_pay 4 = .ok (.invokestatic 51, 3) := by decide +kernel
theorem dX6_pay_7 : decode cX6_pay 7 = .ok (.ifCond .ne 13, 3) := by decide +kernel
theorem dX6_pay_10 : decode cX6_pay 10 = .ok (.new 55, 3) := by decide +kernel
theorem dX6_pay_13 : decode cX6_pay 13 = .ok (.dup, 1) := by decide +kernel
theorem dX6_pay_14 : decode cX6_pay 14 = .ok (.ldc 212, 2) := by decide +kernel
theorem dX6_pay_16 : decode cX6_pay 16 = .ok (.invokespecial 59, 3) := by decide +kernel
theorem dX6_pay_19 : decode cX6_pay 19 = .ok (.athrow, 1) := by decide +kernel
theorem dX6_pay_20 : decode cX6_pay 20 = .ok (.iload_n 1, 1) := by decide +kernel
theorem dX6_pay_21 : decode cX6_pay 21 = .ok (.aload_n 0, 1) := by decide +kernel
theorem dX6_pay_22 : decode cX6_pay 22 = .ok (.getfield 29, 3) := by decide +kernel
theorem dX6_pay_25 : decode cX6_pay 25 = .ok (.getfield 205, 3) := by decide +kernel
theorem dX6_pay_28 : decode cX6_pay 28 = .ok (.if_icmp .le 13, 3) := by decide +kernel
theorem dX6_pay_31 : decode cX6_pay 31 = .ok (.new 64, 3) := by decide +kernel
theorem dX6_pay_34 : decode cX6_pay 34 = .ok (.dup, 1) := by decide +kernel
theorem dX6_pay_35 : decode cX6_pay 35 = .ok (.ldc 214, 2) := by decide +kernel
theorem dX6_pay_37 : decode cX6_pay 37 = .ok (.invokespecial 68, 3) := by decide +kernel
theorem dX6_pay_40 : decode cX6_pay 40 = .ok (.athrow, 1) := by decide +kernel
theorem dX6_pay_41 : decode cX6_pay 41 = .ok (.aload_n 0, 1) := by decide +kernel
theorem dX6_pay_42 : decode cX6_pay 42 = .ok (.getfield 29, 3) := by decide +kernel
theorem dX6_pay_45 : decode cX6_pay 45 = .ok (.dup, 1) := by decide +kernel
theorem dX6_pay_46 : decode cX6_pay 46 = .ok (.getfield 205, 3) := by decide +kernel
theorem dX6_pay_49 : decode cX6_pay 49 = .ok (.iload_n 1, 1) := by decide +kernel
theorem dX6_pay_50 : decode cX6_pay 50 = .ok (.isub, 1) := by decide +kernel
theorem dX6_pay_51 : decode cX6_pay 51 = .ok (.putfield 205, 3) := by decide +kernel
theorem dX6_pay_54 : decode cX6_pay 54 = .ok (.aload_n 0, 1) := by decide +kernel
theorem dX6_pay_55 : decode cX6_pay 55 = .ok (.getfield 29, 3) := by decide +kernel
theorem dX6_pay_58 : decode cX6_pay 58 = .ok (.getfield 205, 3) := by decide +kernel
theorem dX6_pay_61 : decode cX6_pay 61 = .ok (.ireturn, 1) := by decide +kernel
set_option maxRecDepth 20000 in
theorem ggX6_budget_X6_isWithin : GoodIn wsX6_budget wsX6_isWithin := goodIn_r _ [14] (by decide +kernel) (by decide +kernel)
set_option maxRecDepth 20000 in
theorem gX6_budget_X6_isWithin : GoodIn wsX6_budget (va_wsS RX6 51 yX6_isWithin wsX6_isWithin) := goodIn_app (goodIn_of _ (by decide +kernel)) ggX6_budget_X6_isWithin
set_option maxRecDepth 20000 in
theorem ggX6_budget_X0_init : GoodIn wsX6_budget wsX0_init := goodIn_r _ [17, 18, 19, 20, 21, 22, 23, 36, 37, 38] (by decide +kernel) (by decide +kernel)
set_option maxRecDepth 20000 in
theorem gX6_budget_X0_init : GoodIn wsX6_budget (wsX0_init) := ggX6_budget_X0_init
theorem dX6_budget_0 : decode cX6_budget 0 = .ok (.iload_n 1, 1) := by decide +kernel
theorem dX6_budget_1 : decode cX6_budget 1 = .ok (.aload_n 0, 1) := by decide +kernel
theorem dX6_budget_2 : decode cX6_budget 2 = .ok (.getfield 216, 3) := by decide +kernel
theorem dX6_budget_5 : decode cX6_budget 5 = .ok (.if_icmp .le 10, 3) := by decide +kernel
theorem dX6_budget_8 : decode cX6_budget 8 = .ok (.iload_n 1, 1) := by decide +kernel
theorem dX6_budget_9 : decode cX6_budget 9 = .ok (.sipush 900, 3) := by decide +kernel
theorem dX6_budget_12 : decode cX6_budget 12 = .ok (.if_icmp .le 13, 3) := by decide +kernel
theorem dX6_budget_15 : decode cX6_budget 15 = .ok (.new 55, 3) := by decide +kernel
theorem dX6_budget_18 : decode cX6_budget 18 = .ok (.dup, 1) := by decide +kernel
theorem dX6_budget_19 : decode cX6_budget 19 = .ok (.ldc 219, 2) := by decide +kernel
theorem dX6_budget_21 : decode cX6_budget 21 = .ok (.invokespecial 59, 3) := by decide +kernel
theorem dX6_budget_24 : decode cX6_budget 24 = .ok (.athrow, 1) := by decide +kernel
theorem dX6_budget_25 : decode cX6_budget 25 = .ok (.iload_n 2, 1) := by decide +kernel
theorem dX6_budget_26 : decode cX6_budget 26 = .ok (.iconst 0, 1) := by decide +kernel
theorem dX6_budget_27 : decode cX6_budget 27 = .ok (.bipush 99, 2) := by decide +kernel
theorem dX6_budget_29 : decode cX6_budget 29 = .ok (.invokestatic 51, 3) := by decide +kernel
theorem dX6_budget_32 : decode cX6_budget 32 = .ok (.ifCond .eq 13, 3) := by decide +kernel
theorem dX6_budget_35 : decode cX6_budget 35 = .ok (.iload_n 3, 1) := by decide +kernel
theorem dX6_budget_36 : decode cX6_budget 36 = .ok (.iconst 0, 1) := by decide +kernel
theorem dX6_budget_37 : decode cX6_budget 37 = .ok (.ldc 179, 2) := by decide +kernel
theorem dX6_budget_39 : decode cX6_budget 39 = .ok (.invokestatic 51, 3) := by decide +kernel
theorem dX6_budget_42 : decode cX6_budget 42 = .ok (.ifCond .ne 13, 3) := by decide +kernel
theorem dX6_budget_45 : decode cX6_budget 45 = .ok (.new 55, 3) := by decide +kernel
theorem dX6_budget_48 : decode cX6_budget 48 = .ok (.dup, 1) := by decide +kernel
theorem dX6_budget_49 : decode cX6_budget 49 = .ok (.ldc 221, 2) := by decide +kernel
theorem dX6_budget_51 : decode cX6_budget 51 = .ok (.invokespecial 59, 3) := by decide +kernel
theorem dX6_budget_54 : decode cX6_budget 54 = .ok (.athrow, 1) := by decide +kernel
theorem dX6_budget_55 : decode cX6_budget 55 = .ok (.aload_n 0, 1) := by decide +kernel
theorem dX6_budget_56 : decode cX6_budget 56 = .ok (.getfield 159, 3) := by decide +kernel
theorem dX6_budget_59 : decode cX6_budget 59 = .ok (.ifnull 13, 3) := by decide +kernel
theorem dX6_budget_62 : decode cX6_budget 62 = .ok (.new 64, 3) := by decide +kernel
theorem dX6_budget_65 : decode cX6_budget 65 = .ok (.dup, 1) := by decide +kernel
theorem dX6_budget_66 : decode cX6_budget 66 = .ok (.ldc 223, 2) := by decide +kernel
theorem dX6_budget_68 : decode cX6_budget 68 = .ok (.invokespecial 68, 3) := by decide +kernel
theorem dX6_budget_71 : decode cX6_budget 71 = .ok (.athrow, 1) := by decide +kernel
theorem dX6_budget_72 : decode cX6_budget 72 = .ok (.aload_n 0, 1) := by decide +kernel
theorem dX6_budget_73 : decode cX6_budget 73 = .ok (.new 167, 3) := by decide +kernel
theorem dX6_budget_76 : decode cX6_budget 76 = .ok (.dup, 1) := by decide +kernel
theorem dX6_budget_77 : decode cX6_budget 77 = .ok (.iload_n 1, 1) := by decide +kernel
theorem dX6_budget_78 : decode cX6_budget 78 = .ok (.iload_n 2, 1) := by decide +kernel
theorem dX6_budget_79 : decode cX6_budget 79 = .ok (.iload_n 3, 1) := by decide +kernel
theorem dX6_budget_80 : decode cX6_budget 80 = .ok (.invokespecial 225, 3) := by decide +kernel
theorem dX6_budget_83 : decode cX6_budget 83 = .ok (.putfield 159, 3) := by decide +kernel
theorem dX6_budget_86 : decode cX6_budget 86 = .ok (.return_, 1) := by decide +kernel
set_option maxRecDepth 20000 in
theorem ggX6_guarantee_X6_isWithin : GoodIn wsX6_guarantee wsX6_isWithin := goodIn_r _ [11] (by decide +kernel) (by decide +kernel)
set_option maxRecDepth 20000 in
theorem gX6_guarantee_X6_isWithin : GoodIn wsX6_guarantee (va_wsS RX6 51 yX6_isWithin wsX6_isWithin) := goodIn_app (goodIn_of _ (by decide +kernel)) ggX6_guarantee_X6_isWithin
set_option maxRecDepth 20000 in
theorem ggX6_guarantee_X6_dropsThatMove : GoodIn wsX6_guarantee wsX6_dropsThatMove := goodIn_r _ [15, 16, 17, 18, 19, 20, 21, 22, 23, 24, 25, 26, 27, 28, 29, 30, 31, 32, 33, 34, 35, 36, 37, 38, 39, 40, 49, 50, 51, 52, 53, 54, 55, 56, 57, 58, 59, 60, 61, 62, 63, 64, 65, 66, 67, 68] (by decide +kernel) (by decide +kernel)
set_option maxRecDepth 20000 in
theorem gX6_guarantee_X6_dropsThatMove : GoodIn wsX6_guarantee (wsV RX6 228 RX6 yX6_dropsThatMove wsX6_dropsThatMove) := goodIn_app (goodIn_of _ (by decide +kernel)) ggX6_guarantee_X6_dropsThatMove
set_option maxRecDepth 20000 in
theorem ggX6_guarantee_X1_dutyFor : GoodIn wsX6_guarantee wsX1_dutyFor := goodIn_r _ [45, 46, 47, 10, 48, 69, 70, 71] (by decide +kernel) (by decide +kernel)
set_option maxRecDepth 20000 in
theorem gX6_guarantee_X1_dutyFor : GoodIn wsX6_guarantee (wsV RX6 231 RX1 yX1_dutyFor wsX1_dutyFor) := goodIn_app (goodIn_of _ (by decide +kernel)) ggX6_guarantee_X1_dutyFor
theorem dX6_guarantee_0 : decode cX6_guarantee 0 = .ok (.iload_n 1, 1) := by decide +kernel
theorem dX6_guarantee_1 : decode cX6_guarantee 1 = .ok (.iconst 0, 1) := by decide +kernel
theorem dX6_guarantee_2 : decode cX6_guarantee 2 = .ok (.ldc 179, 2) := by decide +kernel
theorem dX6_guarantee_4 : decode cX6_guarantee 4 = .ok (.invokestatic 51, 3) := by decide +kernel
theorem dX6_guarantee_7 : decode cX6_guarantee 7 = .ok (.ifCond .ne 13, 3) := by decide +kernel
theorem dX6_guarantee_10 : decode cX6_guarantee 10 = .ok (.new 55, 3) := by decide +kernel
theorem dX6_guarantee_13 : decode cX6_guarantee 13 = .ok (.dup, 1) := by decide +kernel
theorem dX6_guarantee_14 : decode cX6_guarantee 14 = .ok (.ldc 212, 2) := by decide +kernel
theorem dX6_guarantee_16 : decode cX6_guarantee 16 = .ok (.invokespecial 59, 3) := by decide +kernel
theorem dX6_guarantee_19 : decode cX6_guarantee 19 = .ok (.athrow, 1) := by decide +kernel
theorem dX6_guarantee_20 : decode cX6_guarantee 20 = .ok (.iload_n 1, 1) := by decide +kernel
theorem dX6_guarantee_21 : decode cX6_guarantee 21 = .ok (.aload_n 0, 1) := by decide +kernel
theorem dX6_guarantee_22 : decode cX6_guarantee 22 = .ok (.getfield 29, 3) := by decide +kernel
theorem dX6_guarantee_25 : decode cX6_guarantee 25 = .ok (.aload_n 0, 1) := by decide +kernel
theorem dX6_guarantee_26 : decode cX6_guarantee 26 = .ok (.invokevirtual 228, 3) := by decide +kernel
theorem dX6_guarantee_29 : decode cX6_guarantee 29 = .ok (.invokevirtual 231, 3) := by decide +kernel
theorem dX6_guarantee_32 : decode cX6_guarantee 32 = .ok (.if_icmp .ge 13, 3) := by decide +kernel
theorem dX6_guarantee_35 : decode cX6_guarantee 35 = .ok (.new 64, 3) := by decide +kernel
theorem dX6_guarantee_38 : decode cX6_guarantee 38 = .ok (.dup, 1) := by decide +kernel
theorem dX6_guarantee_39 : decode cX6_guarantee 39 = .ok (.ldc 234, 2) := by decide +kernel
theorem dX6_guarantee_41 : decode cX6_guarantee 41 = .ok (.invokespecial 68, 3) := by decide +kernel
theorem dX6_guarantee_44 : decode cX6_guarantee 44 = .ok (.athrow, 1) := by decide +kernel
theorem dX6_guarantee_45 : decode cX6_guarantee 45 = .ok (.aload_n 0, 1) := by decide +kernel
theorem dX6_guarantee_46 : decode cX6_guarantee 46 = .ok (.getfield 236, 3) := by decide +kernel
theorem dX6_guarantee_49 : decode cX6_guarantee 49 = .ok (.istore_n 2, 1) := by decide +kernel
theorem dX6_guarantee_50 : decode cX6_guarantee 50 = .ok (.aload_n 0, 1) := by decide +kernel
theorem dX6_guarantee_51 : decode cX6_guarantee 51 = .ok (.iload_n 1, 1) := by decide +kernel
theorem dX6_guarantee_52 : decode cX6_guarantee 52 = .ok (.putfield 236, 3) := by decide +kernel
theorem dX6_guarantee_55 : decode cX6_guarantee 55 = .ok (.iload_n 2, 1) := by decide +kernel
theorem dX6_guarantee_56 : decode cX6_guarantee 56 = .ok (.ireturn, 1) := by decide +kernel
set_option maxRecDepth 20000 in
theorem ggX6_ship_X6_vesselOf : GoodIn wsX6_ship wsX6_vesselOf := goodIn_ca (goodIn_r _ [16, 17, 18, 19, 20, 21, 22, 23, 24, 25, 26, 27, 28, 29, 30, 31, 32, 33, 34, 35, 36, 37, 38, 39, 40, 41, 42, 43, 144, 145, 146, 147, 148, 149, 150, 151, 152, 153, 154, 155, 161, 162, 163] (by decide +kernel) (by decide +kernel)) (goodIn_sub (fun _ h => List.mem_cons_of_mem _ (List.mem_append_right _ h)) (by decide +kernel))
set_option maxRecDepth 20000 in
theorem gX6_ship_X6_vesselOf : GoodIn wsX6_ship (wsV RX6 80 RX6 yX6_vesselOf wsX6_vesselOf) := goodIn_app (goodIn_of _ (by decide +kernel)) ggX6_ship_X6_vesselOf
set_option maxRecDepth 20000 in
theorem ggX6_ship_X6_isWithin : GoodIn wsX6_ship wsX6_isWithin := goodIn_r _ [46] (by decide +kernel) (by decide +kernel)
set_option maxRecDepth 20000 in
theorem gX6_ship_X6_isWithin : GoodIn wsX6_ship (va_wsS RX6 51 yX6_isWithin wsX6_isWithin) := goodIn_app (goodIn_of _ (by decide +kernel)) ggX6_ship_X6_isWithin
set_option maxRecDepth 20000 in
theorem ggX6_ship_X5_has : GoodIn wsX6_ship wsX5_has := goodIn_r _ [51, 52, 140, 141, 142, 143] (by decide +kernel) (by decide +kernel)
set_option maxRecDepth 20000 in
theorem gX6_ship_X5_has : GoodIn wsX6_ship (wsV RX6 125 RX5 yX5_has wsX5_has) := goodIn_app (goodIn_of _ (by decide +kernel)) ggX6_ship_X5_has
set_option maxRecDepth 20000 in
theorem ggX6_ship_Jx4a65c_size_8abf5 : GoodIn wsX6_ship wsJx4a65c_size_8abf5 := goodIn_r _ [25, 26, 161, 162, 163] (by decide +kernel) (by decide +kernel)
set_option maxRecDepth 20000 in
theorem gX6_ship_Jx4a65c_size_8abf5 : GoodIn wsX6_ship (wsV RX6 60 RJx4a65c yJx4a65c_size_8abf5 wsJx4a65c_size_8abf5) := goodIn_app (goodIn_of _ (by decide +kernel)) ggX6_ship_Jx4a65c_size_8abf5
set_option maxRecDepth 20000 in
theorem ggX6_ship_X6_dropsThatMove : GoodIn wsX6_ship wsX6_dropsThatMove := goodIn_r _ [56, 5, 57, 21, 22, 23, 24, 25, 26, 27, 28, 29, 30, 31, 32, 33, 34, 35, 36, 37, 38, 39, 40, 41, 42, 43, 144, 145, 146, 147, 148, 149, 150, 151, 152, 153, 154, 155, 156, 157, 158, 159, 160, 161, 162, 163] (by decide +kernel) (by decide +kernel)
set_option maxRecDepth 20000 in
theorem gX6_ship_X6_dropsThatMove : GoodIn wsX6_ship (wsV RX6 228 RX6 yX6_dropsThatMove wsX6_dropsThatMove) := goodIn_app (goodIn_of _ (by decide +kernel)) ggX6_ship_X6_dropsThatMove
set_option maxRecDepth 20000 in
theorem ggX6_ship_X5_dropsOf : GoodIn wsX6_ship wsX5_dropsOf := goodIn_r _ [61, 62, 52, 63, 15, 64, 140, 141, 142, 143] (by decide +kernel) (by decide +kernel)
set_option maxRecDepth 20000 in
theorem gX6_ship_X5_dropsOf : GoodIn wsX6_ship (wsV RX6 163 RX5 yX5_dropsOf wsX5_dropsOf) := goodIn_app (goodIn_of _ (by decide +kernel)) ggX6_ship_X5_dropsOf
set_option maxRecDepth 20000 in
theorem ggX6_ship_X1_dutyFor : GoodIn wsX6_ship wsX1_dutyFor := goodIn_r _ [69, 70, 63, 15, 64, 164, 165, 166] (by decide +kernel) (by decide +kernel)
set_option maxRecDepth 20000 in
theorem gX6_ship_X1_dutyFor : GoodIn wsX6_ship (wsV RX6 231 RX1 yX1_dutyFor wsX1_dutyFor) := goodIn_app (goodIn_of _ (by decide +kernel)) ggX6_ship_X1_dutyFor
set_option maxRecDepth 20000 in
theorem ggX6_ship_X5_takeOut : GoodIn wsX6_ship wsX5_takeOut := goodIn_r _ [74, 52, 62, 75, 59, 60, 50, 61, 63, 15, 64, 140, 141, 142, 143] (by decide +kernel) (by decide +kernel)
set_option maxRecDepth 20000 in
theorem gX6_ship_X5_takeOut : GoodIn wsX6_ship (wsV RX6 130 RX5 yX5_takeOut wsX5_takeOut) := goodIn_app (goodIn_of _ (by decide +kernel)) ggX6_ship_X5_takeOut
set_option maxRecDepth 20000 in
theorem ggX6_ship_X4_init : GoodIn wsX6_ship wsX4_init := goodIn_r _ [78, 79, 80, 81, 82, 83, 84, 85, 86, 156, 157, 158, 159, 160] (by decide +kernel) (by decide +kernel)
set_option maxRecDepth 20000 in
theorem gX6_ship_X4_init : GoodIn wsX6_ship (wsX4_init) := ggX6_ship_X4_init
set_option maxRecDepth 20000 in
theorem ggX6_ship_Jx4a65c_add_9ea2d : GoodIn wsX6_ship wsJx4a65c_add_9ea2d := goodIn_r _ [90, 91, 92, 43, 26, 93, 94, 95, 24, 96, 97, 98, 99, 100, 101, 102, 103, 104, 105, 106, 107, 108, 109, 110, 111, 112, 113, 114, 115, 116, 117, 118, 119, 120, 121, 122, 123, 124, 125, 126, 127, 128, 129, 130, 131, 132, 133, 134, 135, 136, 137, 138, 139, 161, 162, 163] (by decide +kernel) (by decide +kernel)
set_option maxRecDepth 20000 in
theorem gX6_ship_Jx4a65c_add_9ea2d : GoodIn wsX6_ship (wsV RX6 74 RJx4a65c yJx4a65c_add_9ea2d wsJx4a65c_add_9ea2d) := goodIn_app (goodIn_of _ (by decide +kernel)) ggX6_ship_Jx4a65c_add_9ea2d
theorem dX6_ship_0 : decode cX6_ship 0 = .ok (.aload_n 0, 1) := by decide +kernel
theorem dX6_ship_1 : decode cX6_ship 1 = .ok (.iload_n 1, 1) := by decide +kernel
theorem dX6_ship_2 : decode cX6_ship 2 = .ok (.invokevirtual 80, 3) := by decide +kernel
theorem dX6_ship_5 : decode cX6_ship 5 = .ok (.astore 5, 2) := by decide +kernel
theorem dX6_ship_7 : decode cX6_ship 7 = .ok (.aload_n 0, 1) := by decide +kernel
theorem dX6_ship_8 : decode cX6_ship 8 = .ok (.iload_n 2, 1) := by decide +kernel
theorem dX6_ship_9 : decode cX6_ship 9 = .ok (.invokevirtual 80, 3) := by decide +kernel
theorem dX6_ship_12 : decode cX6_ship 12 = .ok (.astore 6, 2) := by decide +kernel
theorem dX6_ship_14 : decode cX6_ship 14 = .ok (.iload_n 3, 1) := by decide +kernel
theorem dX6_ship_15 : decode cX6_ship 15 = .ok (.iconst 1, 1) := by decide +kernel
theorem dX6_ship_16 : decode cX6_ship 16 = .ok (.if_icmp .lt 14, 3) := by decide +kernel
theorem dX6_ship_19 : decode cX6_ship 19 = .ok (.iload 4, 2) := by decide +kernel
theorem dX6_ship_21 : decode cX6_ship 21 = .ok (.iconst 1, 1) := by decide +kernel
theorem dX6_ship_22 : decode cX6_ship 22 = .ok (.bipush 60, 2) := by decide +kernel
theorem dX6_ship_24 : decode cX6_ship 24 = .ok (.invokestatic 51, 3) := by decide +kernel
theorem dX6_ship_27 : decode cX6_ship 27 = .ok (.ifCond .ne 13, 3) := by decide +kernel
theorem dX6_ship_30 : decode cX6_ship 30 = .ok (.new 55, 3) := by decide +kernel
theorem dX6_ship_33 : decode cX6_ship 33 = .ok (.dup, 1) := by decide +kernel
theorem dX6_ship_34 : decode cX6_ship 34 = .ok (.ldc 239, 2) := by decide +kernel
theorem dX6_ship_36 : decode cX6_ship 36 = .ok (.invokespecial 59, 3) := by decide +kernel
theorem dX6_ship_39 : decode cX6_ship 39 = .ok (.athrow, 1) := by decide +kernel
theorem dX6_ship_40 : decode cX6_ship 40 = .ok (.aload 5, 2) := by decide +kernel
theorem dX6_ship_42 : decode cX6_ship 42 = .ok (.getfield 122, 3) := by decide +kernel
theorem dX6_ship_45 : decode cX6_ship 45 = .ok (.aload 6, 2) := by decide +kernel
theorem dX6_ship_47 : decode cX6_ship 47 = .ok (.getfield 122, 3) := by decide +kernel
theorem dX6_ship_50 : decode cX6_ship 50 = .ok (.if_icmp .eq 24, 3) := by decide +kernel
theorem dX6_ship_53 : decode cX6_ship 53 = .ok (.aload 5, 2) := by decide +kernel
theorem dX6_ship_55 : decode cX6_ship 55 = .ok (.iload_n 3, 1) := by decide +kernel
theorem dX6_ship_56 : decode cX6_ship 56 = .ok (.invokevirtual 125, 3) := by decide +kernel
theorem dX6_ship_59 : decode cX6_ship 59 = .ok (.ifCond .eq 15, 3) := by decide +kernel
theorem dX6_ship_62 : decode cX6_ship 62 = .ok (.aload_n 0, 1) := by decide +kernel
theorem dX6_ship_63 : decode cX6_ship 63 = .ok (.getfield 16, 3) := by decide +kernel
theorem dX6_ship_66 : decode cX6_ship 66 = .ok (.invokevirtual 60, 3) := by decide +kernel
theorem dX6_ship_69 : decode cX6_ship 69 = .ok (.bipush 30, 2) := by decide +kernel
theorem dX6_ship_71 : decode cX6_ship 71 = .ok (.if_icmp .lt 13, 3) := by decide +kernel
theorem dX6_ship_74 : decode cX6_ship 74 = .ok (.new 64, 3) := by decide +kernel
theorem dX6_ship_77 : decode cX6_ship 77 = .ok (.dup, 1) := by decide +kernel
theorem dX6_ship_78 : decode cX6_ship 78 = .ok (.ldc 241, 2) := by decide +kernel
theorem dX6_ship_80 : decode cX6_ship 80 = .ok (.invokespecial 68, 3) := by decide +kernel
theorem dX6_ship_83 : decode cX6_ship 83 = .ok (.athrow, 1) := by decide +kernel
theorem dX6_ship_84 : decode cX6_ship 84 = .ok (.aload_n 0, 1) := by decide +kernel
theorem dX6_ship_85 : decode cX6_ship 85 = .ok (.getfield 236, 3) := by decide +kernel
theorem dX6_ship_88 : decode cX6_ship 88 = .ok (.aload_n 0, 1) := by decide +kernel
theorem dX6_ship_89 : decode cX6_ship 89 = .ok (.getfield 29, 3) := by decide +kernel
theorem dX6_ship_92 : decode cX6_ship 92 = .ok (.aload_n 0, 1) := by decide +kernel
theorem dX6_ship_93 : decode cX6_ship 93 = .ok (.invokevirtual 228, 3) := by decide +kernel
theorem dX6_ship_96 : decode cX6_ship 96 = .ok (.aload 5, 2) := by decide +kernel
theorem dX6_ship_98 : decode cX6_ship 98 = .ok (.iload_n 3, 1) := by decide +kernel
theorem dX6_ship_99 : decode cX6_ship 99 = .ok (.invokevirtual 163, 3) := by decide +kernel
theorem dX6_ship_102 : decode cX6_ship 102 = .ok (.iadd, 1) := by decide +kernel
theorem dX6_ship_103 : decode cX6_ship 103 = .ok (.invokevirtual 231, 3) := by decide +kernel
theorem dX6_ship_106 : decode cX6_ship 106 = .ok (.if_icmp .ge 13, 3) := by decide +kernel
theorem dX6_ship_109 : decode cX6_ship 109 = .ok (.new 64, 3) := by decide +kernel
theorem dX6_ship_112 : decode cX6_ship 112 = .ok (.dup, 1) := by decide +kernel
theorem dX6_ship_113 : decode cX6_ship 113 = .ok (.ldc 243, 2) := by decide +kernel
theorem dX6_ship_115 : decode cX6_ship 115 = .ok (.invokespecial 68, 3) := by decide +kernel
theorem dX6_ship_118 : decode cX6_ship 118 = .ok (.athrow, 1) := by decide +kernel
theorem dX6_ship_119 : decode cX6_ship 119 = .ok (.aload_n 0, 1) := by decide +kernel
theorem dX6_ship_120 : decode cX6_ship 120 = .ok (.getfield 16, 3) := by decide +kernel
theorem dX6_ship_123 : decode cX6_ship 123 = .ok (.new 245, 3) := by decide +kernel
theorem dX6_ship_126 : decode cX6_ship 126 = .ok (.dup, 1) := by decide +kernel
theorem dX6_ship_127 : decode cX6_ship 127 = .ok (.aload 6, 2) := by decide +kernel
theorem dX6_ship_129 : decode cX6_ship 129 = .ok (.iload_n 3, 1) := by decide +kernel
theorem dX6_ship_130 : decode cX6_ship 130 = .ok (.aload 5, 2) := by decide +kernel
theorem dX6_ship_132 : decode cX6_ship 132 = .ok (.iload_n 3, 1) := by decide +kernel
theorem dX6_ship_133 : decode cX6_ship 133 = .ok (.invokevirtual 130, 3) := by decide +kernel
theorem dX6_ship_136 : decode cX6_ship 136 = .ok (.aload_n 0, 1) := by decide +kernel
theorem dX6_ship_137 : decode cX6_ship 137 = .ok (.getfield 216, 3) := by decide +kernel
theorem dX6_ship_140 : decode cX6_ship 140 = .ok (.iload 4, 2) := by decide +kernel
theorem dX6_ship_142 : decode cX6_ship 142 = .ok (.iadd, 1) := by decide +kernel
theorem dX6_ship_143 : decode cX6_ship 143 = .ok (.invokespecial 247, 3) := by decide +kernel
theorem dX6_ship_146 : decode cX6_ship 146 = .ok (.invokevirtual 74, 3) := by decide +kernel
theorem dX6_ship_149 : decode cX6_ship 149 = .ok (.pop, 1) := by decide +kernel
theorem dX6_ship_150 : decode cX6_ship 150 = .ok (.aload_n 0, 1) := by decide +kernel
theorem dX6_ship_151 : decode cX6_ship 151 = .ok (.getfield 16, 3) := by decide +kernel
theorem dX6_ship_154 : decode cX6_ship 154 = .ok (.invokevirtual 60, 3) := by decide +kernel
theorem dX6_ship_157 : decode cX6_ship 157 = .ok (.iconst 1, 1) := by decide +kernel
theorem dX6_ship_158 : decode cX6_ship 158 = .ok (.isub, 1) := by decide +kernel
theorem dX6_ship_159 : decode cX6_ship 159 = .ok (.ireturn, 1) := by decide +kernel
set_option maxRecDepth 20000 in
theorem ggX6_arrive_X6_movementOf : GoodIn wsX6_arrive wsX6_movementOf := goodIn_ca (goodIn_r _ [10, 11, 12, 13, 14, 15, 16, 17, 18, 19, 20, 21, 22, 23, 24, 25, 26, 27, 28, 29, 30, 31, 32, 33, 34, 35, 36, 37, 84, 85, 86, 87, 88, 89, 90, 91, 92, 93, 94, 95, 101, 102, 103] (by decide +kernel) (by decide +kernel)) (goodIn_sub (fun _ h => List.mem_cons_of_mem _ (List.mem_append_right _ h)) (by decide +kernel))
set_option maxRecDepth 20000 in
theorem gX6_arrive_X6_movementOf : GoodIn wsX6_arrive (wsV RX6 250 RX6 yX6_movementOf wsX6_movementOf) := goodIn_app (goodIn_of _ (by decide +kernel)) ggX6_arrive_X6_movementOf
set_option maxRecDepth 20000 in
theorem ggX6_arrive_X6_isWithin : GoodIn wsX6_arrive wsX6_isWithin := goodIn_r _ [40] (by decide +kernel) (by decide +kernel)
set_option maxRecDepth 20000 in
theorem gX6_arrive_X6_isWithin : GoodIn wsX6_arrive (va_wsS RX6 51 yX6_isWithin wsX6_isWithin) := goodIn_app (goodIn_of _ (by decide +kernel)) ggX6_arrive_X6_isWithin
set_option maxRecDepth 20000 in
theorem ggX6_arrive_X5_hasRoomFor : GoodIn wsX6_arrive wsX5_hasRoomFor := goodIn_r _ [45, 46, 47, 104, 105, 106, 107] (by decide +kernel) (by decide +kernel)
set_option maxRecDepth 20000 in
theorem gX6_arrive_X5_hasRoomFor : GoodIn wsX6_arrive (wsV RX6 88 RX5 yX5_hasRoomFor wsX5_hasRoomFor) := goodIn_app (goodIn_of _ (by decide +kernel)) ggX6_arrive_X5_hasRoomFor
set_option maxRecDepth 20000 in
theorem ggX6_arrive_X6_part : GoodIn wsX6_arrive wsX6_part := goodIn_r _ [50] (by decide +kernel) (by decide +kernel)
set_option maxRecDepth 20000 in
theorem gX6_arrive_X6_part : GoodIn wsX6_arrive (va_wsS RX6 103 yX6_part wsX6_part) := goodIn_app (goodIn_of _ (by decide +kernel)) ggX6_arrive_X6_part
set_option maxRecDepth 20000 in
theorem ggX6_arrive_X5_comeIn : GoodIn wsX6_arrive wsX5_comeIn := goodIn_r _ [54, 55, 47, 56, 57, 58, 59, 60, 61, 62, 49, 9, 50, 104, 105, 106, 107] (by decide +kernel) (by decide +kernel)
set_option maxRecDepth 20000 in
theorem gX6_arrive_X5_comeIn : GoodIn wsX6_arrive (wsV RX6 97 RX5 yX5_comeIn wsX5_comeIn) := goodIn_app (goodIn_of _ (by decide +kernel)) ggX6_arrive_X5_comeIn
set_option maxRecDepth 20000 in
theorem ggX6_arrive_X6_miss : GoodIn wsX6_arrive wsX6_miss := goodIn_r _ [66, 5, 67, 68, 69, 70, 71, 72, 73, 74, 75, 76, 77, 78, 49, 9, 50, 84, 85, 86, 87, 88, 89, 90, 91, 92, 93, 94, 95, 96, 97, 98, 99, 100, 108, 109, 110] (by decide +kernel) (by decide +kernel)
set_option maxRecDepth 20000 in
theorem gX6_arrive_X6_miss : GoodIn wsX6_arrive (wsV RX6 147 RX6 yX6_miss wsX6_miss) := goodIn_app (goodIn_of _ (by decide +kernel)) ggX6_arrive_X6_miss
theorem dX6_arrive_0 : decode cX6_arrive 0 = .ok (.aload_n 0, 1) := by decide +kernel
theorem dX6_arrive_1 : decode cX6_arrive 1 = .ok (.iload_n 1, 1) := by decide +kernel
theorem dX6_arrive_2 : decode cX6_arrive 2 = .ok (.invokevirtual 250, 3) := by decide +kernel
theorem dX6_arrive_5 : decode cX6_arrive 5 = .ok (.astore_n 3, 1) := by decide +kernel
theorem dX6_arrive_6 : decode cX6_arrive 6 = .ok (.iload_n 2, 1) := by decide +kernel
theorem dX6_arrive_7 : decode cX6_arrive 7 = .ok (.iconst 0, 1) := by decide +kernel
theorem dX6_arrive_8 : decode cX6_arrive 8 = .ok (.aload_n 3, 1) := by decide +kernel
theorem dX6_arrive_9 : decode cX6_arrive 9 = .ok (.getfield 254, 3) := by decide +kernel
theorem dX6_arrive_12 : decode cX6_arrive 12 = .ok (.invokestatic 51, 3) := by decide +kernel
theorem dX6_arrive_15 : decode cX6_arrive 15 = .ok (.ifCond .ne 13, 3) := by decide +kernel
theorem dX6_arrive_18 : decode cX6_arrive 18 = .ok (.new 55, 3) := by decide +kernel
theorem dX6_arrive_21 : decode cX6_arrive 21 = .ok (.dup, 1) := by decide +kernel
theorem dX6_arrive_22 : decode cX6_arrive 22 = .ok (.ldc 255, 2) := by decide +kernel
theorem dX6_arrive_24 : decode cX6_arrive 24 = .ok (.invokespecial 59, 3) := by decide +kernel
theorem dX6_arrive_27 : decode cX6_arrive 27 = .ok (.athrow, 1) := by decide +kernel
theorem dX6_arrive_28 : decode cX6_arrive 28 = .ok (.aload_n 3, 1) := by decide +kernel
theorem dX6_arrive_29 : decode cX6_arrive 29 = .ok (.getfield 257, 3) := by decide +kernel
theorem dX6_arrive_32 : decode cX6_arrive 32 = .ok (.ifCond .ne 14, 3) := by decide +kernel
theorem dX6_arrive_35 : decode cX6_arrive 35 = .ok (.aload_n 3, 1) := by decide +kernel
theorem dX6_arrive_36 : decode cX6_arrive 36 = .ok (.getfield 260, 3) := by decide +kernel
theorem dX6_arrive_39 : decode cX6_arrive 39 = .ok (.iload_n 2, 1) := by decide +kernel
theorem dX6_arrive_40 : decode cX6_arrive 40 = .ok (.invokevirtual 88, 3) := by decide +kernel
theorem dX6_arrive_43 : decode cX6_arrive 43 = .ok (.ifCond .ne 14, 3) := by decide +kernel
theorem dX6_arrive_46 : decode cX6_arrive 46 = .ok (.new 64, 3) := by decide +kernel
theorem dX6_arrive_49 : decode cX6_arrive 49 = .ok (.dup, 1) := by decide +kernel
theorem dX6_arrive_50 : decode cX6_arrive 50 = .ok (.ldc_w 264, 3) := by decide +kernel
theorem dX6_arrive_53 : decode cX6_arrive 53 = .ok (.invokespecial 68, 3) := by decide +kernel
theorem dX6_arrive_56 : decode cX6_arrive 56 = .ok (.athrow, 1) := by decide +kernel
theorem dX6_arrive_57 : decode cX6_arrive 57 = .ok (.aload_n 3, 1) := by decide +kernel
theorem dX6_arrive_58 : decode cX6_arrive 58 = .ok (.getfield 266, 3) := by decide +kernel
theorem dX6_arrive_61 : decode cX6_arrive 61 = .ok (.iload_n 2, 1) := by decide +kernel
theorem dX6_arrive_62 : decode cX6_arrive 62 = .ok (.aload_n 3, 1) := by decide +kernel
theorem dX6_arrive_63 : decode cX6_arrive 63 = .ok (.getfield 254, 3) := by decide +kernel
theorem dX6_arrive_66 : decode cX6_arrive 66 = .ok (.invokestatic 103, 3) := by decide +kernel
theorem dX6_arrive_69 : decode cX6_arrive 69 = .ok (.istore 4, 2) := by decide +kernel
theorem dX6_arrive_71 : decode cX6_arrive 71 = .ok (.aload_n 3, 1) := by decide +kernel
theorem dX6_arrive_72 : decode cX6_arrive 72 = .ok (.iconst 1, 1) := by decide +kernel
theorem dX6_arrive_73 : decode cX6_arrive 73 = .ok (.putfield 257, 3) := by decide +kernel
theorem dX6_arrive_76 : decode cX6_arrive 76 = .ok (.aload_n 3, 1) := by decide +kernel
theorem dX6_arrive_77 : decode cX6_arrive 77 = .ok (.getfield 260, 3) := by decide +kernel
theorem dX6_arrive_80 : decode cX6_arrive 80 = .ok (.iload_n 2, 1) := by decide +kernel
theorem dX6_arrive_81 : decode cX6_arrive 81 = .ok (.iload 4, 2) := by decide +kernel
theorem dX6_arrive_83 : decode cX6_arrive 83 = .ok (.invokevirtual 97, 3) := by decide +kernel
theorem dX6_arrive_86 : decode cX6_arrive 86 = .ok (.aload_n 3, 1) := by decide +kernel
theorem dX6_arrive_87 : decode cX6_arrive 87 = .ok (.getfield 266, 3) := by decide +kernel
theorem dX6_arrive_90 : decode cX6_arrive 90 = .ok (.iload 4, 2) := by decide +kernel
theorem dX6_arrive_92 : decode cX6_arrive 92 = .ok (.isub, 1) := by decide +kernel
theorem dX6_arrive_93 : decode cX6_arrive 93 = .ok (.istore 5, 2) := by decide +kernel
theorem dX6_arrive_95 : decode cX6_arrive 95 = .ok (.iload 5, 2) := by decide +kernel
theorem dX6_arrive_97 : decode cX6_arrive 97 = .ok (.aload_n 3, 1) := by decide +kernel
theorem dX6_arrive_98 : decode cX6_arrive 98 = .ok (.getfield 266, 3) := by decide +kernel
theorem dX6_arrive_101 : decode cX6_arrive 101 = .ok (.sipush 200, 3) := by decide +kernel
theorem dX6_arrive_104 : decode cX6_arrive 104 = .ok (.idiv, 1) := by decide +kernel
theorem dX6_arrive_105 : decode cX6_arrive 105 = .ok (.if_icmp .le 13, 3) := by decide +kernel
theorem dX6_arrive_108 : decode cX6_arrive 108 = .ok (.aload_n 0, 1) := by decide +kernel
theorem dX6_arrive_109 : decode cX6_arrive 109 = .ok (.iload 5, 2) := by decide +kernel
theorem dX6_arrive_111 : decode cX6_arrive 111 = .ok (.invokevirtual 147, 3) := by decide +kernel
theorem dX6_arrive_114 : decode cX6_arrive 114 = .ok (.pop, 1) := by decide +kernel
theorem dX6_arrive_115 : decode cX6_arrive 115 = .ok (.iload 5, 2) := by decide +kernel
theorem dX6_arrive_117 : decode cX6_arrive 117 = .ok (.ireturn, 1) := by decide +kernel
theorem dX6_arrive_118 : decode cX6_arrive 118 = .ok (.aload_n 0, 1) := by decide +kernel
theorem dX6_arrive_119 : decode cX6_arrive 119 = .ok (.getfield 36, 3) := by decide +kernel
theorem dX6_arrive_122 : decode cX6_arrive 122 = .ok (.dup, 1) := by decide +kernel
theorem dX6_arrive_123 : decode cX6_arrive 123 = .ok (.getfield 150, 3) := by decide +kernel
theorem dX6_arrive_126 : decode cX6_arrive 126 = .ok (.iload 5, 2) := by decide +kernel
theorem dX6_arrive_128 : decode cX6_arrive 128 = .ok (.iadd, 1) := by decide +kernel
theorem dX6_arrive_129 : decode cX6_arrive 129 = .ok (.putfield 150, 3) := by decide +kernel
theorem dX6_arrive_132 : decode cX6_arrive 132 = .ok (.iconst 0, 1) := by decide +kernel
theorem dX6_arrive_133 : decode cX6_arrive 133 = .ok (.ireturn, 1) := by decide +kernel
set_option maxRecDepth 20000 in
theorem ggX6_pass_X6_isWithin : GoodIn wsX6_pass wsX6_isWithin := goodIn_r _ [10] (by decide +kernel) (by decide +kernel)
set_option maxRecDepth 20000 in
theorem gX6_pass_X6_isWithin : GoodIn wsX6_pass (va_wsS RX6 51 yX6_isWithin wsX6_isWithin) := goodIn_app (goodIn_of _ (by decide +kernel)) ggX6_pass_X6_isWithin
set_option maxRecDepth 20000 in
theorem ggX6_pass_X6_beginDay : GoodIn wsX6_pass wsX6_beginDay := goodIn_r _ [14, 5, 6, 15, 16, 17, 18, 19, 20, 21, 22, 23, 24, 25, 9, 26, 27, 28, 29, 30, 31, 32, 33, 34, 35, 36, 37, 38, 39, 40, 41, 42, 43, 44, 45, 46, 47, 48, 49, 50, 51, 52, 53, 54, 55, 56, 57, 58, 59, 60, 61, 62, 63, 64, 65, 66, 67, 68, 69, 70, 71, 72, 73, 74, 75, 76, 77, 78, 79, 80, 81, 82, 83, 84, 85, 86, 87, 88, 89, 90, 91, 92, 93, 94, 95, 96, 97, 98, 99, 100, 101, 102, 103, 107, 108, 109, 104, 105, 106, 110, 111, 112, 113, 114, 115, 116, 117, 118, 119, 120, 121, 122, 123, 124, 125, 126] (by decide +kernel) (by decide +kernel)
set_option maxRecDepth 20000 in
theorem gX6_pass_X6_beginDay : GoodIn wsX6_pass (wsV RX6 271 RX6 yX6_beginDay wsX6_beginDay) := goodIn_app (goodIn_of _ (by decide +kernel)) ggX6_pass_X6_beginDay
theorem dX6_pass_0 : decode cX6_pass 0 = .ok (.iload_n 1, 1) := by decide +kernel
theorem dX6_pass_1 : decode cX6_pass 1 = .ok (.iconst 1, 1) := by decide +kernel
theorem dX6_pass_2 : decode cX6_pass 2 = .ok (.bipush 60, 2) := by decide +kernel
theorem dX6_pass_4 : decode cX6_pass 4 = .ok (.invokestatic 51, 3) := by decide +kernel
theorem dX6_pass_7 : decode cX6_pass 7 = .ok (.ifCond .ne 14, 3) := by decide +kernel
theorem dX6_pass_10 : decode cX6_pass 10 = .ok (.new 55, 3) := by decide +kernel
theorem dX6_pass_13 : decode cX6_pass 13 = .ok (.dup, 1) := by decide +kernel
theorem dX6_pass_14 : decode cX6_pass 14 = .ok (.ldc_w 267, 3) := by decide +kernel
theorem dX6_pass_17 : decode cX6_pass 17 = .ok (.invokespecial 59, 3) := by decide +kernel
theorem dX6_pass_20 : decode cX6_pass 20 = .ok (.athrow, 1) := by decide +kernel
theorem dX6_pass_21 : decode cX6_pass 21 = .ok (.aload_n 0, 1) := by decide +kernel
theorem dX6_pass_22 : decode cX6_pass 22 = .ok (.getfield 216, 3) := by decide +kernel
theorem dX6_pass_25 : decode cX6_pass 25 = .ok (.iload_n 1, 1) := by decide +kernel
theorem dX6_pass_26 : decode cX6_pass 26 = .ok (.iadd, 1) := by decide +kernel
theorem dX6_pass_27 : decode cX6_pass 27 = .ok (.sipush 900, 3) := by decide +kernel
theorem dX6_pass_30 : decode cX6_pass 30 = .ok (.if_icmp .le 14, 3) := by decide +kernel
theorem dX6_pass_33 : decode cX6_pass 33 = .ok (.new 64, 3) := by decide +kernel
theorem dX6_pass_36 : decode cX6_pass 36 = .ok (.dup, 1) := by decide +kernel
theorem dX6_pass_37 : decode cX6_pass 37 = .ok (.ldc_w 269, 3) := by decide +kernel
theorem dX6_pass_40 : decode cX6_pass 40 = .ok (.invokespecial 68, 3) := by decide +kernel
theorem dX6_pass_43 : decode cX6_pass 43 = .ok (.athrow, 1) := by decide +kernel
theorem dX6_pass_44 : decode cX6_pass 44 = .ok (.iconst 0, 1) := by decide +kernel
theorem dX6_pass_45 : decode cX6_pass 45 = .ok (.istore_n 2, 1) := by decide +kernel
theorem dX6_pass_46 : decode cX6_pass 46 = .ok (.iload_n 2, 1) := by decide +kernel
theorem dX6_pass_47 : decode cX6_pass 47 = .ok (.iload_n 1, 1) := by decide +kernel
theorem dX6_pass_48 : decode cX6_pass 48 = .ok (.if_icmp .ge 13, 3) := by decide +kernel
theorem dX6_pass_51 : decode cX6_pass 51 = .ok (.aload_n 0, 1) := by decide +kernel
theorem dX6_pass_52 : decode cX6_pass 52 = .ok (.invokevirtual 271, 3) := by decide +kernel
theorem dX6_pass_55 : decode cX6_pass 55 = .ok (.iinc 2 1, 3) := by decide +kernel
theorem dX6_pass_58 : decode cX6_pass 58 = .ok (.goto (-12), 3) := by decide +kernel
theorem dX6_pass_61 : decode cX6_pass 61 = .ok (.aload_n 0, 1) := by decide +kernel
theorem dX6_pass_62 : decode cX6_pass 62 = .ok (.getfield 29, 3) := by decide +kernel
theorem dX6_pass_65 : decode cX6_pass 65 = .ok (.getfield 205, 3) := by decide +kernel
theorem dX6_pass_68 : decode cX6_pass 68 = .ok (.ireturn, 1) := by decide +kernel
theorem dX6_day_0 : decode cX6_day 0 = .ok (.aload_n 0, 1) := by decide +kernel
theorem dX6_day_1 : decode cX6_day 1 = .ok (.getfield 216, 3) := by decide +kernel
theorem dX6_day_4 : decode cX6_day 4 = .ok (.ireturn, 1) := by decide +kernel
set_option maxRecDepth 20000 in
theorem ggX6_ofVessel_X6_vesselOf : GoodIn wsX6_ofVessel wsX6_vesselOf := goodIn_ca (goodIn_r _ [7, 1, 2, 8, 9, 10, 11, 12, 13, 14, 15, 16, 17, 18, 19, 20, 21, 22, 23, 24, 25, 26, 27, 28, 29, 30, 31, 32, 40, 41, 42, 43, 44, 45, 46, 47, 48, 49, 50, 51, 52, 53, 54] (by decide +kernel) (by decide +kernel)) (goodIn_sub (fun _ h => List.mem_cons_of_mem _ (List.mem_append_right _ h)) (by decide +kernel))
set_option maxRecDepth 20000 in
theorem gX6_ofVessel_X6_vesselOf : GoodIn wsX6_ofVessel (wsV RX6 80 RX6 yX6_vesselOf wsX6_vesselOf) := goodIn_app (goodIn_of _ (by decide +kernel)) ggX6_ofVessel_X6_vesselOf
set_option maxRecDepth 20000 in
theorem ggX6_ofVessel_X6_part : GoodIn wsX6_ofVessel wsX6_part := goodIn_r _ [35] (by decide +kernel) (by decide +kernel)
set_option maxRecDepth 20000 in
theorem gX6_ofVessel_X6_part : GoodIn wsX6_ofVessel (va_wsS RX6 103 yX6_part wsX6_part) := goodIn_app (goodIn_of _ (by decide +kernel)) ggX6_ofVessel_X6_part
theorem dX6_ofVessel_0 : decode cX6_ofVessel 0 = .ok (.aload_n 0, 1) := by decide +kernel
theorem dX6_ofVessel_1 : decode cX6_ofVessel 1 = .ok (.iload_n 1, 1) := by decide +kernel
theorem dX6_ofVessel_2 : decode cX6_ofVessel 2 = .ok (.invokevirtual 80, 3) := by decide +kernel
theorem dX6_ofVessel_5 : decode cX6_ofVessel 5 = .ok (.astore_n 3, 1) := by decide +kernel
theorem dX6_ofVessel_6 : decode cX6_ofVessel 6 = .ok (.iload_n 2, 1) := by decide +kernel
theorem dX6_ofVessel_7 : decode cX6_ofVessel 7 = .ok (.tableswitch 71 0 4 #[33, 38, 43, 56, 61], 33) := by decide +kernel
theorem dX6_ofVessel_40 : decode cX6_ofVessel 40 = .ok (.aload_n 3, 1) := by decide +kernel
theorem dX6_ofVessel_41 : decode cX6_ofVessel 41 = .ok (.getfield 133, 3) := by decide +kernel
theorem dX6_ofVessel_44 : decode cX6_ofVessel 44 = .ok (.ireturn, 1) := by decide +kernel
theorem dX6_ofVessel_45 : decode cX6_ofVessel 45 = .ok (.aload_n 3, 1) := by decide +kernel
theorem dX6_ofVessel_46 : decode cX6_ofVessel 46 = .ok (.getfield 144, 3) := by decide +kernel
theorem dX6_ofVessel_49 : decode cX6_ofVessel 49 = .ok (.ireturn, 1) := by decide +kernel
theorem dX6_ofVessel_50 : decode cX6_ofVessel 50 = .ok (.aload_n 3, 1) := by decide +kernel
theorem dX6_ofVessel_51 : decode cX6_ofVessel 51 = .ok (.getfield 144, 3) := by decide +kernel
theorem dX6_ofVessel_54 : decode cX6_ofVessel 54 = .ok (.iconst 1, 1) := by decide +kernel
theorem dX6_ofVessel_55 : decode cX6_ofVessel 55 = .ok (.aload_n 3, 1) := by decide +kernel
theorem dX6_ofVessel_56 : decode cX6_ofVessel 56 = .ok (.getfield 133, 3) := by decide +kernel
theorem dX6_ofVessel_59 : decode cX6_ofVessel 59 = .ok (.invokestatic 103, 3) := by decide +kernel
theorem dX6_ofVessel_62 : decode cX6_ofVessel 62 = .ok (.ireturn, 1) := by decide +kernel
theorem dX6_ofVessel_63 : decode cX6_ofVessel 63 = .ok (.aload_n 3, 1) := by decide +kernel
theorem dX6_ofVessel_64 : decode cX6_ofVessel 64 = .ok (.getfield 122, 3) := by decide +kernel
theorem dX6_ofVessel_67 : decode cX6_ofVessel 67 = .ok (.ireturn, 1) := by decide +kernel
theorem dX6_ofVessel_68 : decode cX6_ofVessel 68 = .ok (.aload_n 3, 1) := by decide +kernel
theorem dX6_ofVessel_69 : decode cX6_ofVessel 69 = .ok (.getfield 136, 3) := by decide +kernel
theorem dX6_ofVessel_72 : decode cX6_ofVessel 72 = .ok (.aload_n 3, 1) := by decide +kernel
theorem dX6_ofVessel_73 : decode cX6_ofVessel 73 = .ok (.getfield 133, 3) := by decide +kernel
theorem dX6_ofVessel_76 : decode cX6_ofVessel 76 = .ok (.isub, 1) := by decide +kernel
theorem dX6_ofVessel_77 : decode cX6_ofVessel 77 = .ok (.ireturn, 1) := by decide +kernel
theorem dX6_ofVessel_78 : decode cX6_ofVessel 78 = .ok (.new 44, 3) := by decide +kernel
theorem dX6_ofVessel_81 : decode cX6_ofVessel 81 = .ok (.dup, 1) := by decide +kernel
theorem dX6_ofVessel_82 : decode cX6_ofVessel 82 = .ok (.ldc_w 274, 3) := by decide +kernel
theorem dX6_ofVessel_85 : decode cX6_ofVessel 85 = .ok (.invokespecial 48, 3) := by decide +kernel
theorem dX6_ofVessel_88 : decode cX6_ofVessel 88 = .ok (.athrow, 1) := by decide +kernel
set_option maxRecDepth 20000 in
theorem ggX6_dropsAnew_X6_vesselOf : GoodIn wsX6_dropsAnew wsX6_vesselOf := goodIn_ca (goodIn_r _ [5, 6, 7, 8, 9, 10, 11, 12, 13, 14, 15, 16, 17, 18, 19, 20, 21, 22, 23, 24, 25, 26, 27, 28, 29, 30, 31, 32, 37, 38, 39, 40, 41, 42, 43, 44, 45, 46, 47, 48, 49, 50, 51] (by decide +kernel) (by decide +kernel)) (goodIn_sub (fun _ h => List.mem_cons_of_mem _ (List.mem_append_right _ h)) (by decide +kernel))
set_option maxRecDepth 20000 in
theorem gX6_dropsAnew_X6_vesselOf : GoodIn wsX6_dropsAnew (wsV RX6 80 RX6 yX6_vesselOf wsX6_vesselOf) := goodIn_app (goodIn_of _ (by decide +kernel)) ggX6_dropsAnew_X6_vesselOf
theorem dX6_dropsAnew_0 : decode cX6_dropsAnew 0 = .ok (.aload_n 0, 1) := by decide +kernel
theorem dX6_dropsAnew_1 : decode cX6_dropsAnew 1 = .ok (.iload_n 1, 1) := by decide +kernel
theorem dX6_dropsAnew_2 : decode cX6_dropsAnew 2 = .ok (.invokevirtual 80, 3) := by decide +kernel
theorem dX6_dropsAnew_5 : decode cX6_dropsAnew 5 = .ok (.getfield 144, 3) := by decide +kernel
theorem dX6_dropsAnew_8 : decode cX6_dropsAnew 8 = .ok (.ireturn, 1) := by decide +kernel
set_option maxRecDepth 20000 in
theorem ggX6_ofMovement_X6_movementOf : GoodIn wsX6_ofMovement wsX6_movementOf := goodIn_ca (goodIn_r _ [7, 1, 2, 8, 9, 10, 11, 12, 13, 14, 15, 16, 17, 18, 19, 20, 21, 22, 23, 24, 25, 26, 27, 28, 29, 30, 31, 32, 38, 39, 40, 41, 42, 43, 44, 45, 46, 47, 48, 49, 50, 51, 52] (by decide +kernel) (by decide +kernel)) (goodIn_sub (fun _ h => List.mem_cons_of_mem _ (List.mem_append_right _ h)) (by decide +kernel))
set_option maxRecDepth 20000 in
theorem gX6_ofMovement_X6_movementOf : GoodIn wsX6_ofMovement (wsV RX6 250 RX6 yX6_movementOf wsX6_movementOf) := goodIn_app (goodIn_of _ (by decide +kernel)) ggX6_ofMovement_X6_movementOf
theorem dX6_ofMovement_0 : decode cX6_ofMovement 0 = .ok (.aload_n 0, 1) := by decide +kernel
theorem dX6_ofMovement_1 : decode cX6_ofMovement 1 = .ok (.iload_n 1, 1) := by decide +kernel
theorem dX6_ofMovement_2 : decode cX6_ofMovement 2 = .ok (.invokevirtual 250, 3) := by decide +kernel
theorem dX6_ofMovement_5 : decode cX6_ofMovement 5 = .ok (.astore_n 3, 1) := by decide +kernel
theorem dX6_ofMovement_6 : decode cX6_ofMovement 6 = .ok (.iload_n 2, 1) := by decide +kernel
theorem dX6_ofMovement_7 : decode cX6_ofMovement 7 = .ok (.tableswitch 49 0 3 #[29, 34, 39, 44], 29) := by decide +kernel
theorem dX6_ofMovement_36 : decode cX6_ofMovement 36 = .ok (.aload_n 3, 1) := by decide +kernel
theorem dX6_ofMovement_37 : decode cX6_ofMovement 37 = .ok (.getfield 257, 3) := by decide +kernel
theorem dX6_ofMovement_40 : decode cX6_ofMovement 40 = .ok (.ireturn, 1) := by decide +kernel
theorem dX6_ofMovement_41 : decode cX6_ofMovement 41 = .ok (.aload_n 3, 1) := by decide +kernel
theorem dX6_ofMovement_42 : decode cX6_ofMovement 42 = .ok (.getfield 254, 3) := by decide +kernel
theorem dX6_ofMovement_45 : decode cX6_ofMovement 45 = .ok (.ireturn, 1) := by decide +kernel
theorem dX6_ofMovement_46 : decode cX6_ofMovement 46 = .ok (.aload_n 3, 1) := by decide +kernel
theorem dX6_ofMovement_47 : decode cX6_ofMovement 47 = .ok (.getfield 266, 3) := by decide +kernel
theorem dX6_ofMovement_50 : decode cX6_ofMovement 50 = .ok (.ireturn, 1) := by decide +kernel
theorem dX6_ofMovement_51 : decode cX6_ofMovement 51 = .ok (.aload_n 3, 1) := by decide +kernel
theorem dX6_ofMovement_52 : decode cX6_ofMovement 52 = .ok (.getfield 276, 3) := by decide +kernel
theorem dX6_ofMovement_55 : decode cX6_ofMovement 55 = .ok (.ireturn, 1) := by decide +kernel
theorem dX6_ofMovement_56 : decode cX6_ofMovement 56 = .ok (.new 44, 3) := by decide +kernel
theorem dX6_ofMovement_59 : decode cX6_ofMovement 59 = .ok (.dup, 1) := by decide +kernel
theorem dX6_ofMovement_60 : decode cX6_ofMovement 60 = .ok (.ldc_w 274, 3) := by decide +kernel
theorem dX6_ofMovement_63 : decode cX6_ofMovement 63 = .ok (.invokespecial 48, 3) := by decide +kernel
theorem dX6_ofMovement_66 : decode cX6_ofMovement 66 = .ok (.athrow, 1) := by decide +kernel
set_option maxRecDepth 20000 in
theorem ggX6_ledger_X6_dropsInVessels : GoodIn wsX6_ledger wsX6_dropsInVessels := goodIn_r _ [8, 9, 10, 11, 12, 13, 14, 15, 16, 17, 18, 19, 20, 21, 22, 23, 24, 25, 26, 27, 28, 29, 30, 31, 32, 33, 46, 47, 48, 49, 50, 51, 52, 53, 54, 55, 56, 57, 63, 64, 65, 66, 67, 68, 69] (by decide +kernel) (by decide +kernel)
set_option maxRecDepth 20000 in
theorem gX6_ledger_X6_dropsInVessels : GoodIn wsX6_ledger (wsV RX6 279 RX6 yX6_dropsInVessels wsX6_dropsInVessels) := goodIn_app (goodIn_of _ (by decide +kernel)) ggX6_ledger_X6_dropsInVessels
set_option maxRecDepth 20000 in
theorem ggX6_ledger_X6_dropsThatMove : GoodIn wsX6_ledger wsX6_dropsThatMove := goodIn_r _ [37, 38, 39, 11, 12, 13, 14, 15, 16, 17, 18, 19, 20, 21, 22, 23, 24, 25, 26, 27, 28, 29, 30, 31, 32, 33, 46, 47, 48, 49, 50, 51, 52, 53, 54, 55, 56, 57, 70, 71, 72, 73, 74, 67, 68, 69] (by decide +kernel) (by decide +kernel)
set_option maxRecDepth 20000 in
theorem gX6_ledger_X6_dropsThatMove : GoodIn wsX6_ledger (wsV RX6 228 RX6 yX6_dropsThatMove wsX6_dropsThatMove) := goodIn_app (goodIn_of _ (by decide +kernel)) ggX6_ledger_X6_dropsThatMove
set_option maxRecDepth 20000 in
theorem ggX6_ledger_X6_dropsInLots : GoodIn wsX6_ledger wsX6_dropsInLots := goodIn_r _ [43, 44, 45, 11, 12, 13, 14, 15, 16, 17, 18, 19, 20, 21, 22, 23, 24, 25, 26, 27, 28, 29, 30, 31, 32, 33, 46, 47, 48, 49, 50, 51, 52, 53, 54, 55, 56, 57, 75, 76, 67, 68, 69] (by decide +kernel) (by decide +kernel)
set_option maxRecDepth 20000 in
theorem gX6_ledger_X6_dropsInLots : GoodIn wsX6_ledger (wsV RX6 189 RX6 yX6_dropsInLots wsX6_dropsInLots) := goodIn_app (goodIn_of _ (by decide +kernel)) ggX6_ledger_X6_dropsInLots
theorem dX6_ledger_0 : decode cX6_ledger 0 = .ok (.iload_n 1, 1) := by decide +kernel
theorem dX6_ledger_1 : decode cX6_ledger 1 = .ok (.tableswitch 102 0 7 #[47, 55, 60, 65, 70, 78, 86, 94], 47) := by decide +kernel
theorem dX6_ledger_48 : decode cX6_ledger 48 = .ok (.aload_n 0, 1) := by decide +kernel
theorem dX6_ledger_49 : decode cX6_ledger 49 = .ok (.getfield 36, 3) := by decide +kernel
theorem dX6_ledger_52 : decode cX6_ledger 52 = .ok (.getfield 100, 3) := by decide +kernel
theorem dX6_ledger_55 : decode cX6_ledger 55 = .ok (.ireturn, 1) := by decide +kernel
theorem dX6_ledger_56 : decode cX6_ledger 56 = .ok (.aload_n 0, 1) := by decide +kernel
theorem dX6_ledger_57 : decode cX6_ledger 57 = .ok (.invokevirtual 279, 3) := by decide +kernel
theorem dX6_ledger_60 : decode cX6_ledger 60 = .ok (.ireturn, 1) := by decide +kernel
theorem dX6_ledger_61 : decode cX6_ledger 61 = .ok (.aload_n 0, 1) := by decide +kernel
theorem dX6_ledger_62 : decode cX6_ledger 62 = .ok (.invokevirtual 228, 3) := by decide +kernel
theorem dX6_ledger_65 : decode cX6_ledger 65 = .ok (.ireturn, 1) := by decide +kernel
theorem dX6_ledger_66 : decode cX6_ledger 66 = .ok (.aload_n 0, 1) := by decide +kernel
theorem dX6_ledger_67 : decode cX6_ledger 67 = .ok (.invokevirtual 189, 3) := by decide +kernel
theorem dX6_ledger_70 : decode cX6_ledger 70 = .ok (.ireturn, 1) := by decide +kernel
theorem dX6_ledger_71 : decode cX6_ledger 71 = .ok (.aload_n 0, 1) := by decide +kernel
theorem dX6_ledger_72 : decode cX6_ledger 72 = .ok (.getfield 36, 3) := by decide +kernel
theorem dX6_ledger_75 : decode cX6_ledger 75 = .ok (.getfield 150, 3) := by decide +kernel
theorem dX6_ledger_78 : decode cX6_ledger 78 = .ok (.ireturn, 1) := by decide +kernel
theorem dX6_ledger_79 : decode cX6_ledger 79 = .ok (.aload_n 0, 1) := by decide +kernel
theorem dX6_ledger_80 : decode cX6_ledger 80 = .ok (.getfield 36, 3) := by decide +kernel
theorem dX6_ledger_83 : decode cX6_ledger 83 = .ok (.getfield 282, 3) := by decide +kernel
theorem dX6_ledger_86 : decode cX6_ledger 86 = .ok (.ireturn, 1) := by decide +kernel
theorem dX6_ledger_87 : decode cX6_ledger 87 = .ok (.aload_n 0, 1) := by decide +kernel
theorem dX6_ledger_88 : decode cX6_ledger 88 = .ok (.getfield 36, 3) := by decide +kernel
theorem dX6_ledger_91 : decode cX6_ledger 91 = .ok (.getfield 208, 3) := by decide +kernel
theorem dX6_ledger_94 : decode cX6_ledger 94 = .ok (.ireturn, 1) := by decide +kernel
theorem dX6_ledger_95 : decode cX6_ledger 95 = .ok (.aload_n 0, 1) := by decide +kernel
theorem dX6_ledger_96 : decode cX6_ledger 96 = .ok (.getfield 36, 3) := by decide +kernel
theorem dX6_ledger_99 : decode cX6_ledger 99 = .ok (.getfield 113, 3) := by decide +kernel
theorem dX6_ledger_102 : decode cX6_ledger 102 = .ok (.ireturn, 1) := by decide +kernel
theorem dX6_ledger_103 : decode cX6_ledger 103 = .ok (.new 55, 3) := by decide +kernel
theorem dX6_ledger_106 : decode cX6_ledger 106 = .ok (.dup, 1) := by decide +kernel
theorem dX6_ledger_107 : decode cX6_ledger 107 = .ok (.ldc_w 274, 3) := by decide +kernel
theorem dX6_ledger_110 : decode cX6_ledger 110 = .ok (.invokespecial 59, 3) := by decide +kernel
theorem dX6_ledger_113 : decode cX6_ledger 113 = .ok (.athrow, 1) := by decide +kernel
set_option maxRecDepth 20000 in
theorem ggX6_duty_X6_dropsThatMove : GoodIn wsX6_duty wsX6_dropsThatMove := goodIn_r _ [11, 12, 13, 14, 15, 16, 17, 18, 19, 20, 21, 22, 23, 24, 25, 26, 27, 28, 29, 30, 31, 32, 33, 34, 35, 36, 45, 46, 47, 48, 49, 50, 51, 52, 53, 54, 55, 56, 63, 64, 65, 66, 67, 68, 69, 70] (by decide +kernel) (by decide +kernel)
set_option maxRecDepth 20000 in
theorem gX6_duty_X6_dropsThatMove : GoodIn wsX6_duty (wsV RX6 228 RX6 yX6_dropsThatMove wsX6_dropsThatMove) := goodIn_app (goodIn_of _ (by decide +kernel)) ggX6_duty_X6_dropsThatMove
set_option maxRecDepth 20000 in
theorem ggX6_duty_X1_dutyFor : GoodIn wsX6_duty wsX1_dutyFor := goodIn_r _ [41, 42, 43, 10, 44, 57, 58, 59] (by decide +kernel) (by decide +kernel)
set_option maxRecDepth 20000 in
theorem gX6_duty_X1_dutyFor : GoodIn wsX6_duty (wsV RX6 231 RX1 yX1_dutyFor wsX1_dutyFor) := goodIn_app (goodIn_of _ (by decide +kernel)) ggX6_duty_X1_dutyFor
theorem dX6_duty_0 : decode cX6_duty 0 = .ok (.iload_n 1, 1) := by decide +kernel
theorem dX6_duty_1 : decode cX6_duty 1 = .ok (.tableswitch 104 0 5 #[39, 47, 55, 74, 82, 87], 39) := by decide +kernel
theorem dX6_duty_40 : decode cX6_duty 40 = .ok (.aload_n 0, 1) := by decide +kernel
theorem dX6_duty_41 : decode cX6_duty 41 = .ok (.getfield 29, 3) := by decide +kernel
theorem dX6_duty_44 : decode cX6_duty 44 = .ok (.getfield 205, 3) := by decide +kernel
theorem dX6_duty_47 : decode cX6_duty 47 = .ok (.ireturn, 1) := by decide +kernel
theorem dX6_duty_48 : decode cX6_duty 48 = .ok (.aload_n 0, 1) := by decide +kernel
theorem dX6_duty_49 : decode cX6_duty 49 = .ok (.getfield 29, 3) := by decide +kernel
theorem dX6_duty_52 : decode cX6_duty 52 = .ok (.getfield 285, 3) := by decide +kernel
theorem dX6_duty_55 : decode cX6_duty 55 = .ok (.ireturn, 1) := by decide +kernel
theorem dX6_duty_56 : decode cX6_duty 56 = .ok (.aload_n 0, 1) := by decide +kernel
theorem dX6_duty_57 : decode cX6_duty 57 = .ok (.getfield 159, 3) := by decide +kernel
theorem dX6_duty_60 : decode cX6_duty 60 = .ok (.ifnonnull 7, 3) := by decide +kernel
theorem dX6_duty_63 : decode cX6_duty 63 = .ok (.iconst (-1), 1) := by decide +kernel
theorem dX6_duty_64 : decode cX6_duty 64 = .ok (.goto 10, 3) := by decide +kernel
theorem dX6_duty_67 : decode cX6_duty 67 = .ok (.aload_n 0, 1) := by decide +kernel
theorem dX6_duty_68 : decode cX6_duty 68 = .ok (.getfield 159, 3) := by decide +kernel
theorem dX6_duty_71 : decode cX6_duty 71 = .ok (.getfield 166, 3) := by decide +kernel
theorem dX6_duty_74 : decode cX6_duty 74 = .ok (.ireturn, 1) := by decide +kernel
theorem dX6_duty_75 : decode cX6_duty 75 = .ok (.aload_n 0, 1) := by decide +kernel
theorem dX6_duty_76 : decode cX6_duty 76 = .ok (.getfield 29, 3) := by decide +kernel
theorem dX6_duty_79 : decode cX6_duty 79 = .ok (.getfield 288, 3) := by decide +kernel
theorem dX6_duty_82 : decode cX6_duty 82 = .ok (.ireturn, 1) := by decide +kernel
theorem dX6_duty_83 : decode cX6_duty 83 = .ok (.aload_n 0, 1) := by decide +kernel
theorem dX6_duty_84 : decode cX6_duty 84 = .ok (.getfield 182, 3) := by decide +kernel
theorem dX6_duty_87 : decode cX6_duty 87 = .ok (.ireturn, 1) := by decide +kernel
theorem dX6_duty_88 : decode cX6_duty 88 = .ok (.aload_n 0, 1) := by decide +kernel
theorem dX6_duty_89 : decode cX6_duty 89 = .ok (.getfield 236, 3) := by decide +kernel
theorem dX6_duty_92 : decode cX6_duty 92 = .ok (.aload_n 0, 1) := by decide +kernel
theorem dX6_duty_93 : decode cX6_duty 93 = .ok (.getfield 29, 3) := by decide +kernel
theorem dX6_duty_96 : decode cX6_duty 96 = .ok (.aload_n 0, 1) := by decide +kernel
theorem dX6_duty_97 : decode cX6_duty 97 = .ok (.invokevirtual 228, 3) := by decide +kernel
theorem dX6_duty_100 : decode cX6_duty 100 = .ok (.invokevirtual 231, 3) := by decide +kernel
theorem dX6_duty_103 : decode cX6_duty 103 = .ok (.isub, 1) := by decide +kernel
theorem dX6_duty_104 : decode cX6_duty 104 = .ok (.ireturn, 1) := by decide +kernel
theorem dX6_duty_105 : decode cX6_duty 105 = .ok (.new 55, 3) := by decide +kernel
theorem dX6_duty_108 : decode cX6_duty 108 = .ok (.dup, 1) := by decide +kernel
theorem dX6_duty_109 : decode cX6_duty 109 = .ok (.ldc_w 274, 3) := by decide +kernel
theorem dX6_duty_112 : decode cX6_duty 112 = .ok (.invokespecial 59, 3) := by decide +kernel
theorem dX6_duty_115 : decode cX6_duty 115 = .ok (.athrow, 1) := by decide +kernel
theorem dX6_isWithin_0 : decode cX6_isWithin 0 = .ok (.iload_n 0, 1) := by decide +kernel
theorem dX6_isWithin_1 : decode cX6_isWithin 1 = .ok (.iload_n 1, 1) := by decide +kernel
theorem dX6_isWithin_2 : decode cX6_isWithin 2 = .ok (.if_icmp .lt 12, 3) := by decide +kernel
theorem dX6_isWithin_5 : decode cX6_isWithin 5 = .ok (.iload_n 0, 1) := by decide +kernel
theorem dX6_isWithin_6 : decode cX6_isWithin 6 = .ok (.iload_n 2, 1) := by decide +kernel
theorem dX6_isWithin_7 : decode cX6_isWithin 7 = .ok (.if_icmp .gt 7, 3) := by decide +kernel
theorem dX6_isWithin_10 : decode cX6_isWithin 10 = .ok (.iconst 1, 1) := by decide +kernel
theorem dX6_isWithin_11 : decode cX6_isWithin 11 = .ok (.goto 4, 3) := by decide +kernel
theorem dX6_isWithin_14 : decode cX6_isWithin 14 = .ok (.iconst 0, 1) := by decide +kernel
theorem dX6_isWithin_15 : decode cX6_isWithin 15 = .ok (.ireturn, 1) := by decide +kernel
theorem dX6_part_0 : decode cX6_part 0 = .ok (.iload_n 2, 1) := by decide +kernel
theorem dX6_part_1 : decode cX6_part 1 = .ok (.iconst 1, 1) := by decide +kernel
theorem dX6_part_2 : decode cX6_part 2 = .ok (.if_icmp .ge 7, 3) := by decide +kernel
theorem dX6_part_5 : decode cX6_part 5 = .ok (.iconst 0, 1) := by decide +kernel
theorem dX6_part_6 : decode cX6_part 6 = .ok (.goto 12, 3) := by decide +kernel
theorem dX6_part_9 : decode cX6_part 9 = .ok (.iload_n 0, 1) := by decide +kernel
theorem dX6_part_10 : decode cX6_part 10 = .ok (.i2l, 1) := by decide +kernel
theorem dX6_part_11 : decode cX6_part 11 = .ok (.iload_n 1, 1) := by decide +kernel
theorem dX6_part_12 : decode cX6_part 12 = .ok (.i2l, 1) := by decide +kernel
theorem dX6_part_13 : decode cX6_part 13 = .ok (.lmul, 1) := by decide +kernel
theorem dX6_part_14 : decode cX6_part 14 = .ok (.iload_n 2, 1) := by decide +kernel
theorem dX6_part_15 : decode cX6_part 15 = .ok (.i2l, 1) := by decide +kernel
theorem dX6_part_16 : decode cX6_part 16 = .ok (.ldiv, 1) := by decide +kernel
theorem dX6_part_17 : decode cX6_part 17 = .ok (.l2i, 1) := by decide +kernel
theorem dX6_part_18 : decode cX6_part 18 = .ok (.ireturn, 1) := by decide +kernel
theorem dX6_isPlace_0 : decode cX6_isPlace 0 = .ok (.iload_n 1, 1) := by decide +kernel
theorem dX6_isPlace_1 : decode cX6_isPlace 1 = .ok (.ifCond .lt 16, 3) := by decide +kernel
theorem dX6_isPlace_4 : decode cX6_isPlace 4 = .ok (.iload_n 1, 1) := by decide +kernel
theorem dX6_isPlace_5 : decode cX6_isPlace 5 = .ok (.aload_n 0, 1) := by decide +kernel
theorem dX6_isPlace_6 : decode cX6_isPlace 6 = .ok (.getfield 22, 3) := by decide +kernel
theorem dX6_isPlace_9 : decode cX6_isPlace 9 = .ok (.arraylength, 1) := by decide +kernel
theorem dX6_isPlace_10 : decode cX6_isPlace 10 = .ok (.if_icmp .ge 7, 3) := by decide +kernel
theorem dX6_isPlace_13 : decode cX6_isPlace 13 = .ok (.iconst 1, 1) := by decide +kernel
theorem dX6_isPlace_14 : decode cX6_isPlace 14 = .ok (.goto 4, 3) := by decide +kernel
theorem dX6_isPlace_17 : decode cX6_isPlace 17 = .ok (.iconst 0, 1) := by decide +kernel
theorem dX6_isPlace_18 : decode cX6_isPlace 18 = .ok (.ireturn, 1) := by decide +kernel
set_option maxRecDepth 20000 in
theorem ggX6_vesselOf_Jx4a65c_size_8abf5 : GoodIn wsX6_vesselOf wsJx4a65c_size_8abf5 := goodIn_r _ [9, 10, 40, 41, 42] (by decide +kernel) (by decide +kernel)
set_option maxRecDepth 20000 in
theorem gX6_vesselOf_Jx4a65c_size_8abf5 : GoodIn wsX6_vesselOf (wsV RX6 60 RJx4a65c yJx4a65c_size_8abf5 wsJx4a65c_size_8abf5) := goodIn_app (goodIn_of _ (by decide +kernel)) ggX6_vesselOf_Jx4a65c_size_8abf5
set_option maxRecDepth 20000 in
theorem ggX6_vesselOf_Jx4a65c_get_915e3 : GoodIn wsX6_vesselOf wsJx4a65c_get_915e3 := goodIn_r _ [14, 10, 15, 16, 17, 18, 19, 20, 21, 22, 23, 24, 25, 8, 26, 27, 40, 41, 42] (by decide +kernel) (by decide +kernel)
set_option maxRecDepth 20000 in
theorem gX6_vesselOf_Jx4a65c_get_915e3 : GoodIn wsX6_vesselOf (wsV RX6 194 RJx4a65c yJx4a65c_get_915e3 wsJx4a65c_get_915e3) := goodIn_app (goodIn_of _ (by decide +kernel)) ggX6_vesselOf_Jx4a65c_get_915e3
theorem dX6_vesselOf_0 : decode cX6_vesselOf 0 = .ok (.iload_n 1, 1) := by decide +kernel
theorem dX6_vesselOf_1 : decode cX6_vesselOf 1 = .ok (.ifCond .lt 14, 3) := by decide +kernel
theorem dX6_vesselOf_4 : decode cX6_vesselOf 4 = .ok (.iload_n 1, 1) := by decide +kernel
theorem dX6_vesselOf_5 : decode cX6_vesselOf 5 = .ok (.aload_n 0, 1) := by decide +kernel
theorem dX6_vesselOf_6 : decode cX6_vesselOf 6 = .ok (.getfield 10, 3) := by decide +kernel
theorem dX6_vesselOf_9 : decode cX6_vesselOf 9 = .ok (.invokevirtual 60, 3) := by decide +kernel
theorem dX6_vesselOf_12 : decode cX6_vesselOf 12 = .ok (.if_icmp .lt 14, 3) := by decide +kernel
theorem dX6_vesselOf_15 : decode cX6_vesselOf 15 = .ok (.new 44, 3) := by decide +kernel
theorem dX6_vesselOf_18 : decode cX6_vesselOf 18 = .ok (.dup, 1) := by decide +kernel
theorem dX6_vesselOf_19 : decode cX6_vesselOf 19 = .ok (.ldc_w 291, 3) := by decide +kernel
theorem dX6_vesselOf_22 : decode cX6_vesselOf 22 = .ok (.invokespecial 48, 3) := by decide +kernel
theorem dX6_vesselOf_25 : decode cX6_vesselOf 25 = .ok (.athrow, 1) := by decide +kernel
theorem dX6_vesselOf_26 : decode cX6_vesselOf 26 = .ok (.aload_n 0, 1) := by decide +kernel
theorem dX6_vesselOf_27 : decode cX6_vesselOf 27 = .ok (.getfield 10, 3) := by decide +kernel
theorem dX6_vesselOf_30 : decode cX6_vesselOf 30 = .ok (.iload_n 1, 1) := by decide +kernel
theorem dX6_vesselOf_31 : decode cX6_vesselOf 31 = .ok (.invokevirtual 194, 3) := by decide +kernel
theorem dX6_vesselOf_34 : decode cX6_vesselOf 34 = .ok (.checkcast 69, 3) := by decide +kernel
theorem dX6_vesselOf_37 : decode cX6_vesselOf 37 = .ok (.areturn, 1) := by decide +kernel
set_option maxRecDepth 20000 in
theorem ggX6_movementOf_Jx4a65c_size_8abf5 : GoodIn wsX6_movementOf wsJx4a65c_size_8abf5 := goodIn_r _ [9, 10, 40, 41, 42] (by decide +kernel) (by decide +kernel)
set_option maxRecDepth 20000 in
theorem gX6_movementOf_Jx4a65c_size_8abf5 : GoodIn wsX6_movementOf (wsV RX6 60 RJx4a65c yJx4a65c_size_8abf5 wsJx4a65c_size_8abf5) := goodIn_app (goodIn_of _ (by decide +kernel)) ggX6_movementOf_Jx4a65c_size_8abf5
set_option maxRecDepth 20000 in
theorem ggX6_movementOf_Jx4a65c_get_915e3 : GoodIn wsX6_movementOf wsJx4a65c_get_915e3 := goodIn_r _ [14, 10, 15, 16, 17, 18, 19, 20, 21, 22, 23, 24, 25, 8, 26, 27, 40, 41, 42] (by decide +kernel) (by decide +kernel)
set_option maxRecDepth 20000 in
theorem gX6_movementOf_Jx4a65c_get_915e3 : GoodIn wsX6_movementOf (wsV RX6 194 RJx4a65c yJx4a65c_get_915e3 wsJx4a65c_get_915e3) := goodIn_app (goodIn_of _ (by decide +kernel)) ggX6_movementOf_Jx4a65c_get_915e3
theorem dX6_movementOf_0 : decode cX6_movementOf 0 = .ok (.iload_n 1, 1) := by decide +kernel
theorem dX6_movementOf_1 : decode cX6_movementOf 1 = .ok (.ifCond .lt 14, 3) := by decide +kernel
theorem dX6_movementOf_4 : decode cX6_movementOf 4 = .ok (.iload_n 1, 1) := by decide +kernel
theorem dX6_movementOf_5 : decode cX6_movementOf 5 = .ok (.aload_n 0, 1) := by decide +kernel
theorem dX6_movementOf_6 : decode cX6_movementOf 6 = .ok (.getfield 16, 3) := by decide +kernel
theorem dX6_movementOf_9 : decode cX6_movementOf 9 = .ok (.invokevirtual 60, 3) := by decide +kernel
theorem dX6_movementOf_12 : decode cX6_movementOf 12 = .ok (.if_icmp .lt 14, 3) := by decide +kernel
theorem dX6_movementOf_15 : decode cX6_movementOf 15 = .ok (.new 44, 3) := by decide +kernel
theorem dX6_movementOf_18 : decode cX6_movementOf 18 = .ok (.dup, 1) := by decide +kernel
theorem dX6_movementOf_19 : decode cX6_movementOf 19 = .ok (.ldc_w 293, 3) := by decide +kernel
theorem dX6_movementOf_22 : decode cX6_movementOf 22 = .ok (.invokespecial 48, 3) := by decide +kernel
theorem dX6_movementOf_25 : decode cX6_movementOf 25 = .ok (.athrow, 1) := by decide +kernel
theorem dX6_movementOf_26 : decode cX6_movementOf 26 = .ok (.aload_n 0, 1) := by decide +kernel
theorem dX6_movementOf_27 : decode cX6_movementOf 27 = .ok (.getfield 16, 3) := by decide +kernel
theorem dX6_movementOf_30 : decode cX6_movementOf 30 = .ok (.iload_n 1, 1) := by decide +kernel
theorem dX6_movementOf_31 : decode cX6_movementOf 31 = .ok (.invokevirtual 194, 3) := by decide +kernel
theorem dX6_movementOf_34 : decode cX6_movementOf 34 = .ok (.checkcast 245, 3) := by decide +kernel
theorem dX6_movementOf_37 : decode cX6_movementOf 37 = .ok (.areturn, 1) := by decide +kernel
set_option maxRecDepth 20000 in
theorem ggX6_dropsInVessels_Jx4a65c_size_8abf5 : GoodIn wsX6_dropsInVessels wsJx4a65c_size_8abf5 := goodIn_r _ [7, 8, 42, 43, 44] (by decide +kernel) (by decide +kernel)
set_option maxRecDepth 20000 in
theorem gX6_dropsInVessels_Jx4a65c_size_8abf5 : GoodIn wsX6_dropsInVessels (wsV RX6 60 RJx4a65c yJx4a65c_size_8abf5 wsJx4a65c_size_8abf5) := goodIn_app (goodIn_of _ (by decide +kernel)) ggX6_dropsInVessels_Jx4a65c_size_8abf5
set_option maxRecDepth 20000 in
theorem ggX6_dropsInVessels_Jx4a65c_get_915e3 : GoodIn wsX6_dropsInVessels wsJx4a65c_get_915e3 := goodIn_r _ [12, 8, 13, 14, 15, 16, 17, 18, 19, 20, 21, 22, 23, 6, 24, 25, 42, 43, 44] (by decide +kernel) (by decide +kernel)
set_option maxRecDepth 20000 in
theorem gX6_dropsInVessels_Jx4a65c_get_915e3 : GoodIn wsX6_dropsInVessels (wsV RX6 194 RJx4a65c yJx4a65c_get_915e3 wsJx4a65c_get_915e3) := goodIn_app (goodIn_of _ (by decide +kernel)) ggX6_dropsInVessels_Jx4a65c_get_915e3
theorem dX6_dropsInVessels_0 : decode cX6_dropsInVessels 0 = .ok (.iconst 0, 1) := by decide +kernel
theorem dX6_dropsInVessels_1 : decode cX6_dropsInVessels 1 = .ok (.istore_n 1, 1) := by decide +kernel
theorem dX6_dropsInVessels_2 : decode cX6_dropsInVessels 2 = .ok (.iconst 0, 1) := by decide +kernel
theorem dX6_dropsInVessels_3 : decode cX6_dropsInVessels 3 = .ok (.istore_n 2, 1) := by decide +kernel
theorem dX6_dropsInVessels_4 : decode cX6_dropsInVessels 4 = .ok (.iload_n 2, 1) := by decide +kernel
theorem dX6_dropsInVessels_5 : decode cX6_dropsInVessels 5 = .ok (.aload_n 0, 1) := by decide +kernel
theorem dX6_dropsInVessels_6 : decode cX6_dropsInVessels 6 = .ok (.getfield 10, 3) := by decide +kernel
theorem dX6_dropsInVessels_9 : decode cX6_dropsInVessels 9 = .ok (.invokevirtual 60, 3) := by decide +kernel
theorem dX6_dropsInVessels_12 : decode cX6_dropsInVessels 12 = .ok (.if_icmp .ge 26, 3) := by decide +kernel
theorem dX6_dropsInVessels_15 : decode cX6_dropsInVessels 15 = .ok (.iload_n 1, 1) := by decide +kernel
theorem dX6_dropsInVessels_16 : decode cX6_dropsInVessels 16 = .ok (.aload_n 0, 1) := by decide +kernel
theorem dX6_dropsInVessels_17 : decode cX6_dropsInVessels 17 = .ok (.getfield 10, 3) := by decide +kernel
theorem dX6_dropsInVessels_20 : decode cX6_dropsInVessels 20 = .ok (.iload_n 2, 1) := by decide +kernel
theorem dX6_dropsInVessels_21 : decode cX6_dropsInVessels 21 = .ok (.invokevirtual 194, 3) := by decide +kernel
theorem dX6_dropsInVessels_24 : decode cX6_dropsInVessels 24 = .ok (.checkcast 69, 3) := by decide +kernel
theorem dX6_dropsInVessels_27 : decode cX6_dropsInVessels 27 = .ok (.getfield 144, 3) := by decide +kernel
theorem dX6_dropsInVessels_30 : decode cX6_dropsInVessels 30 = .ok (.iadd, 1) := by decide +kernel
theorem dX6_dropsInVessels_31 : decode cX6_dropsInVessels 31 = .ok (.istore_n 1, 1) := by decide +kernel
theorem dX6_dropsInVessels_32 : decode cX6_dropsInVessels 32 = .ok (.iinc 2 1, 3) := by decide +kernel
theorem dX6_dropsInVessels_35 : decode cX6_dropsInVessels 35 = .ok (.goto (-31), 3) := by decide +kernel
theorem dX6_dropsInVessels_38 : decode cX6_dropsInVessels 38 = .ok (.iload_n 1, 1) := by decide +kernel
theorem dX6_dropsInVessels_39 : decode cX6_dropsInVessels 39 = .ok (.ireturn, 1) := by decide +kernel
set_option maxRecDepth 20000 in
theorem ggX6_dropsThatMove_Jx4a65c_size_8abf5 : GoodIn wsX6_dropsThatMove wsJx4a65c_size_8abf5 := goodIn_r _ [7, 8, 43, 44, 45] (by decide +kernel) (by decide +kernel)
set_option maxRecDepth 20000 in
theorem gX6_dropsThatMove_Jx4a65c_size_8abf5 : GoodIn wsX6_dropsThatMove (wsV RX6 60 RJx4a65c yJx4a65c_size_8abf5 wsJx4a65c_size_8abf5) := goodIn_app (goodIn_of _ (by decide +kernel)) ggX6_dropsThatMove_Jx4a65c_size_8abf5
set_option maxRecDepth 20000 in
theorem ggX6_dropsThatMove_Jx4a65c_get_915e3 : GoodIn wsX6_dropsThatMove wsJx4a65c_get_915e3 := goodIn_r _ [12, 8, 13, 14, 15, 16, 17, 18, 19, 20, 21, 22, 23, 6, 24, 25, 43, 44, 45] (by decide +kernel) (by decide +kernel)
set_option maxRecDepth 20000 in
theorem gX6_dropsThatMove_Jx4a65c_get_915e3 : GoodIn wsX6_dropsThatMove (wsV RX6 194 RJx4a65c yJx4a65c_get_915e3 wsJx4a65c_get_915e3) := goodIn_app (goodIn_of _ (by decide +kernel)) ggX6_dropsThatMove_Jx4a65c_get_915e3
theorem dX6_dropsThatMove_0 : decode cX6_dropsThatMove 0 = .ok (.iconst 0, 1) := by decide +kernel
theorem dX6_dropsThatMove_1 : decode cX6_dropsThatMove 1 = .ok (.istore_n 1, 1) := by decide +kernel
theorem dX6_dropsThatMove_2 : decode cX6_dropsThatMove 2 = .ok (.iconst 0, 1) := by decide +kernel
theorem dX6_dropsThatMove_3 : decode cX6_dropsThatMove 3 = .ok (.istore_n 2, 1) := by decide +kernel
theorem dX6_dropsThatMove_4 : decode cX6_dropsThatMove 4 = .ok (.iload_n 2, 1) := by decide +kernel
theorem dX6_dropsThatMove_5 : decode cX6_dropsThatMove 5 = .ok (.aload_n 0, 1) := by decide +kernel
theorem dX6_dropsThatMove_6 : decode cX6_dropsThatMove 6 = .ok (.getfield 16, 3) := by decide +kernel
theorem dX6_dropsThatMove_9 : decode cX6_dropsThatMove 9 = .ok (.invokevirtual 60, 3) := by decide +kernel
theorem dX6_dropsThatMove_12 : decode cX6_dropsThatMove 12 = .ok (.if_icmp .ge 39, 3) := by decide +kernel
theorem dX6_dropsThatMove_15 : decode cX6_dropsThatMove 15 = .ok (.aload_n 0, 1) := by decide +kernel
theorem dX6_dropsThatMove_16 : decode cX6_dropsThatMove 16 = .ok (.getfield 16, 3) := by decide +kernel
theorem dX6_dropsThatMove_19 : decode cX6_dropsThatMove 19 = .ok (.iload_n 2, 1) := by decide +kernel
theorem dX6_dropsThatMove_20 : decode cX6_dropsThatMove 20 = .ok (.invokevirtual 194, 3) := by decide +kernel
theorem dX6_dropsThatMove_23 : decode cX6_dropsThatMove 23 = .ok (.checkcast 245, 3) := by decide +kernel
theorem dX6_dropsThatMove_26 : decode cX6_dropsThatMove 26 = .ok (.astore_n 3, 1) := by decide +kernel
theorem dX6_dropsThatMove_27 : decode cX6_dropsThatMove 27 = .ok (.iload_n 1, 1) := by decide +kernel
theorem dX6_dropsThatMove_28 : decode cX6_dropsThatMove 28 = .ok (.aload_n 3, 1) := by decide +kernel
theorem dX6_dropsThatMove_29 : decode cX6_dropsThatMove 29 = .ok (.getfield 257, 3) := by decide +kernel
theorem dX6_dropsThatMove_32 : decode cX6_dropsThatMove 32 = .ok (.ifCond .ne 10, 3) := by decide +kernel
theorem dX6_dropsThatMove_35 : decode cX6_dropsThatMove 35 = .ok (.aload_n 3, 1) := by decide +kernel
theorem dX6_dropsThatMove_36 : decode cX6_dropsThatMove 36 = .ok (.getfield 266, 3) := by decide +kernel
theorem dX6_dropsThatMove_39 : decode cX6_dropsThatMove 39 = .ok (.goto 4, 3) := by decide +kernel
theorem dX6_dropsThatMove_42 : decode cX6_dropsThatMove 42 = .ok (.iconst 0, 1) := by decide +kernel
theorem dX6_dropsThatMove_43 : decode cX6_dropsThatMove 43 = .ok (.iadd, 1) := by decide +kernel
theorem dX6_dropsThatMove_44 : decode cX6_dropsThatMove 44 = .ok (.istore_n 1, 1) := by decide +kernel
theorem dX6_dropsThatMove_45 : decode cX6_dropsThatMove 45 = .ok (.iinc 2 1, 3) := by decide +kernel
theorem dX6_dropsThatMove_48 : decode cX6_dropsThatMove 48 = .ok (.goto (-44), 3) := by decide +kernel
theorem dX6_dropsThatMove_51 : decode cX6_dropsThatMove 51 = .ok (.iload_n 1, 1) := by decide +kernel
theorem dX6_dropsThatMove_52 : decode cX6_dropsThatMove 52 = .ok (.ireturn, 1) := by decide +kernel
set_option maxRecDepth 20000 in
theorem ggX6_dropsInLots_Jx4a65c_size_8abf5 : GoodIn wsX6_dropsInLots wsJx4a65c_size_8abf5 := goodIn_r _ [7, 8, 40, 41, 42] (by decide +kernel) (by decide +kernel)
set_option maxRecDepth 20000 in
theorem gX6_dropsInLots_Jx4a65c_size_8abf5 : GoodIn wsX6_dropsInLots (wsV RX6 60 RJx4a65c yJx4a65c_size_8abf5 wsJx4a65c_size_8abf5) := goodIn_app (goodIn_of _ (by decide +kernel)) ggX6_dropsInLots_Jx4a65c_size_8abf5
set_option maxRecDepth 20000 in
theorem ggX6_dropsInLots_Jx4a65c_get_915e3 : GoodIn wsX6_dropsInLots wsJx4a65c_get_915e3 := goodIn_r _ [12, 8, 13, 14, 15, 16, 17, 18, 19, 20, 21, 22, 23, 6, 24, 25, 40, 41, 42] (by decide +kernel) (by decide +kernel)
set_option maxRecDepth 20000 in
theorem gX6_dropsInLots_Jx4a65c_get_915e3 : GoodIn wsX6_dropsInLots (wsV RX6 194 RJx4a65c yJx4a65c_get_915e3 wsJx4a65c_get_915e3) := goodIn_app (goodIn_of _ (by decide +kernel)) ggX6_dropsInLots_Jx4a65c_get_915e3
theorem dX6_dropsInLots_0 : decode cX6_dropsInLots 0 = .ok (.iconst 0, 1) := by decide +kernel
theorem dX6_dropsInLots_1 : decode cX6_dropsInLots 1 = .ok (.istore_n 1, 1) := by decide +kernel
theorem dX6_dropsInLots_2 : decode cX6_dropsInLots 2 = .ok (.iconst 0, 1) := by decide +kernel
theorem dX6_dropsInLots_3 : decode cX6_dropsInLots 3 = .ok (.istore_n 2, 1) := by decide +kernel
theorem dX6_dropsInLots_4 : decode cX6_dropsInLots 4 = .ok (.iload_n 2, 1) := by decide +kernel
theorem dX6_dropsInLots_5 : decode cX6_dropsInLots 5 = .ok (.aload_n 0, 1) := by decide +kernel
theorem dX6_dropsInLots_6 : decode cX6_dropsInLots 6 = .ok (.getfield 19, 3) := by decide +kernel
theorem dX6_dropsInLots_9 : decode cX6_dropsInLots 9 = .ok (.invokevirtual 60, 3) := by decide +kernel
theorem dX6_dropsInLots_12 : decode cX6_dropsInLots 12 = .ok (.if_icmp .ge 26, 3) := by decide +kernel
theorem dX6_dropsInLots_15 : decode cX6_dropsInLots 15 = .ok (.iload_n 1, 1) := by decide +kernel
theorem dX6_dropsInLots_16 : decode cX6_dropsInLots 16 = .ok (.aload_n 0, 1) := by decide +kernel
theorem dX6_dropsInLots_17 : decode cX6_dropsInLots 17 = .ok (.getfield 19, 3) := by decide +kernel
theorem dX6_dropsInLots_20 : decode cX6_dropsInLots 20 = .ok (.iload_n 2, 1) := by decide +kernel
theorem dX6_dropsInLots_21 : decode cX6_dropsInLots 21 = .ok (.invokevirtual 194, 3) := by decide +kernel
theorem dX6_dropsInLots_24 : decode cX6_dropsInLots 24 = .ok (.checkcast 176, 3) := by decide +kernel
theorem dX6_dropsInLots_27 : decode cX6_dropsInLots 27 = .ok (.getfield 198, 3) := by decide +kernel
theorem dX6_dropsInLots_30 : decode cX6_dropsInLots 30 = .ok (.iadd, 1) := by decide +kernel
theorem dX6_dropsInLots_31 : decode cX6_dropsInLots 31 = .ok (.istore_n 1, 1) := by decide +kernel
theorem dX6_dropsInLots_32 : decode cX6_dropsInLots 32 = .ok (.iinc 2 1, 3) := by decide +kernel
theorem dX6_dropsInLots_35 : decode cX6_dropsInLots 35 = .ok (.goto (-31), 3) := by decide +kernel
theorem dX6_dropsInLots_38 : decode cX6_dropsInLots 38 = .ok (.iload_n 1, 1) := by decide +kernel
theorem dX6_dropsInLots_39 : decode cX6_dropsInLots 39 = .ok (.ireturn, 1) := by decide +kernel
set_option maxRecDepth 20000 in
theorem ggX6_miss_X1_chargeWhole : GoodIn wsX6_miss wsX1_chargeWhole := goodIn_r _ [7, 8, 9, 10, 11, 6, 12, 13, 14, 15, 16, 34, 35, 36] (by decide +kernel) (by decide +kernel)
set_option maxRecDepth 20000 in
theorem gX6_miss_X1_chargeWhole : GoodIn wsX6_miss (wsV RX6 116 RX1 yX1_chargeWhole wsX1_chargeWhole) := goodIn_app (goodIn_of _ (by decide +kernel)) ggX6_miss_X1_chargeWhole
theorem dX6_miss_0 : decode cX6_miss 0 = .ok (.aload_n 0, 1) := by decide +kernel
theorem dX6_miss_1 : decode cX6_miss 1 = .ok (.getfield 36, 3) := by decide +kernel
theorem dX6_miss_4 : decode cX6_miss 4 = .ok (.dup, 1) := by decide +kernel
theorem dX6_miss_5 : decode cX6_miss 5 = .ok (.getfield 282, 3) := by decide +kernel
theorem dX6_miss_8 : decode cX6_miss 8 = .ok (.iload_n 1, 1) := by decide +kernel
theorem dX6_miss_9 : decode cX6_miss 9 = .ok (.iadd, 1) := by decide +kernel
theorem dX6_miss_10 : decode cX6_miss 10 = .ok (.putfield 282, 3) := by decide +kernel
theorem dX6_miss_13 : decode cX6_miss 13 = .ok (.aload_n 0, 1) := by decide +kernel
theorem dX6_miss_14 : decode cX6_miss 14 = .ok (.getfield 29, 3) := by decide +kernel
theorem dX6_miss_17 : decode cX6_miss 17 = .ok (.iload_n 1, 1) := by decide +kernel
theorem dX6_miss_18 : decode cX6_miss 18 = .ok (.invokevirtual 116, 3) := by decide +kernel
theorem dX6_miss_21 : decode cX6_miss 21 = .ok (.ireturn, 1) := by decide +kernel
set_option maxRecDepth 20000 in
theorem ggX6_beginDay_X1_beginYear : GoodIn wsX6_beginDay wsX1_beginYear := goodIn_r _ [8, 9, 10, 96, 97, 98] (by decide +kernel) (by decide +kernel)
set_option maxRecDepth 20000 in
theorem gX6_beginDay_X1_beginYear : GoodIn wsX6_beginDay (wsV RX6 295 RX1 yX1_beginYear wsX1_beginYear) := goodIn_app (goodIn_of _ (by decide +kernel)) ggX6_beginDay_X1_beginYear
set_option maxRecDepth 20000 in
theorem ggX6_beginDay_X6_loseLateMovements : GoodIn wsX6_beginDay wsX6_loseLateMovements := goodIn_r _ [15, 16, 17, 1, 18, 19, 20, 21, 22, 23, 24, 25, 26, 27, 28, 29, 30, 31, 32, 33, 34, 35, 36, 37, 38, 39, 40, 41, 42, 43, 14, 44, 45, 2, 46, 47, 48, 7, 49, 50, 51, 52, 53, 54, 55, 56, 57, 81, 82, 83, 84, 85, 86, 87, 88, 89, 90, 91, 92, 99, 100, 101, 102, 103, 104, 105, 106, 107, 108, 109, 110, 111, 96, 97, 98] (by decide +kernel) (by decide +kernel)
set_option maxRecDepth 20000 in
theorem gX6_beginDay_X6_loseLateMovements : GoodIn wsX6_beginDay (wsV RX6 302 RX6 yX6_loseLateMovements wsX6_loseLateMovements) := goodIn_app (goodIn_of _ (by decide +kernel)) ggX6_beginDay_X6_loseLateMovements
set_option maxRecDepth 20000 in
theorem ggX6_beginDay_X6_takeShares : GoodIn wsX6_beginDay wsX6_takeShares := goodIn_r _ [61, 62, 63, 45, 64, 18, 19, 20, 21, 22, 23, 24, 25, 26, 27, 28, 29, 30, 31, 32, 33, 34, 35, 36, 37, 38, 39, 40, 65, 66, 67, 14, 68, 69, 70, 71, 72, 73, 74, 75, 76, 56, 57, 81, 82, 83, 84, 85, 86, 87, 88, 89, 90, 91, 92, 112, 113, 114, 115, 107, 108, 109, 110, 111, 104, 105, 106] (by decide +kernel) (by decide +kernel)
set_option maxRecDepth 20000 in
theorem gX6_beginDay_X6_takeShares : GoodIn wsX6_beginDay (wsV RX6 305 RX6 yX6_takeShares wsX6_takeShares) := goodIn_app (goodIn_of _ (by decide +kernel)) ggX6_beginDay_X6_takeShares
set_option maxRecDepth 20000 in
theorem ggX6_beginDay_X1_growOwed : GoodIn wsX6_beginDay wsX1_growOwed := goodIn_r _ [80, 50, 96, 97, 98] (by decide +kernel) (by decide +kernel)
set_option maxRecDepth 20000 in
theorem gX6_beginDay_X1_growOwed : GoodIn wsX6_beginDay (wsV RX6 308 RX1 yX1_growOwed wsX1_growOwed) := goodIn_app (goodIn_of _ (by decide +kernel)) ggX6_beginDay_X1_growOwed
theorem dX6_beginDay_0 : decode cX6_beginDay 0 = .ok (.aload_n 0, 1) := by decide +kernel
theorem dX6_beginDay_1 : decode cX6_beginDay 1 = .ok (.dup, 1) := by decide +kernel
theorem dX6_beginDay_2 : decode cX6_beginDay 2 = .ok (.getfield 216, 3) := by decide +kernel
theorem dX6_beginDay_5 : decode cX6_beginDay 5 = .ok (.iconst 1, 1) := by decide +kernel
theorem dX6_beginDay_6 : decode cX6_beginDay 6 = .ok (.iadd, 1) := by decide +kernel
theorem dX6_beginDay_7 : decode cX6_beginDay 7 = .ok (.putfield 216, 3) := by decide +kernel
theorem dX6_beginDay_10 : decode cX6_beginDay 10 = .ok (.aload_n 0, 1) := by decide +kernel
theorem dX6_beginDay_11 : decode cX6_beginDay 11 = .ok (.getfield 216, 3) := by decide +kernel
theorem dX6_beginDay_14 : decode cX6_beginDay 14 = .ok (.bipush 100, 2) := by decide +kernel
theorem dX6_beginDay_16 : decode cX6_beginDay 16 = .ok (.irem, 1) := by decide +kernel
theorem dX6_beginDay_17 : decode cX6_beginDay 17 = .ok (.ifCond .ne 10, 3) := by decide +kernel
theorem dX6_beginDay_20 : decode cX6_beginDay 20 = .ok (.aload_n 0, 1) := by decide +kernel
theorem dX6_beginDay_21 : decode cX6_beginDay 21 = .ok (.getfield 29, 3) := by decide +kernel
theorem dX6_beginDay_24 : decode cX6_beginDay 24 = .ok (.invokevirtual 295, 3) := by decide +kernel
theorem dX6_beginDay_27 : decode cX6_beginDay 27 = .ok (.aload_n 0, 1) := by decide +kernel
theorem dX6_beginDay_28 : decode cX6_beginDay 28 = .ok (.getfield 159, 3) := by decide +kernel
theorem dX6_beginDay_31 : decode cX6_beginDay 31 = .ok (.ifnull 36, 3) := by decide +kernel
theorem dX6_beginDay_34 : decode cX6_beginDay 34 = .ok (.aload_n 0, 1) := by decide +kernel
theorem dX6_beginDay_35 : decode cX6_beginDay 35 = .ok (.getfield 159, 3) := by decide +kernel
theorem dX6_beginDay_38 : decode cX6_beginDay 38 = .ok (.getfield 298, 3) := by decide +kernel
theorem dX6_beginDay_41 : decode cX6_beginDay 41 = .ok (.aload_n 0, 1) := by decide +kernel
theorem dX6_beginDay_42 : decode cX6_beginDay 42 = .ok (.getfield 216, 3) := by decide +kernel
theorem dX6_beginDay_45 : decode cX6_beginDay 45 = .ok (.if_icmp .ne 22, 3) := by decide +kernel
theorem dX6_beginDay_48 : decode cX6_beginDay 48 = .ok (.aload_n 0, 1) := by decide +kernel
theorem dX6_beginDay_49 : decode cX6_beginDay 49 = .ok (.getfield 29, 3) := by decide +kernel
theorem dX6_beginDay_52 : decode cX6_beginDay 52 = .ok (.aload_n 0, 1) := by decide +kernel
theorem dX6_beginDay_53 : decode cX6_beginDay 53 = .ok (.getfield 159, 3) := by decide +kernel
theorem dX6_beginDay_56 : decode cX6_beginDay 56 = .ok (.getfield 301, 3) := by decide +kernel
theorem dX6_beginDay_59 : decode cX6_beginDay 59 = .ok (.putfield 285, 3) := by decide +kernel
theorem dX6_beginDay_62 : decode cX6_beginDay 62 = .ok (.aload_n 0, 1) := by decide +kernel
theorem dX6_beginDay_63 : decode cX6_beginDay 63 = .ok (.aconst_null, 1) := by decide +kernel
theorem dX6_beginDay_64 : decode cX6_beginDay 64 = .ok (.putfield 159, 3) := by decide +kernel
theorem dX6_beginDay_67 : decode cX6_beginDay 67 = .ok (.aload_n 0, 1) := by decide +kernel
theorem dX6_beginDay_68 : decode cX6_beginDay 68 = .ok (.invokevirtual 302, 3) := by decide +kernel
theorem dX6_beginDay_71 : decode cX6_beginDay 71 = .ok (.aload_n 0, 1) := by decide +kernel
theorem dX6_beginDay_72 : decode cX6_beginDay 72 = .ok (.invokevirtual 305, 3) := by decide +kernel
theorem dX6_beginDay_75 : decode cX6_beginDay 75 = .ok (.aload_n 0, 1) := by decide +kernel
theorem dX6_beginDay_76 : decode cX6_beginDay 76 = .ok (.getfield 216, 3) := by decide +kernel
theorem dX6_beginDay_79 : decode cX6_beginDay 79 = .ok (.bipush 30, 2) := by decide +kernel
theorem dX6_beginDay_81 : decode cX6_beginDay 81 = .ok (.irem, 1) := by decide +kernel
theorem dX6_beginDay_82 : decode cX6_beginDay 82 = .ok (.ifCond .ne 10, 3) := by decide +kernel
theorem dX6_beginDay_85 : decode cX6_beginDay 85 = .ok (.aload_n 0, 1) := by decide +kernel
theorem dX6_beginDay_86 : decode cX6_beginDay 86 = .ok (.getfield 29, 3) := by decide +kernel
theorem dX6_beginDay_89 : decode cX6_beginDay 89 = .ok (.invokevirtual 308, 3) := by decide +kernel
theorem dX6_beginDay_92 : decode cX6_beginDay 92 = .ok (.return_, 1) := by decide +kernel
set_option maxRecDepth 20000 in
theorem ggX6_loseLateMovements_Jx4a65c_size_8abf5 : GoodIn wsX6_loseLateMovements wsJx4a65c_size_8abf5 := goodIn_r _ [8, 9, 64, 65, 66] (by decide +kernel) (by decide +kernel)
set_option maxRecDepth 20000 in
theorem gX6_loseLateMovements_Jx4a65c_size_8abf5 : GoodIn wsX6_loseLateMovements (wsV RX6 60 RJx4a65c yJx4a65c_size_8abf5 wsJx4a65c_size_8abf5) := goodIn_app (goodIn_of _ (by decide +kernel)) ggX6_loseLateMovements_Jx4a65c_size_8abf5
set_option maxRecDepth 20000 in
theorem ggX6_loseLateMovements_Jx4a65c_get_915e3 : GoodIn wsX6_loseLateMovements wsJx4a65c_get_915e3 := goodIn_r _ [13, 9, 14, 15, 16, 17, 18, 19, 20, 21, 22, 23, 24, 7, 25, 26, 64, 65, 66] (by decide +kernel) (by decide +kernel)
set_option maxRecDepth 20000 in
theorem gX6_loseLateMovements_Jx4a65c_get_915e3 : GoodIn wsX6_loseLateMovements (wsV RX6 194 RJx4a65c yJx4a65c_get_915e3 wsJx4a65c_get_915e3) := goodIn_app (goodIn_of _ (by decide +kernel)) ggX6_loseLateMovements_Jx4a65c_get_915e3
set_option maxRecDepth 20000 in
theorem ggX6_loseLateMovements_X6_miss : GoodIn wsX6_loseLateMovements wsX6_miss := goodIn_r _ [31, 32, 33, 34, 35, 36, 37, 38, 39, 40, 41, 42, 43, 44, 45, 30, 46, 47, 48, 49, 50, 51, 52, 53, 54, 55, 56, 57, 58, 67, 68, 69, 70, 71, 72, 73, 74] (by decide +kernel) (by decide +kernel)
set_option maxRecDepth 20000 in
theorem gX6_loseLateMovements_X6_miss : GoodIn wsX6_loseLateMovements (wsV RX6 147 RX6 yX6_miss wsX6_miss) := goodIn_app (goodIn_of _ (by decide +kernel)) ggX6_loseLateMovements_X6_miss
theorem dX6_loseLateMovements_0 : decode cX6_loseLateMovements 0 = .ok (.iconst 0, 1) := by decide +kernel
theorem dX6_loseLateMovements_1 : decode cX6_loseLateMovements 1 = .ok (.istore_n 1, 1) := by decide +kernel
theorem dX6_loseLateMovements_2 : decode cX6_loseLateMovements 2 = .ok (.iload_n 1, 1) := by decide +kernel
theorem dX6_loseLateMovements_3 : decode cX6_loseLateMovements 3 = .ok (.aload_n 0, 1) := by decide +kernel
theorem dX6_loseLateMovements_4 : decode cX6_loseLateMovements 4 = .ok (.getfield 16, 3) := by decide +kernel
theorem dX6_loseLateMovements_7 : decode cX6_loseLateMovements 7 = .ok (.invokevirtual 60, 3) := by decide +kernel
theorem dX6_loseLateMovements_10 : decode cX6_loseLateMovements 10 = .ok (.if_icmp .ge 53, 3) := by decide +kernel
theorem dX6_loseLateMovements_13 : decode cX6_loseLateMovements 13 = .ok (.aload_n 0, 1) := by decide +kernel
theorem dX6_loseLateMovements_14 : decode cX6_loseLateMovements 14 = .ok (.getfield 16, 3) := by decide +kernel
theorem dX6_loseLateMovements_17 : decode cX6_loseLateMovements 17 = .ok (.iload_n 1, 1) := by decide +kernel
theorem dX6_loseLateMovements_18 : decode cX6_loseLateMovements 18 = .ok (.invokevirtual 194, 3) := by decide +kernel
theorem dX6_loseLateMovements_21 : decode cX6_loseLateMovements 21 = .ok (.checkcast 245, 3) := by decide +kernel
theorem dX6_loseLateMovements_24 : decode cX6_loseLateMovements 24 = .ok (.astore_n 2, 1) := by decide +kernel
theorem dX6_loseLateMovements_25 : decode cX6_loseLateMovements 25 = .ok (.aload_n 2, 1) := by decide +kernel
theorem dX6_loseLateMovements_26 : decode cX6_loseLateMovements 26 = .ok (.getfield 257, 3) := by decide +kernel
theorem dX6_loseLateMovements_29 : decode cX6_loseLateMovements 29 = .ok (.ifCond .ne 28, 3) := by decide +kernel
theorem dX6_loseLateMovements_32 : decode cX6_loseLateMovements 32 = .ok (.aload_n 0, 1) := by decide +kernel
theorem dX6_loseLateMovements_33 : decode cX6_loseLateMovements 33 = .ok (.getfield 216, 3) := by decide +kernel
theorem dX6_loseLateMovements_36 : decode cX6_loseLateMovements 36 = .ok (.aload_n 2, 1) := by decide +kernel
theorem dX6_loseLateMovements_37 : decode cX6_loseLateMovements 37 = .ok (.getfield 276, 3) := by decide +kernel
theorem dX6_loseLateMovements_40 : decode cX6_loseLateMovements 40 = .ok (.if_icmp .le 17, 3) := by decide +kernel
theorem dX6_loseLateMovements_43 : decode cX6_loseLateMovements 43 = .ok (.aload_n 2, 1) := by decide +kernel
theorem dX6_loseLateMovements_44 : decode cX6_loseLateMovements 44 = .ok (.iconst 2, 1) := by decide +kernel
theorem dX6_loseLateMovements_45 : decode cX6_loseLateMovements 45 = .ok (.putfield 257, 3) := by decide +kernel
theorem dX6_loseLateMovements_48 : decode cX6_loseLateMovements 48 = .ok (.aload_n 0, 1) := by decide +kernel
theorem dX6_loseLateMovements_49 : decode cX6_loseLateMovements 49 = .ok (.aload_n 2, 1) := by decide +kernel
theorem dX6_loseLateMovements_50 : decode cX6_loseLateMovements 50 = .ok (.getfield 266, 3) := by decide +kernel
theorem dX6_loseLateMovements_53 : decode cX6_loseLateMovements 53 = .ok (.invokevirtual 147, 3) := by decide +kernel
theorem dX6_loseLateMovements_56 : decode cX6_loseLateMovements 56 = .ok (.pop, 1) := by decide +kernel
theorem dX6_loseLateMovements_57 : decode cX6_loseLateMovements 57 = .ok (.iinc 1 1, 3) := by decide +kernel
theorem dX6_loseLateMovements_60 : decode cX6_loseLateMovements 60 = .ok (.goto (-58), 3) := by decide +kernel
theorem dX6_loseLateMovements_63 : decode cX6_loseLateMovements 63 = .ok (.return_, 1) := by decide +kernel
set_option maxRecDepth 20000 in
theorem ggX6_takeShares_Jx4a65c_size_8abf5 : GoodIn wsX6_takeShares wsJx4a65c_size_8abf5 := goodIn_r _ [9, 10, 64, 65, 66] (by decide +kernel) (by decide +kernel)
set_option maxRecDepth 20000 in
theorem gX6_takeShares_Jx4a65c_size_8abf5 : GoodIn wsX6_takeShares (wsV RX6 60 RJx4a65c yJx4a65c_size_8abf5 wsJx4a65c_size_8abf5) := goodIn_app (goodIn_of _ (by decide +kernel)) ggX6_takeShares_Jx4a65c_size_8abf5
set_option maxRecDepth 20000 in
theorem ggX6_takeShares_Jx4a65c_get_915e3 : GoodIn wsX6_takeShares wsJx4a65c_get_915e3 := goodIn_r _ [14, 10, 15, 16, 17, 18, 19, 20, 21, 22, 23, 24, 25, 8, 26, 27, 64, 65, 66] (by decide +kernel) (by decide +kernel)
set_option maxRecDepth 20000 in
theorem gX6_takeShares_Jx4a65c_get_915e3 : GoodIn wsX6_takeShares (wsV RX6 194 RJx4a65c yJx4a65c_get_915e3 wsJx4a65c_get_915e3) := goodIn_app (goodIn_of _ (by decide +kernel)) ggX6_takeShares_Jx4a65c_get_915e3
set_option maxRecDepth 20000 in
theorem ggX6_takeShares_X6_isPlace : GoodIn wsX6_takeShares wsX6_isPlace := goodIn_r _ [32, 4, 43, 44, 45, 46, 47, 48, 49, 50, 51, 52, 53, 54] (by decide +kernel) (by decide +kernel)
set_option maxRecDepth 20000 in
theorem gX6_takeShares_X6_isPlace : GoodIn wsX6_takeShares (wsV RX6 40 RX6 yX6_isPlace wsX6_isPlace) := goodIn_app (goodIn_of _ (by decide +kernel)) ggX6_takeShares_X6_isPlace
set_option maxRecDepth 20000 in
theorem ggX6_takeShares_X5_takeShare : GoodIn wsX6_takeShares wsX5_takeShare := goodIn_r _ [37, 38, 39, 40, 41, 31, 42, 55, 56, 57, 58] (by decide +kernel) (by decide +kernel)
set_option maxRecDepth 20000 in
theorem gX6_takeShares_X5_takeShare : GoodIn wsX6_takeShares (wsV RX6 311 RX5 yX5_takeShare wsX5_takeShare) := goodIn_app (goodIn_of _ (by decide +kernel)) ggX6_takeShares_X5_takeShare
theorem dX6_takeShares_0 : decode cX6_takeShares 0 = .ok (.iconst 0, 1) := by decide +kernel
theorem dX6_takeShares_1 : decode cX6_takeShares 1 = .ok (.istore_n 1, 1) := by decide +kernel
theorem dX6_takeShares_2 : decode cX6_takeShares 2 = .ok (.iload_n 1, 1) := by decide +kernel
theorem dX6_takeShares_3 : decode cX6_takeShares 3 = .ok (.aload_n 0, 1) := by decide +kernel
theorem dX6_takeShares_4 : decode cX6_takeShares 4 = .ok (.getfield 10, 3) := by decide +kernel
theorem dX6_takeShares_7 : decode cX6_takeShares 7 = .ok (.invokevirtual 60, 3) := by decide +kernel
theorem dX6_takeShares_10 : decode cX6_takeShares 10 = .ok (.if_icmp .ge 57, 3) := by decide +kernel
theorem dX6_takeShares_13 : decode cX6_takeShares 13 = .ok (.aload_n 0, 1) := by decide +kernel
theorem dX6_takeShares_14 : decode cX6_takeShares 14 = .ok (.getfield 10, 3) := by decide +kernel
theorem dX6_takeShares_17 : decode cX6_takeShares 17 = .ok (.iload_n 1, 1) := by decide +kernel
theorem dX6_takeShares_18 : decode cX6_takeShares 18 = .ok (.invokevirtual 194, 3) := by decide +kernel
theorem dX6_takeShares_21 : decode cX6_takeShares 21 = .ok (.checkcast 69, 3) := by decide +kernel
theorem dX6_takeShares_24 : decode cX6_takeShares 24 = .ok (.astore_n 2, 1) := by decide +kernel
theorem dX6_takeShares_25 : decode cX6_takeShares 25 = .ok (.aload_n 0, 1) := by decide +kernel
theorem dX6_takeShares_26 : decode cX6_takeShares 26 = .ok (.aload_n 2, 1) := by decide +kernel
theorem dX6_takeShares_27 : decode cX6_takeShares 27 = .ok (.getfield 122, 3) := by decide +kernel
theorem dX6_takeShares_30 : decode cX6_takeShares 30 = .ok (.invokevirtual 40, 3) := by decide +kernel
theorem dX6_takeShares_33 : decode cX6_takeShares 33 = .ok (.ifCond .eq 28, 3) := by decide +kernel
theorem dX6_takeShares_36 : decode cX6_takeShares 36 = .ok (.aload_n 0, 1) := by decide +kernel
theorem dX6_takeShares_37 : decode cX6_takeShares 37 = .ok (.getfield 36, 3) := by decide +kernel
theorem dX6_takeShares_40 : decode cX6_takeShares 40 = .ok (.dup, 1) := by decide +kernel
theorem dX6_takeShares_41 : decode cX6_takeShares 41 = .ok (.getfield 150, 3) := by decide +kernel
theorem dX6_takeShares_44 : decode cX6_takeShares 44 = .ok (.aload_n 2, 1) := by decide +kernel
theorem dX6_takeShares_45 : decode cX6_takeShares 45 = .ok (.aload_n 0, 1) := by decide +kernel
theorem dX6_takeShares_46 : decode cX6_takeShares 46 = .ok (.getfield 22, 3) := by decide +kernel
theorem dX6_takeShares_49 : decode cX6_takeShares 49 = .ok (.aload_n 2, 1) := by decide +kernel
theorem dX6_takeShares_50 : decode cX6_takeShares 50 = .ok (.getfield 122, 3) := by decide +kernel
theorem dX6_takeShares_53 : decode cX6_takeShares 53 = .ok (.iaload, 1) := by decide +kernel
theorem dX6_takeShares_54 : decode cX6_takeShares 54 = .ok (.invokevirtual 311, 3) := by decide +kernel
theorem dX6_takeShares_57 : decode cX6_takeShares 57 = .ok (.iadd, 1) := by decide +kernel
theorem dX6_takeShares_58 : decode cX6_takeShares 58 = .ok (.putfield 150, 3) := by decide +kernel
theorem dX6_takeShares_61 : decode cX6_takeShares 61 = .ok (.iinc 1 1, 3) := by decide +kernel
theorem dX6_takeShares_64 : decode cX6_takeShares 64 = .ok (.goto (-62), 3) := by decide +kernel
theorem dX6_takeShares_67 : decode cX6_takeShares 67 = .ok (.return_, 1) := by decide +kernel
theorem dX7_init_0 : decode cX7_init 0 = .ok (.aload_n 0, 1) := by decide +kernel
theorem dX7_init_1 : decode cX7_init 1 = .ok (.invokespecial 1, 3) := by decide +kernel
theorem dX7_init_4 : decode cX7_init 4 = .ok (.aload_n 0, 1) := by decide +kernel
theorem dX7_init_5 : decode cX7_init 5 = .ok (.bipush 10, 2) := by decide +kernel
theorem dX7_init_7 : decode cX7_init 7 = .ok (.newarray .int, 2) := by decide +kernel
theorem dX7_init_9 : decode cX7_init 9 = .ok (.putfield 7, 3) := by decide +kernel
theorem dX7_init_12 : decode cX7_init 12 = .ok (.aload_n 0, 1) := by decide +kernel
theorem dX7_init_13 : decode cX7_init 13 = .ok (.bipush 10, 2) := by decide +kernel
theorem dX7_init_15 : decode cX7_init 15 = .ok (.newarray .int, 2) := by decide +kernel
theorem dX7_init_17 : decode cX7_init 17 = .ok (.putfield 13, 3) := by decide +kernel
theorem dX7_init_20 : decode cX7_init 20 = .ok (.aload_n 0, 1) := by decide +kernel
theorem dX7_init_21 : decode cX7_init 21 = .ok (.bipush 10, 2) := by decide +kernel
theorem dX7_init_23 : decode cX7_init 23 = .ok (.newarray .int, 2) := by decide +kernel
theorem dX7_init_25 : decode cX7_init 25 = .ok (.putfield 16, 3) := by decide +kernel
theorem dX7_init_28 : decode cX7_init 28 = .ok (.aload_n 0, 1) := by decide +kernel
theorem dX7_init_29 : decode cX7_init 29 = .ok (.bipush 10, 2) := by decide +kernel
theorem dX7_init_31 : decode cX7_init 31 = .ok (.newarray .int, 2) := by decide +kernel
theorem dX7_init_33 : decode cX7_init 33 = .ok (.putfield 19, 3) := by decide +kernel
theorem dX7_init_36 : decode cX7_init 36 = .ok (.aload_n 0, 1) := by decide +kernel
theorem dX7_init_37 : decode cX7_init 37 = .ok (.iconst 4, 1) := by decide +kernel
theorem dX7_init_38 : decode cX7_init 38 = .ok (.newarray .int, 2) := by decide +kernel
theorem dX7_init_40 : decode cX7_init 40 = .ok (.putfield 22, 3) := by decide +kernel
theorem dX7_init_43 : decode cX7_init 43 = .ok (.aload_n 0, 1) := by decide +kernel
theorem dX7_init_44 : decode cX7_init 44 = .ok (.bipush 8, 2) := by decide +kernel
theorem dX7_init_46 : decode cX7_init 46 = .ok (.newarray .int, 2) := by decide +kernel
theorem dX7_init_48 : decode cX7_init 48 = .ok (.putfield 25, 3) := by decide +kernel
theorem dX7_init_51 : decode cX7_init 51 = .ok (.aload_n 0, 1) := by decide +kernel
theorem dX7_init_52 : decode cX7_init 52 = .ok (.bipush 10, 2) := by decide +kernel
theorem dX7_init_54 : decode cX7_init 54 = .ok (.putfield 28, 3) := by decide +kernel
theorem dX7_init_57 : decode cX7_init 57 = .ok (.aload_n 0, 1) := by decide +kernel
theorem dX7_init_58 : decode cX7_init 58 = .ok (.iconst (-1), 1) := by decide +kernel
theorem dX7_init_59 : decode cX7_init 59 = .ok (.putfield 32, 3) := by decide +kernel
theorem dX7_init_62 : decode cX7_init 62 = .ok (.aload_n 0, 1) := by decide +kernel
theorem dX7_init_63 : decode cX7_init 63 = .ok (.bipush 100, 2) := by decide +kernel
theorem dX7_init_65 : decode cX7_init 65 = .ok (.newarray .int, 2) := by decide +kernel
theorem dX7_init_67 : decode cX7_init 67 = .ok (.putfield 35, 3) := by decide +kernel
theorem dX7_init_70 : decode cX7_init 70 = .ok (.aload_n 0, 1) := by decide +kernel
theorem dX7_init_71 : decode cX7_init 71 = .ok (.bipush 100, 2) := by decide +kernel
theorem dX7_init_73 : decode cX7_init 73 = .ok (.newarray .int, 2) := by decide +kernel
theorem dX7_init_75 : decode cX7_init 75 = .ok (.putfield 38, 3) := by decide +kernel
theorem dX7_init_78 : decode cX7_init 78 = .ok (.aload_n 0, 1) := by decide +kernel
theorem dX7_init_79 : decode cX7_init 79 = .ok (.bipush 30, 2) := by decide +kernel
theorem dX7_init_81 : decode cX7_init 81 = .ok (.newarray .int, 2) := by decide +kernel
theorem dX7_init_83 : decode cX7_init 83 = .ok (.putfield 41, 3) := by decide +kernel
theorem dX7_init_86 : decode cX7_init 86 = .ok (.aload_n 0, 1) := by decide +kernel
theorem dX7_init_87 : decode cX7_init 87 = .ok (.bipush 30, 2) := by decide +kernel
theorem dX7_init_89 : decode cX7_init 89 = .ok (.newarray .int, 2) := by decide +kernel
theorem dX7_init_91 : decode cX7_init 91 = .ok (.putfield 44, 3) := by decide +kernel
theorem dX7_init_94 : decode cX7_init 94 = .ok (.aload_n 0, 1) := by decide +kernel
theorem dX7_init_95 : decode cX7_init 95 = .ok (.bipush 30, 2) := by decide +kernel
theorem dX7_init_97 : decode cX7_init 97 = .ok (.newarray .int, 2) := by decide +kernel
theorem dX7_init_99 : decode cX7_init 99 = .ok (.putfield 47, 3) := by decide +kernel
theorem dX7_init_102 : decode cX7_init 102 = .ok (.aload_n 0, 1) := by decide +kernel
theorem dX7_init_103 : decode cX7_init 103 = .ok (.bipush 30, 2) := by decide +kernel
theorem dX7_init_105 : decode cX7_init 105 = .ok (.newarray .int, 2) := by decide +kernel
theorem dX7_init_107 : decode cX7_init 107 = .ok (.putfield 50, 3) := by decide +kernel
theorem dX7_init_110 : decode cX7_init 110 = .ok (.aload_n 0, 1) := by decide +kernel
theorem dX7_init_111 : decode cX7_init 111 = .ok (.bipush 30, 2) := by decide +kernel
theorem dX7_init_113 : decode cX7_init 113 = .ok (.newarray .int, 2) := by decide +kernel
theorem dX7_init_115 : decode cX7_init 115 = .ok (.putfield 53, 3) := by decide +kernel
theorem dX7_init_118 : decode cX7_init 118 = .ok (.return_, 1) := by decide +kernel
theorem dX7_thrown_0 : decode cX7_thrown 0 = .ok (.aload_n 0, 1) := by decide +kernel
theorem dX7_thrown_1 : decode cX7_thrown 1 = .ok (.getfield 56, 3) := by decide +kernel
theorem dX7_thrown_4 : decode cX7_thrown 4 = .ok (.ireturn, 1) := by decide +kernel
theorem dX7_in_0 : decode cX7_in 0 = .ok (.iload_n 0, 1) := by decide +kernel
theorem dX7_in_1 : decode cX7_in 1 = .ok (.iload_n 1, 1) := by decide +kernel
theorem dX7_in_2 : decode cX7_in 2 = .ok (.if_icmp .lt 12, 3) := by decide +kernel
theorem dX7_in_5 : decode cX7_in 5 = .ok (.iload_n 0, 1) := by decide +kernel
theorem dX7_in_6 : decode cX7_in 6 = .ok (.iload_n 2, 1) := by decide +kernel
theorem dX7_in_7 : decode cX7_in 7 = .ok (.if_icmp .gt 7, 3) := by decide +kernel
theorem dX7_in_10 : decode cX7_in 10 = .ok (.iconst 1, 1) := by decide +kernel
theorem dX7_in_11 : decode cX7_in 11 = .ok (.goto 4, 3) := by decide +kernel
theorem dX7_in_14 : decode cX7_in 14 = .ok (.iconst 0, 1) := by decide +kernel
theorem dX7_in_15 : decode cX7_in 15 = .ok (.ireturn, 1) := by decide +kernel
set_option maxRecDepth 20000 in
theorem ggX7_isVessel_X7_in : GoodIn wsX7_isVessel wsX7_in := goodIn_r _ [5] (by decide +kernel) (by decide +kernel)
set_option maxRecDepth 20000 in
theorem gX7_isVessel_X7_in : GoodIn wsX7_isVessel (va_wsS RX7 62 yX7_in wsX7_in) := goodIn_app (goodIn_of _ (by decide +kernel)) ggX7_isVessel_X7_in
theorem dX7_isVessel_0 : decode cX7_isVessel 0 = .ok (.iload_n 1, 1) := by decide +kernel
theorem dX7_isVessel_1 : decode cX7_isVessel 1 = .ok (.iconst 0, 1) := by decide +kernel
theorem dX7_isVessel_2 : decode cX7_isVessel 2 = .ok (.aload_n 0, 1) := by decide +kernel
theorem dX7_isVessel_3 : decode cX7_isVessel 3 = .ok (.getfield 59, 3) := by decide +kernel
theorem dX7_isVessel_6 : decode cX7_isVessel 6 = .ok (.iconst 1, 1) := by decide +kernel
theorem dX7_isVessel_7 : decode cX7_isVessel 7 = .ok (.isub, 1) := by decide +kernel
theorem dX7_isVessel_8 : decode cX7_isVessel 8 = .ok (.invokestatic 62, 3) := by decide +kernel
theorem dX7_isVessel_11 : decode cX7_isVessel 11 = .ok (.ireturn, 1) := by decide +kernel
set_option maxRecDepth 20000 in
theorem ggX7_isPlace_X7_in : GoodIn wsX7_isPlace wsX7_in := goodIn_r _ [4] (by decide +kernel) (by decide +kernel)
set_option maxRecDepth 20000 in
theorem gX7_isPlace_X7_in : GoodIn wsX7_isPlace (va_wsS RX7 62 yX7_in wsX7_in) := goodIn_app (goodIn_of _ (by decide +kernel)) ggX7_isPlace_X7_in
theorem dX7_isPlace_0 : decode cX7_isPlace 0 = .ok (.iload_n 0, 1) := by decide +kernel
theorem dX7_isPlace_1 : decode cX7_isPlace 1 = .ok (.iconst 0, 1) := by decide +kernel
theorem dX7_isPlace_2 : decode cX7_isPlace 2 = .ok (.iconst 3, 1) := by decide +kernel
theorem dX7_isPlace_3 : decode cX7_isPlace 3 = .ok (.invokestatic 62, 3) := by decide +kernel
theorem dX7_isPlace_6 : decode cX7_isPlace 6 = .ok (.ireturn, 1) := by decide +kernel
theorem dX7_least_0 : decode cX7_least 0 = .ok (.iload_n 0, 1) := by decide +kernel
theorem dX7_least_1 : decode cX7_least 1 = .ok (.iload_n 1, 1) := by decide +kernel
theorem dX7_least_2 : decode cX7_least 2 = .ok (.if_icmp .ge 7, 3) := by decide +kernel
theorem dX7_least_5 : decode cX7_least 5 = .ok (.iload_n 0, 1) := by decide +kernel
theorem dX7_least_6 : decode cX7_least 6 = .ok (.goto 4, 3) := by decide +kernel
theorem dX7_least_9 : decode cX7_least 9 = .ok (.iload_n 1, 1) := by decide +kernel
theorem dX7_least_10 : decode cX7_least 10 = .ok (.ireturn, 1) := by decide +kernel
theorem dX7_strengthOf_0 : decode cX7_strengthOf 0 = .ok (.iload_n 1, 1) := by decide +kernel
theorem dX7_strengthOf_1 : decode cX7_strengthOf 1 = .ok (.ifCond .ne 7, 3) := by decide +kernel
theorem dX7_strengthOf_4 : decode cX7_strengthOf 4 = .ok (.iconst 0, 1) := by decide +kernel
theorem dX7_strengthOf_5 : decode cX7_strengthOf 5 = .ok (.goto 6, 3) := by decide +kernel
theorem dX7_strengthOf_8 : decode cX7_strengthOf 8 = .ok (.iload_n 0, 1) := by decide +kernel
theorem dX7_strengthOf_9 : decode cX7_strengthOf 9 = .ok (.iload_n 1, 1) := by decide +kernel
theorem dX7_strengthOf_10 : decode cX7_strengthOf 10 = .ok (.idiv, 1) := by decide +kernel
theorem dX7_strengthOf_11 : decode cX7_strengthOf 11 = .ok (.ireturn, 1) := by decide +kernel
set_option maxRecDepth 20000 in
theorem ggX7_with_X7_strengthOf : GoodIn wsX7_with wsX7_strengthOf := goodIn_r _ [6] (by decide +kernel) (by decide +kernel)
set_option maxRecDepth 20000 in
theorem gX7_with_X7_strengthOf : GoodIn wsX7_with (va_wsS RX7 66 yX7_strengthOf wsX7_strengthOf) := goodIn_app (goodIn_of _ (by decide +kernel)) ggX7_with_X7_strengthOf
set_option maxRecDepth 20000 in
theorem ggX7_with_X7_least : GoodIn wsX7_with wsX7_least := goodIn_r _ [9] (by decide +kernel) (by decide +kernel)
set_option maxRecDepth 20000 in
theorem gX7_with_X7_least : GoodIn wsX7_with (va_wsS RX7 70 yX7_least wsX7_least) := goodIn_app (goodIn_of _ (by decide +kernel)) ggX7_with_X7_least
theorem dX7_with_0 : decode cX7_with 0 = .ok (.iload_n 2, 1) := by decide +kernel
theorem dX7_with_1 : decode cX7_with 1 = .ok (.ifCond .eq 12, 3) := by decide +kernel
theorem dX7_with_4 : decode cX7_with 4 = .ok (.aload_n 0, 1) := by decide +kernel
theorem dX7_with_5 : decode cX7_with 5 = .ok (.getfield 16, 3) := by decide +kernel
theorem dX7_with_8 : decode cX7_with 8 = .ok (.iload_n 1, 1) := by decide +kernel
theorem dX7_with_9 : decode cX7_with 9 = .ok (.iaload, 1) := by decide +kernel
theorem dX7_with_10 : decode cX7_with 10 = .ok (.ifCond .ne 12, 3) := by decide +kernel
theorem dX7_with_13 : decode cX7_with 13 = .ok (.aload_n 0, 1) := by decide +kernel
theorem dX7_with_14 : decode cX7_with 14 = .ok (.getfield 16, 3) := by decide +kernel
theorem dX7_with_17 : decode cX7_with 17 = .ok (.iload_n 1, 1) := by decide +kernel
theorem dX7_with_18 : decode cX7_with 18 = .ok (.iaload, 1) := by decide +kernel
theorem dX7_with_19 : decode cX7_with 19 = .ok (.iload_n 2, 1) := by decide +kernel
theorem dX7_with_20 : decode cX7_with 20 = .ok (.iadd, 1) := by decide +kernel
theorem dX7_with_21 : decode cX7_with 21 = .ok (.ireturn, 1) := by decide +kernel
theorem dX7_with_22 : decode cX7_with 22 = .ok (.aload_n 0, 1) := by decide +kernel
theorem dX7_with_23 : decode cX7_with 23 = .ok (.getfield 19, 3) := by decide +kernel
theorem dX7_with_26 : decode cX7_with 26 = .ok (.iload_n 1, 1) := by decide +kernel
theorem dX7_with_27 : decode cX7_with 27 = .ok (.iaload, 1) := by decide +kernel
theorem dX7_with_28 : decode cX7_with 28 = .ok (.aload_n 0, 1) := by decide +kernel
theorem dX7_with_29 : decode cX7_with 29 = .ok (.getfield 16, 3) := by decide +kernel
theorem dX7_with_32 : decode cX7_with 32 = .ok (.iload_n 1, 1) := by decide +kernel
theorem dX7_with_33 : decode cX7_with 33 = .ok (.iaload, 1) := by decide +kernel
theorem dX7_with_34 : decode cX7_with 34 = .ok (.invokestatic 66, 3) := by decide +kernel
theorem dX7_with_37 : decode cX7_with 37 = .ok (.iload_n 3, 1) := by decide +kernel
theorem dX7_with_38 : decode cX7_with 38 = .ok (.iload_n 2, 1) := by decide +kernel
theorem dX7_with_39 : decode cX7_with 39 = .ok (.invokestatic 66, 3) := by decide +kernel
theorem dX7_with_42 : decode cX7_with 42 = .ok (.isub, 1) := by decide +kernel
theorem dX7_with_43 : decode cX7_with 43 = .ok (.istore 4, 2) := by decide +kernel
theorem dX7_with_45 : decode cX7_with 45 = .ok (.aload_n 0, 1) := by decide +kernel
theorem dX7_with_46 : decode cX7_with 46 = .ok (.getfield 16, 3) := by decide +kernel
theorem dX7_with_49 : decode cX7_with 49 = .ok (.iload_n 1, 1) := by decide +kernel
theorem dX7_with_50 : decode cX7_with 50 = .ok (.iaload, 1) := by decide +kernel
theorem dX7_with_51 : decode cX7_with 51 = .ok (.iload_n 2, 1) := by decide +kernel
theorem dX7_with_52 : decode cX7_with 52 = .ok (.iadd, 1) := by decide +kernel
theorem dX7_with_53 : decode cX7_with 53 = .ok (.aload_n 0, 1) := by decide +kernel
theorem dX7_with_54 : decode cX7_with 54 = .ok (.getfield 16, 3) := by decide +kernel
theorem dX7_with_57 : decode cX7_with 57 = .ok (.iload_n 1, 1) := by decide +kernel
theorem dX7_with_58 : decode cX7_with 58 = .ok (.iaload, 1) := by decide +kernel
theorem dX7_with_59 : decode cX7_with 59 = .ok (.iload_n 2, 1) := by decide +kernel
theorem dX7_with_60 : decode cX7_with 60 = .ok (.invokestatic 70, 3) := by decide +kernel
theorem dX7_with_63 : decode cX7_with 63 = .ok (.iload 4, 2) := by decide +kernel
theorem dX7_with_65 : decode cX7_with 65 = .ok (.ifCond .ge 9, 3) := by decide +kernel
theorem dX7_with_68 : decode cX7_with 68 = .ok (.iload 4, 2) := by decide +kernel
theorem dX7_with_70 : decode cX7_with 70 = .ok (.ineg, 1) := by decide +kernel
theorem dX7_with_71 : decode cX7_with 71 = .ok (.goto 5, 3) := by decide +kernel
theorem dX7_with_74 : decode cX7_with 74 = .ok (.iload 4, 2) := by decide +kernel
theorem dX7_with_76 : decode cX7_with 76 = .ok (.imul, 1) := by decide +kernel
theorem dX7_with_77 : decode cX7_with 77 = .ok (.sipush 10000, 3) := by decide +kernel
theorem dX7_with_80 : decode cX7_with 80 = .ok (.idiv, 1) := by decide +kernel
theorem dX7_with_81 : decode cX7_with 81 = .ok (.isub, 1) := by decide +kernel
theorem dX7_with_82 : decode cX7_with 82 = .ok (.ireturn, 1) := by decide +kernel
set_option maxRecDepth 20000 in
theorem ggX7_comes_X7_with : GoodIn wsX7_comes wsX7_with := goodIn_r _ [7, 1, 2, 8, 9, 6, 10, 11, 12, 13, 14, 15, 16, 17, 18, 19, 20, 21, 22, 23, 24, 25, 26, 27, 28, 29, 30, 31, 32, 33, 34, 35, 36, 37, 38, 39, 40, 41] (by decide +kernel) (by decide +kernel)
set_option maxRecDepth 20000 in
theorem gX7_comes_X7_with : GoodIn wsX7_comes (wsV RX7 73 RX7 yX7_with wsX7_with) := goodIn_app (goodIn_of _ (by decide +kernel)) ggX7_comes_X7_with
theorem dX7_comes_0 : decode cX7_comes 0 = .ok (.aload_n 0, 1) := by decide +kernel
theorem dX7_comes_1 : decode cX7_comes 1 = .ok (.getfield 16, 3) := by decide +kernel
theorem dX7_comes_4 : decode cX7_comes 4 = .ok (.iload_n 1, 1) := by decide +kernel
theorem dX7_comes_5 : decode cX7_comes 5 = .ok (.aload_n 0, 1) := by decide +kernel
theorem dX7_comes_6 : decode cX7_comes 6 = .ok (.iload_n 1, 1) := by decide +kernel
theorem dX7_comes_7 : decode cX7_comes 7 = .ok (.iload_n 2, 1) := by decide +kernel
theorem dX7_comes_8 : decode cX7_comes 8 = .ok (.iload_n 3, 1) := by decide +kernel
theorem dX7_comes_9 : decode cX7_comes 9 = .ok (.invokevirtual 73, 3) := by decide +kernel
theorem dX7_comes_12 : decode cX7_comes 12 = .ok (.iastore, 1) := by decide +kernel
theorem dX7_comes_13 : decode cX7_comes 13 = .ok (.aload_n 0, 1) := by decide +kernel
theorem dX7_comes_14 : decode cX7_comes 14 = .ok (.getfield 19, 3) := by decide +kernel
theorem dX7_comes_17 : decode cX7_comes 17 = .ok (.iload_n 1, 1) := by decide +kernel
theorem dX7_comes_18 : decode cX7_comes 18 = .ok (.dup2, 1) := by decide +kernel
theorem dX7_comes_19 : decode cX7_comes 19 = .ok (.iaload, 1) := by decide +kernel
theorem dX7_comes_20 : decode cX7_comes 20 = .ok (.iload_n 3, 1) := by decide +kernel
theorem dX7_comes_21 : decode cX7_comes 21 = .ok (.iadd, 1) := by decide +kernel
theorem dX7_comes_22 : decode cX7_comes 22 = .ok (.iastore, 1) := by decide +kernel
theorem dX7_comes_23 : decode cX7_comes 23 = .ok (.return_, 1) := by decide +kernel
theorem dX7_part_0 : decode cX7_part 0 = .ok (.iload_n 0, 1) := by decide +kernel
theorem dX7_part_1 : decode cX7_part 1 = .ok (.i2l, 1) := by decide +kernel
theorem dX7_part_2 : decode cX7_part 2 = .ok (.iload_n 1, 1) := by decide +kernel
theorem dX7_part_3 : decode cX7_part 3 = .ok (.i2l, 1) := by decide +kernel
theorem dX7_part_4 : decode cX7_part 4 = .ok (.lmul, 1) := by decide +kernel
theorem dX7_part_5 : decode cX7_part 5 = .ok (.iload_n 2, 1) := by decide +kernel
theorem dX7_part_6 : decode cX7_part 6 = .ok (.i2l, 1) := by decide +kernel
theorem dX7_part_7 : decode cX7_part 7 = .ok (.ldiv, 1) := by decide +kernel
theorem dX7_part_8 : decode cX7_part 8 = .ok (.l2i, 1) := by decide +kernel
theorem dX7_part_9 : decode cX7_part 9 = .ok (.ireturn, 1) := by decide +kernel
set_option maxRecDepth 20000 in
theorem ggX7_takes_X7_part : GoodIn wsX7_takes wsX7_part := goodIn_r _ [6] (by decide +kernel) (by decide +kernel)
set_option maxRecDepth 20000 in
theorem gX7_takes_X7_part : GoodIn wsX7_takes (va_wsS RX7 77 yX7_part wsX7_part) := goodIn_app (goodIn_of _ (by decide +kernel)) ggX7_takes_X7_part
theorem dX7_takes_0 : decode cX7_takes 0 = .ok (.aload_n 0, 1) := by decide +kernel
theorem dX7_takes_1 : decode cX7_takes 1 = .ok (.getfield 19, 3) := by decide +kernel
theorem dX7_takes_4 : decode cX7_takes 4 = .ok (.iload_n 1, 1) := by decide +kernel
theorem dX7_takes_5 : decode cX7_takes 5 = .ok (.iaload, 1) := by decide +kernel
theorem dX7_takes_6 : decode cX7_takes 6 = .ok (.iload_n 2, 1) := by decide +kernel
theorem dX7_takes_7 : decode cX7_takes 7 = .ok (.aload_n 0, 1) := by decide +kernel
theorem dX7_takes_8 : decode cX7_takes 8 = .ok (.getfield 16, 3) := by decide +kernel
theorem dX7_takes_11 : decode cX7_takes 11 = .ok (.iload_n 1, 1) := by decide +kernel
theorem dX7_takes_12 : decode cX7_takes 12 = .ok (.iaload, 1) := by decide +kernel
theorem dX7_takes_13 : decode cX7_takes 13 = .ok (.invokestatic 77, 3) := by decide +kernel
theorem dX7_takes_16 : decode cX7_takes 16 = .ok (.istore_n 3, 1) := by decide +kernel
theorem dX7_takes_17 : decode cX7_takes 17 = .ok (.aload_n 0, 1) := by decide +kernel
theorem dX7_takes_18 : decode cX7_takes 18 = .ok (.getfield 19, 3) := by decide +kernel
theorem dX7_takes_21 : decode cX7_takes 21 = .ok (.iload_n 1, 1) := by decide +kernel
theorem dX7_takes_22 : decode cX7_takes 22 = .ok (.dup2, 1) := by decide +kernel
theorem dX7_takes_23 : decode cX7_takes 23 = .ok (.iaload, 1) := by decide +kernel
theorem dX7_takes_24 : decode cX7_takes 24 = .ok (.iload_n 3, 1) := by decide +kernel
theorem dX7_takes_25 : decode cX7_takes 25 = .ok (.isub, 1) := by decide +kernel
theorem dX7_takes_26 : decode cX7_takes 26 = .ok (.iastore, 1) := by decide +kernel
theorem dX7_takes_27 : decode cX7_takes 27 = .ok (.aload_n 0, 1) := by decide +kernel
theorem dX7_takes_28 : decode cX7_takes 28 = .ok (.getfield 16, 3) := by decide +kernel
theorem dX7_takes_31 : decode cX7_takes 31 = .ok (.iload_n 1, 1) := by decide +kernel
theorem dX7_takes_32 : decode cX7_takes 32 = .ok (.dup2, 1) := by decide +kernel
theorem dX7_takes_33 : decode cX7_takes 33 = .ok (.iaload, 1) := by decide +kernel
theorem dX7_takes_34 : decode cX7_takes 34 = .ok (.iload_n 2, 1) := by decide +kernel
theorem dX7_takes_35 : decode cX7_takes 35 = .ok (.isub, 1) := by decide +kernel
theorem dX7_takes_36 : decode cX7_takes 36 = .ok (.iastore, 1) := by decide +kernel
theorem dX7_takes_37 : decode cX7_takes 37 = .ok (.iload_n 3, 1) := by decide +kernel
theorem dX7_takes_38 : decode cX7_takes 38 = .ok (.ireturn, 1) := by decide +kernel
theorem dX7_dutyFor_0 : decode cX7_dutyFor 0 = .ok (.iload_n 1, 1) := by decide +kernel
theorem dX7_dutyFor_1 : decode cX7_dutyFor 1 = .ok (.i2l, 1) := by decide +kernel
theorem dX7_dutyFor_2 : decode cX7_dutyFor 2 = .ok (.iload_n 2, 1) := by decide +kernel
theorem dX7_dutyFor_3 : decode cX7_dutyFor 3 = .ok (.i2l, 1) := by decide +kernel
theorem dX7_dutyFor_4 : decode cX7_dutyFor 4 = .ok (.lmul, 1) := by decide +kernel
theorem dX7_dutyFor_5 : decode cX7_dutyFor 5 = .ok (.ldc2_w 80, 3) := by decide +kernel
theorem dX7_dutyFor_8 : decode cX7_dutyFor 8 = .ok (.ldiv, 1) := by decide +kernel
theorem dX7_dutyFor_9 : decode cX7_dutyFor 9 = .ok (.l2i, 1) := by decide +kernel
theorem dX7_dutyFor_10 : decode cX7_dutyFor 10 = .ok (.ireturn, 1) := by decide +kernel
set_option maxRecDepth 20000 in
theorem ggX7_misses_X7_dutyFor : GoodIn wsX7_misses wsX7_dutyFor := goodIn_r _ [8, 9] (by decide +kernel) (by decide +kernel)
set_option maxRecDepth 20000 in
theorem gX7_misses_X7_dutyFor : GoodIn wsX7_misses (wsV RX7 82 RX7 yX7_dutyFor wsX7_dutyFor) := goodIn_app (goodIn_of _ (by decide +kernel)) ggX7_misses_X7_dutyFor
theorem dX7_misses_0 : decode cX7_misses 0 = .ok (.aload_n 0, 1) := by decide +kernel
theorem dX7_misses_1 : decode cX7_misses 1 = .ok (.getfield 25, 3) := by decide +kernel
theorem dX7_misses_4 : decode cX7_misses 4 = .ok (.iconst 5, 1) := by decide +kernel
theorem dX7_misses_5 : decode cX7_misses 5 = .ok (.dup2, 1) := by decide +kernel
theorem dX7_misses_6 : decode cX7_misses 6 = .ok (.iaload, 1) := by decide +kernel
theorem dX7_misses_7 : decode cX7_misses 7 = .ok (.iload_n 1, 1) := by decide +kernel
theorem dX7_misses_8 : decode cX7_misses 8 = .ok (.iadd, 1) := by decide +kernel
theorem dX7_misses_9 : decode cX7_misses 9 = .ok (.iastore, 1) := by decide +kernel
theorem dX7_misses_10 : decode cX7_misses 10 = .ok (.aload_n 0, 1) := by decide +kernel
theorem dX7_misses_11 : decode cX7_misses 11 = .ok (.iload_n 1, 1) := by decide +kernel
theorem dX7_misses_12 : decode cX7_misses 12 = .ok (.aload_n 0, 1) := by decide +kernel
theorem dX7_misses_13 : decode cX7_misses 13 = .ok (.getfield 28, 3) := by decide +kernel
theorem dX7_misses_16 : decode cX7_misses 16 = .ok (.invokevirtual 82, 3) := by decide +kernel
theorem dX7_misses_19 : decode cX7_misses 19 = .ok (.istore_n 2, 1) := by decide +kernel
theorem dX7_misses_20 : decode cX7_misses 20 = .ok (.aload_n 0, 1) := by decide +kernel
theorem dX7_misses_21 : decode cX7_misses 21 = .ok (.dup, 1) := by decide +kernel
theorem dX7_misses_22 : decode cX7_misses 22 = .ok (.getfield 85, 3) := by decide +kernel
theorem dX7_misses_25 : decode cX7_misses 25 = .ok (.iload_n 2, 1) := by decide +kernel
theorem dX7_misses_26 : decode cX7_misses 26 = .ok (.iadd, 1) := by decide +kernel
theorem dX7_misses_27 : decode cX7_misses 27 = .ok (.putfield 85, 3) := by decide +kernel
theorem dX7_misses_30 : decode cX7_misses 30 = .ok (.iload_n 2, 1) := by decide +kernel
theorem dX7_misses_31 : decode cX7_misses 31 = .ok (.ireturn, 1) := by decide +kernel
set_option maxRecDepth 20000 in
theorem ggX7_vessel_X7_isPlace : GoodIn wsX7_vessel wsX7_isPlace := goodIn_r _ [8, 9, 10, 7, 11] (by decide +kernel) (by decide +kernel)
set_option maxRecDepth 20000 in
theorem gX7_vessel_X7_isPlace : GoodIn wsX7_vessel (va_wsS RX7 88 yX7_isPlace wsX7_isPlace) := goodIn_app (goodIn_of _ (by decide +kernel)) ggX7_vessel_X7_isPlace
set_option maxRecDepth 20000 in
theorem ggX7_vessel_X7_in : GoodIn wsX7_vessel wsX7_in := goodIn_r _ [11] (by decide +kernel) (by decide +kernel)
set_option maxRecDepth 20000 in
theorem gX7_vessel_X7_in : GoodIn wsX7_vessel (va_wsS RX7 62 yX7_in wsX7_in) := goodIn_app (goodIn_of _ (by decide +kernel)) ggX7_vessel_X7_in
theorem dX7_vessel_0 : decode cX7_vessel 0 = .ok (.aload_n 0, 1) := by decide +kernel
theorem dX7_vessel_1 : decode cX7_vessel 1 = .ok (.iload_n 1, 1) := by decide +kernel
theorem dX7_vessel_2 : decode cX7_vessel 2 = .ok (.invokestatic 88, 3) := by decide +kernel
theorem dX7_vessel_5 : decode cX7_vessel 5 = .ok (.ifCond .ne 7, 3) := by decide +kernel
theorem dX7_vessel_8 : decode cX7_vessel 8 = .ok (.iconst 1, 1) := by decide +kernel
theorem dX7_vessel_9 : decode cX7_vessel 9 = .ok (.goto 32, 3) := by decide +kernel
theorem dX7_vessel_12 : decode cX7_vessel 12 = .ok (.iload_n 2, 1) := by decide +kernel
theorem dX7_vessel_13 : decode cX7_vessel 13 = .ok (.iconst 1, 1) := by decide +kernel
theorem dX7_vessel_14 : decode cX7_vessel 14 = .ok (.sipush 9999, 3) := by decide +kernel
theorem dX7_vessel_17 : decode cX7_vessel 17 = .ok (.invokestatic 62, 3) := by decide +kernel
theorem dX7_vessel_20 : decode cX7_vessel 20 = .ok (.ifCond .ne 7, 3) := by decide +kernel
theorem dX7_vessel_23 : decode cX7_vessel 23 = .ok (.iconst 2, 1) := by decide +kernel
theorem dX7_vessel_24 : decode cX7_vessel 24 = .ok (.goto 17, 3) := by decide +kernel
theorem dX7_vessel_27 : decode cX7_vessel 27 = .ok (.aload_n 0, 1) := by decide +kernel
theorem dX7_vessel_28 : decode cX7_vessel 28 = .ok (.getfield 59, 3) := by decide +kernel
theorem dX7_vessel_31 : decode cX7_vessel 31 = .ok (.bipush 10, 2) := by decide +kernel
theorem dX7_vessel_33 : decode cX7_vessel 33 = .ok (.if_icmp .ne 7, 3) := by decide +kernel
theorem dX7_vessel_36 : decode cX7_vessel 36 = .ok (.iconst 3, 1) := by decide +kernel
theorem dX7_vessel_37 : decode cX7_vessel 37 = .ok (.goto 4, 3) := by decide +kernel
theorem dX7_vessel_40 : decode cX7_vessel 40 = .ok (.iconst 0, 1) := by decide +kernel
theorem dX7_vessel_41 : decode cX7_vessel 41 = .ok (.putfield 56, 3) := by decide +kernel
theorem dX7_vessel_44 : decode cX7_vessel 44 = .ok (.aload_n 0, 1) := by decide +kernel
theorem dX7_vessel_45 : decode cX7_vessel 45 = .ok (.getfield 56, 3) := by decide +kernel
theorem dX7_vessel_48 : decode cX7_vessel 48 = .ok (.ifCond .le 5, 3) := by decide +kernel
theorem dX7_vessel_51 : decode cX7_vessel 51 = .ok (.iconst 0, 1) := by decide +kernel
theorem dX7_vessel_52 : decode cX7_vessel 52 = .ok (.ireturn, 1) := by decide +kernel
theorem dX7_vessel_53 : decode cX7_vessel 53 = .ok (.aload_n 0, 1) := by decide +kernel
theorem dX7_vessel_54 : decode cX7_vessel 54 = .ok (.getfield 7, 3) := by decide +kernel
theorem dX7_vessel_57 : decode cX7_vessel 57 = .ok (.aload_n 0, 1) := by decide +kernel
theorem dX7_vessel_58 : decode cX7_vessel 58 = .ok (.getfield 59, 3) := by decide +kernel
theorem dX7_vessel_61 : decode cX7_vessel 61 = .ok (.iload_n 1, 1) := by decide +kernel
theorem dX7_vessel_62 : decode cX7_vessel 62 = .ok (.iastore, 1) := by decide +kernel
theorem dX7_vessel_63 : decode cX7_vessel 63 = .ok (.aload_n 0, 1) := by decide +kernel
theorem dX7_vessel_64 : decode cX7_vessel 64 = .ok (.getfield 13, 3) := by decide +kernel
theorem dX7_vessel_67 : decode cX7_vessel 67 = .ok (.aload_n 0, 1) := by decide +kernel
theorem dX7_vessel_68 : decode cX7_vessel 68 = .ok (.getfield 59, 3) := by decide +kernel
theorem dX7_vessel_71 : decode cX7_vessel 71 = .ok (.iload_n 2, 1) := by decide +kernel
theorem dX7_vessel_72 : decode cX7_vessel 72 = .ok (.iastore, 1) := by decide +kernel
theorem dX7_vessel_73 : decode cX7_vessel 73 = .ok (.aload_n 0, 1) := by decide +kernel
theorem dX7_vessel_74 : decode cX7_vessel 74 = .ok (.dup, 1) := by decide +kernel
theorem dX7_vessel_75 : decode cX7_vessel 75 = .ok (.getfield 59, 3) := by decide +kernel
theorem dX7_vessel_78 : decode cX7_vessel 78 = .ok (.iconst 1, 1) := by decide +kernel
theorem dX7_vessel_79 : decode cX7_vessel 79 = .ok (.iadd, 1) := by decide +kernel
theorem dX7_vessel_80 : decode cX7_vessel 80 = .ok (.putfield 59, 3) := by decide +kernel
theorem dX7_vessel_83 : decode cX7_vessel 83 = .ok (.aload_n 0, 1) := by decide +kernel
theorem dX7_vessel_84 : decode cX7_vessel 84 = .ok (.getfield 59, 3) := by decide +kernel
theorem dX7_vessel_87 : decode cX7_vessel 87 = .ok (.iconst 1, 1) := by decide +kernel
theorem dX7_vessel_88 : decode cX7_vessel 88 = .ok (.isub, 1) := by decide +kernel
theorem dX7_vessel_89 : decode cX7_vessel 89 = .ok (.ireturn, 1) := by decide +kernel
set_option maxRecDepth 20000 in
theorem ggX7_shares_X7_isPlace : GoodIn wsX7_shares wsX7_isPlace := goodIn_r _ [6, 7, 8, 5, 9] (by decide +kernel) (by decide +kernel)
set_option maxRecDepth 20000 in
theorem gX7_shares_X7_isPlace : GoodIn wsX7_shares (va_wsS RX7 88 yX7_isPlace wsX7_isPlace) := goodIn_app (goodIn_of _ (by decide +kernel)) ggX7_shares_X7_isPlace
set_option maxRecDepth 20000 in
theorem ggX7_shares_X7_in : GoodIn wsX7_shares wsX7_in := goodIn_r _ [9] (by decide +kernel) (by decide +kernel)
set_option maxRecDepth 20000 in
theorem gX7_shares_X7_in : GoodIn wsX7_shares (va_wsS RX7 62 yX7_in wsX7_in) := goodIn_app (goodIn_of _ (by decide +kernel)) ggX7_shares_X7_in
theorem dX7_shares_0 : decode cX7_shares 0 = .ok (.aload_n 0, 1) := by decide +kernel
theorem dX7_shares_1 : decode cX7_shares 1 = .ok (.iload_n 1, 1) := by decide +kernel
theorem dX7_shares_2 : decode cX7_shares 2 = .ok (.invokestatic 88, 3) := by decide +kernel
theorem dX7_shares_5 : decode cX7_shares 5 = .ok (.ifCond .ne 7, 3) := by decide +kernel
theorem dX7_shares_8 : decode cX7_shares 8 = .ok (.iconst 1, 1) := by decide +kernel
theorem dX7_shares_9 : decode cX7_shares 9 = .ok (.goto 19, 3) := by decide +kernel
theorem dX7_shares_12 : decode cX7_shares 12 = .ok (.iload_n 2, 1) := by decide +kernel
theorem dX7_shares_13 : decode cX7_shares 13 = .ok (.iconst 0, 1) := by decide +kernel
theorem dX7_shares_14 : decode cX7_shares 14 = .ok (.sipush 500, 3) := by decide +kernel
theorem dX7_shares_17 : decode cX7_shares 17 = .ok (.invokestatic 62, 3) := by decide +kernel
theorem dX7_shares_20 : decode cX7_shares 20 = .ok (.ifCond .eq 7, 3) := by decide +kernel
theorem dX7_shares_23 : decode cX7_shares 23 = .ok (.iconst 0, 1) := by decide +kernel
theorem dX7_shares_24 : decode cX7_shares 24 = .ok (.goto 4, 3) := by decide +kernel
theorem dX7_shares_27 : decode cX7_shares 27 = .ok (.iconst 2, 1) := by decide +kernel
theorem dX7_shares_28 : decode cX7_shares 28 = .ok (.putfield 56, 3) := by decide +kernel
theorem dX7_shares_31 : decode cX7_shares 31 = .ok (.aload_n 0, 1) := by decide +kernel
theorem dX7_shares_32 : decode cX7_shares 32 = .ok (.getfield 56, 3) := by decide +kernel
theorem dX7_shares_35 : decode cX7_shares 35 = .ok (.ifCond .le 5, 3) := by decide +kernel
theorem dX7_shares_38 : decode cX7_shares 38 = .ok (.iconst 0, 1) := by decide +kernel
theorem dX7_shares_39 : decode cX7_shares 39 = .ok (.ireturn, 1) := by decide +kernel
theorem dX7_shares_40 : decode cX7_shares 40 = .ok (.aload_n 0, 1) := by decide +kernel
theorem dX7_shares_41 : decode cX7_shares 41 = .ok (.getfield 22, 3) := by decide +kernel
theorem dX7_shares_44 : decode cX7_shares 44 = .ok (.iload_n 1, 1) := by decide +kernel
theorem dX7_shares_45 : decode cX7_shares 45 = .ok (.iaload, 1) := by decide +kernel
theorem dX7_shares_46 : decode cX7_shares 46 = .ok (.istore_n 3, 1) := by decide +kernel
theorem dX7_shares_47 : decode cX7_shares 47 = .ok (.aload_n 0, 1) := by decide +kernel
theorem dX7_shares_48 : decode cX7_shares 48 = .ok (.getfield 22, 3) := by decide +kernel
theorem dX7_shares_51 : decode cX7_shares 51 = .ok (.iload_n 1, 1) := by decide +kernel
theorem dX7_shares_52 : decode cX7_shares 52 = .ok (.iload_n 2, 1) := by decide +kernel
theorem dX7_shares_53 : decode cX7_shares 53 = .ok (.iastore, 1) := by decide +kernel
theorem dX7_shares_54 : decode cX7_shares 54 = .ok (.iload_n 3, 1) := by decide +kernel
theorem dX7_shares_55 : decode cX7_shares 55 = .ok (.ireturn, 1) := by decide +kernel
set_option maxRecDepth 20000 in
theorem ggX7_run_X7_in : GoodIn wsX7_run wsX7_in := goodIn_r _ [9] (by decide +kernel) (by decide +kernel)
set_option maxRecDepth 20000 in
theorem gX7_run_X7_in : GoodIn wsX7_run (va_wsS RX7 62 yX7_in wsX7_in) := goodIn_app (goodIn_of _ (by decide +kernel)) ggX7_run_X7_in
set_option maxRecDepth 20000 in
theorem ggX7_run_X7_isVessel : GoodIn wsX7_run wsX7_isVessel := goodIn_r _ [13, 14, 6, 7, 8, 9, 41, 42, 43, 44, 45, 46, 47, 48, 49, 50, 51, 52, 53, 54, 55, 56, 57, 58, 59, 60, 61, 62, 63, 64, 65, 66, 67, 68] (by decide +kernel) (by decide +kernel)
set_option maxRecDepth 20000 in
theorem gX7_run_X7_isVessel : GoodIn wsX7_run (wsV RX7 92 RX7 yX7_isVessel wsX7_isVessel) := goodIn_app (goodIn_of _ (by decide +kernel)) ggX7_run_X7_isVessel
set_option maxRecDepth 20000 in
theorem ggX7_run_X7_hasRoom : GoodIn wsX7_run wsX7_hasRoom := goodIn_r _ [18, 19, 20, 41, 42, 43, 44, 45, 46, 47, 48, 49, 50, 51, 52, 53, 54, 55, 56, 57, 58, 59, 60, 61, 62, 63, 64, 65, 66, 67, 68] (by decide +kernel) (by decide +kernel)
set_option maxRecDepth 20000 in
theorem gX7_run_X7_hasRoom : GoodIn wsX7_run (wsV RX7 98 RX7 yX7_hasRoom wsX7_hasRoom) := goodIn_app (goodIn_of _ (by decide +kernel)) ggX7_run_X7_hasRoom
set_option maxRecDepth 20000 in
theorem ggX7_run_X7_dutyFor : GoodIn wsX7_run wsX7_dutyFor := goodIn_r _ [24, 25] (by decide +kernel) (by decide +kernel)
set_option maxRecDepth 20000 in
theorem gX7_run_X7_dutyFor : GoodIn wsX7_run (wsV RX7 82 RX7 yX7_dutyFor wsX7_dutyFor) := goodIn_app (goodIn_of _ (by decide +kernel)) ggX7_run_X7_dutyFor
set_option maxRecDepth 20000 in
theorem ggX7_run_X7_comes : GoodIn wsX7_run wsX7_comes := goodIn_r _ [29, 19, 30, 31, 32, 33, 8, 34, 35, 36, 37, 38, 39, 40, 41, 42, 43, 44, 45, 46, 47, 48, 49, 50, 51, 52, 53, 54, 55, 56, 57, 58, 59, 60, 61, 62, 63, 64, 65, 66, 67, 68] (by decide +kernel) (by decide +kernel)
set_option maxRecDepth 20000 in
theorem gX7_run_X7_comes : GoodIn wsX7_run (wsV RX7 102 RX7 yX7_comes wsX7_comes) := goodIn_app (goodIn_of _ (by decide +kernel)) ggX7_run_X7_comes
theorem dX7_run_0 : decode cX7_run 0 = .ok (.iload_n 2, 1) := by decide +kernel
theorem dX7_run_1 : decode cX7_run 1 = .ok (.iconst 1, 1) := by decide +kernel
theorem dX7_run_2 : decode cX7_run 2 = .ok (.sipush 9999, 3) := by decide +kernel
theorem dX7_run_5 : decode cX7_run 5 = .ok (.invokestatic 62, 3) := by decide +kernel
theorem dX7_run_8 : decode cX7_run 8 = .ok (.ifCond .eq 42, 3) := by decide +kernel
theorem dX7_run_11 : decode cX7_run 11 = .ok (.iload_n 3, 1) := by decide +kernel
theorem dX7_run_12 : decode cX7_run 12 = .ok (.iconst 1, 1) := by decide +kernel
theorem dX7_run_13 : decode cX7_run 13 = .ok (.sipush 300, 3) := by decide +kernel
theorem dX7_run_16 : decode cX7_run 16 = .ok (.invokestatic 62, 3) := by decide +kernel
theorem dX7_run_19 : decode cX7_run 19 = .ok (.ifCond .eq 31, 3) := by decide +kernel
theorem dX7_run_22 : decode cX7_run 22 = .ok (.iload 4, 2) := by decide +kernel
theorem dX7_run_24 : decode cX7_run 24 = .ok (.iconst 1, 1) := by decide +kernel
theorem dX7_run_25 : decode cX7_run 25 = .ok (.sipush 9999, 3) := by decide +kernel
theorem dX7_run_28 : decode cX7_run 28 = .ok (.invokestatic 62, 3) := by decide +kernel
theorem dX7_run_31 : decode cX7_run 31 = .ok (.ifCond .eq 19, 3) := by decide +kernel
theorem dX7_run_34 : decode cX7_run 34 = .ok (.iload 5, 2) := by decide +kernel
theorem dX7_run_36 : decode cX7_run 36 = .ok (.iconst 1, 1) := by decide +kernel
theorem dX7_run_37 : decode cX7_run 37 = .ok (.sipush 960, 3) := by decide +kernel
theorem dX7_run_40 : decode cX7_run 40 = .ok (.invokestatic 62, 3) := by decide +kernel
theorem dX7_run_43 : decode cX7_run 43 = .ok (.ifCond .eq 7, 3) := by decide +kernel
theorem dX7_run_46 : decode cX7_run 46 = .ok (.iconst 1, 1) := by decide +kernel
theorem dX7_run_47 : decode cX7_run 47 = .ok (.goto 4, 3) := by decide +kernel
theorem dX7_run_50 : decode cX7_run 50 = .ok (.iconst 0, 1) := by decide +kernel
theorem dX7_run_51 : decode cX7_run 51 = .ok (.istore 6, 2) := by decide +kernel
theorem dX7_run_53 : decode cX7_run 53 = .ok (.aload_n 0, 1) := by decide +kernel
theorem dX7_run_54 : decode cX7_run 54 = .ok (.aload_n 0, 1) := by decide +kernel
theorem dX7_run_55 : decode cX7_run 55 = .ok (.iload_n 1, 1) := by decide +kernel
theorem dX7_run_56 : decode cX7_run 56 = .ok (.invokevirtual 92, 3) := by decide +kernel
theorem dX7_run_59 : decode cX7_run 59 = .ok (.ifCond .ne 7, 3) := by decide +kernel
theorem dX7_run_62 : decode cX7_run 62 = .ok (.iconst 1, 1) := by decide +kernel
theorem dX7_run_63 : decode cX7_run 63 = .ok (.goto 13, 3) := by decide +kernel
theorem dX7_run_66 : decode cX7_run 66 = .ok (.iload 6, 2) := by decide +kernel
theorem dX7_run_68 : decode cX7_run 68 = .ok (.ifCond .eq 7, 3) := by decide +kernel
theorem dX7_run_71 : decode cX7_run 71 = .ok (.iconst 0, 1) := by decide +kernel
theorem dX7_run_72 : decode cX7_run 72 = .ok (.goto 4, 3) := by decide +kernel
theorem dX7_run_75 : decode cX7_run 75 = .ok (.iconst 2, 1) := by decide +kernel
theorem dX7_run_76 : decode cX7_run 76 = .ok (.putfield 56, 3) := by decide +kernel
theorem dX7_run_79 : decode cX7_run 79 = .ok (.aload_n 0, 1) := by decide +kernel
theorem dX7_run_80 : decode cX7_run 80 = .ok (.getfield 56, 3) := by decide +kernel
theorem dX7_run_83 : decode cX7_run 83 = .ok (.ifCond .ne 54, 3) := by decide +kernel
theorem dX7_run_86 : decode cX7_run 86 = .ok (.iload 4, 2) := by decide +kernel
theorem dX7_run_88 : decode cX7_run 88 = .ok (.iload 5, 2) := by decide +kernel
theorem dX7_run_90 : decode cX7_run 90 = .ok (.imul, 1) := by decide +kernel
theorem dX7_run_91 : decode cX7_run 91 = .ok (.iload_n 2, 1) := by decide +kernel
theorem dX7_run_92 : decode cX7_run 92 = .ok (.iload_n 3, 1) := by decide +kernel
theorem dX7_run_93 : decode cX7_run 93 = .ok (.imul, 1) := by decide +kernel
theorem dX7_run_94 : decode cX7_run 94 = .ok (.if_icmp .gt 26, 3) := by decide +kernel
theorem dX7_run_97 : decode cX7_run 97 = .ok (.aload_n 0, 1) := by decide +kernel
theorem dX7_run_98 : decode cX7_run 98 = .ok (.getfield 95, 3) := by decide +kernel
theorem dX7_run_101 : decode cX7_run 101 = .ok (.bipush 60, 2) := by decide +kernel
theorem dX7_run_103 : decode cX7_run 103 = .ok (.if_icmp .ge 17, 3) := by decide +kernel
theorem dX7_run_106 : decode cX7_run 106 = .ok (.aload_n 0, 1) := by decide +kernel
theorem dX7_run_107 : decode cX7_run 107 = .ok (.iload_n 1, 1) := by decide +kernel
theorem dX7_run_108 : decode cX7_run 108 = .ok (.iload 4, 2) := by decide +kernel
theorem dX7_run_110 : decode cX7_run 110 = .ok (.invokevirtual 98, 3) := by decide +kernel
theorem dX7_run_113 : decode cX7_run 113 = .ok (.ifCond .eq 7, 3) := by decide +kernel
theorem dX7_run_116 : decode cX7_run 116 = .ok (.iconst 1, 1) := by decide +kernel
theorem dX7_run_117 : decode cX7_run 117 = .ok (.goto 4, 3) := by decide +kernel
theorem dX7_run_120 : decode cX7_run 120 = .ok (.iconst 0, 1) := by decide +kernel
theorem dX7_run_121 : decode cX7_run 121 = .ok (.istore 7, 2) := by decide +kernel
theorem dX7_run_123 : decode cX7_run 123 = .ok (.aload_n 0, 1) := by decide +kernel
theorem dX7_run_124 : decode cX7_run 124 = .ok (.iload 7, 2) := by decide +kernel
theorem dX7_run_126 : decode cX7_run 126 = .ok (.ifCond .eq 7, 3) := by decide +kernel
theorem dX7_run_129 : decode cX7_run 129 = .ok (.iconst 0, 1) := by decide +kernel
theorem dX7_run_130 : decode cX7_run 130 = .ok (.goto 4, 3) := by decide +kernel
theorem dX7_run_133 : decode cX7_run 133 = .ok (.iconst 3, 1) := by decide +kernel
theorem dX7_run_134 : decode cX7_run 134 = .ok (.putfield 56, 3) := by decide +kernel
theorem dX7_run_137 : decode cX7_run 137 = .ok (.aload_n 0, 1) := by decide +kernel
theorem dX7_run_138 : decode cX7_run 138 = .ok (.getfield 56, 3) := by decide +kernel
theorem dX7_run_141 : decode cX7_run 141 = .ok (.ifCond .le 5, 3) := by decide +kernel
theorem dX7_run_144 : decode cX7_run 144 = .ok (.iconst 0, 1) := by decide +kernel
theorem dX7_run_145 : decode cX7_run 145 = .ok (.ireturn, 1) := by decide +kernel
theorem dX7_run_146 : decode cX7_run 146 = .ok (.aload_n 0, 1) := by decide +kernel
theorem dX7_run_147 : decode cX7_run 147 = .ok (.dup, 1) := by decide +kernel
theorem dX7_run_148 : decode cX7_run 148 = .ok (.getfield 95, 3) := by decide +kernel
theorem dX7_run_151 : decode cX7_run 151 = .ok (.iconst 1, 1) := by decide +kernel
theorem dX7_run_152 : decode cX7_run 152 = .ok (.iadd, 1) := by decide +kernel
theorem dX7_run_153 : decode cX7_run 153 = .ok (.putfield 95, 3) := by decide +kernel
theorem dX7_run_156 : decode cX7_run 156 = .ok (.iload 4, 2) := by decide +kernel
theorem dX7_run_158 : decode cX7_run 158 = .ok (.iload 5, 2) := by decide +kernel
theorem dX7_run_160 : decode cX7_run 160 = .ok (.imul, 1) := by decide +kernel
theorem dX7_run_161 : decode cX7_run 161 = .ok (.istore 7, 2) := by decide +kernel
theorem dX7_run_163 : decode cX7_run 163 = .ok (.bipush 9, 2) := by decide +kernel
theorem dX7_run_165 : decode cX7_run 165 = .ok (.iload_n 2, 1) := by decide +kernel
theorem dX7_run_166 : decode cX7_run 166 = .ok (.imul, 1) := by decide +kernel
theorem dX7_run_167 : decode cX7_run 167 = .ok (.iload_n 3, 1) := by decide +kernel
theorem dX7_run_168 : decode cX7_run 168 = .ok (.imul, 1) := by decide +kernel
theorem dX7_run_169 : decode cX7_run 169 = .ok (.bipush 10, 2) := by decide +kernel
theorem dX7_run_171 : decode cX7_run 171 = .ok (.idiv, 1) := by decide +kernel
theorem dX7_run_172 : decode cX7_run 172 = .ok (.iload 7, 2) := by decide +kernel
theorem dX7_run_174 : decode cX7_run 174 = .ok (.isub, 1) := by decide +kernel
theorem dX7_run_175 : decode cX7_run 175 = .ok (.istore 8, 2) := by decide +kernel
theorem dX7_run_177 : decode cX7_run 177 = .ok (.iload 8, 2) := by decide +kernel
theorem dX7_run_179 : decode cX7_run 179 = .ok (.ifCond .ge 7, 3) := by decide +kernel
theorem dX7_run_182 : decode cX7_run 182 = .ok (.iconst 0, 1) := by decide +kernel
theorem dX7_run_183 : decode cX7_run 183 = .ok (.goto 5, 3) := by decide +kernel
theorem dX7_run_186 : decode cX7_run 186 = .ok (.iload 8, 2) := by decide +kernel
theorem dX7_run_188 : decode cX7_run 188 = .ok (.istore 8, 2) := by decide +kernel
theorem dX7_run_190 : decode cX7_run 190 = .ok (.aload_n 0, 1) := by decide +kernel
theorem dX7_run_191 : decode cX7_run 191 = .ok (.getfield 25, 3) := by decide +kernel
theorem dX7_run_194 : decode cX7_run 194 = .ok (.bipush 7, 2) := by decide +kernel
theorem dX7_run_196 : decode cX7_run 196 = .ok (.dup2, 1) := by decide +kernel
theorem dX7_run_197 : decode cX7_run 197 = .ok (.iaload, 1) := by decide +kernel
theorem dX7_run_198 : decode cX7_run 198 = .ok (.iload 8, 2) := by decide +kernel
theorem dX7_run_200 : decode cX7_run 200 = .ok (.iadd, 1) := by decide +kernel
theorem dX7_run_201 : decode cX7_run 201 = .ok (.iastore, 1) := by decide +kernel
theorem dX7_run_202 : decode cX7_run 202 = .ok (.aload_n 0, 1) := by decide +kernel
theorem dX7_run_203 : decode cX7_run 203 = .ok (.dup, 1) := by decide +kernel
theorem dX7_run_204 : decode cX7_run 204 = .ok (.getfield 85, 3) := by decide +kernel
theorem dX7_run_207 : decode cX7_run 207 = .ok (.aload_n 0, 1) := by decide +kernel
theorem dX7_run_208 : decode cX7_run 208 = .ok (.iload 8, 2) := by decide +kernel
theorem dX7_run_210 : decode cX7_run 210 = .ok (.aload_n 0, 1) := by decide +kernel
theorem dX7_run_211 : decode cX7_run 211 = .ok (.getfield 28, 3) := by decide +kernel
theorem dX7_run_214 : decode cX7_run 214 = .ok (.invokevirtual 82, 3) := by decide +kernel
theorem dX7_run_217 : decode cX7_run 217 = .ok (.iadd, 1) := by decide +kernel
theorem dX7_run_218 : decode cX7_run 218 = .ok (.putfield 85, 3) := by decide +kernel
theorem dX7_run_221 : decode cX7_run 221 = .ok (.aload_n 0, 1) := by decide +kernel
theorem dX7_run_222 : decode cX7_run 222 = .ok (.getfield 25, 3) := by decide +kernel
theorem dX7_run_225 : decode cX7_run 225 = .ok (.iconst 0, 1) := by decide +kernel
theorem dX7_run_226 : decode cX7_run 226 = .ok (.dup2, 1) := by decide +kernel
theorem dX7_run_227 : decode cX7_run 227 = .ok (.iaload, 1) := by decide +kernel
theorem dX7_run_228 : decode cX7_run 228 = .ok (.iload 7, 2) := by decide +kernel
theorem dX7_run_230 : decode cX7_run 230 = .ok (.iadd, 1) := by decide +kernel
theorem dX7_run_231 : decode cX7_run 231 = .ok (.iastore, 1) := by decide +kernel
theorem dX7_run_232 : decode cX7_run 232 = .ok (.aload_n 0, 1) := by decide +kernel
theorem dX7_run_233 : decode cX7_run 233 = .ok (.iload_n 1, 1) := by decide +kernel
theorem dX7_run_234 : decode cX7_run 234 = .ok (.iload 4, 2) := by decide +kernel
theorem dX7_run_236 : decode cX7_run 236 = .ok (.iload 7, 2) := by decide +kernel
theorem dX7_run_238 : decode cX7_run 238 = .ok (.invokevirtual 102, 3) := by decide +kernel
theorem dX7_run_241 : decode cX7_run 241 = .ok (.iload 8, 2) := by decide +kernel
theorem dX7_run_243 : decode cX7_run 243 = .ok (.ireturn, 1) := by decide +kernel
theorem dX7_hasPart_0 : decode cX7_hasPart 0 = .ok (.iload_n 2, 1) := by decide +kernel
theorem dX7_hasPart_1 : decode cX7_hasPart 1 = .ok (.aload_n 0, 1) := by decide +kernel
theorem dX7_hasPart_2 : decode cX7_hasPart 2 = .ok (.getfield 16, 3) := by decide +kernel
theorem dX7_hasPart_5 : decode cX7_hasPart 5 = .ok (.iload_n 1, 1) := by decide +kernel
theorem dX7_hasPart_6 : decode cX7_hasPart 6 = .ok (.iaload, 1) := by decide +kernel
theorem dX7_hasPart_7 : decode cX7_hasPart 7 = .ok (.if_icmp .gt 7, 3) := by decide +kernel
theorem dX7_hasPart_10 : decode cX7_hasPart 10 = .ok (.iconst 1, 1) := by decide +kernel
theorem dX7_hasPart_11 : decode cX7_hasPart 11 = .ok (.goto 4, 3) := by decide +kernel
theorem dX7_hasPart_14 : decode cX7_hasPart 14 = .ok (.iconst 0, 1) := by decide +kernel
theorem dX7_hasPart_15 : decode cX7_hasPart 15 = .ok (.ireturn, 1) := by decide +kernel
theorem dX7_hasRoom_0 : decode cX7_hasRoom 0 = .ok (.aload_n 0, 1) := by decide +kernel
theorem dX7_hasRoom_1 : decode cX7_hasRoom 1 = .ok (.getfield 16, 3) := by decide +kernel
theorem dX7_hasRoom_4 : decode cX7_hasRoom 4 = .ok (.iload_n 1, 1) := by decide +kernel
theorem dX7_hasRoom_5 : decode cX7_hasRoom 5 = .ok (.iaload, 1) := by decide +kernel
theorem dX7_hasRoom_6 : decode cX7_hasRoom 6 = .ok (.iload_n 2, 1) := by decide +kernel
theorem dX7_hasRoom_7 : decode cX7_hasRoom 7 = .ok (.iadd, 1) := by decide +kernel
theorem dX7_hasRoom_8 : decode cX7_hasRoom 8 = .ok (.aload_n 0, 1) := by decide +kernel
theorem dX7_hasRoom_9 : decode cX7_hasRoom 9 = .ok (.getfield 13, 3) := by decide +kernel
theorem dX7_hasRoom_12 : decode cX7_hasRoom 12 = .ok (.iload_n 1, 1) := by decide +kernel
theorem dX7_hasRoom_13 : decode cX7_hasRoom 13 = .ok (.iaload, 1) := by decide +kernel
theorem dX7_hasRoom_14 : decode cX7_hasRoom 14 = .ok (.if_icmp .gt 7, 3) := by decide +kernel
theorem dX7_hasRoom_17 : decode cX7_hasRoom 17 = .ok (.iconst 1, 1) := by decide +kernel
theorem dX7_hasRoom_18 : decode cX7_hasRoom 18 = .ok (.goto 4, 3) := by decide +kernel
theorem dX7_hasRoom_21 : decode cX7_hasRoom 21 = .ok (.iconst 0, 1) := by decide +kernel
theorem dX7_hasRoom_22 : decode cX7_hasRoom 22 = .ok (.ireturn, 1) := by decide +kernel
set_option maxRecDepth 20000 in
theorem ggX7_move_X7_isVessel : GoodIn wsX7_move wsX7_isVessel := goodIn_r _ [8, 9, 10, 11, 7, 12, 44, 45, 46, 47, 48, 49, 50, 51, 52, 53, 54, 55, 56, 57, 58, 59, 60, 61, 62, 63, 64, 65, 66, 67, 68, 69, 70, 71] (by decide +kernel) (by decide +kernel)
set_option maxRecDepth 20000 in
theorem gX7_move_X7_isVessel : GoodIn wsX7_move (wsV RX7 92 RX7 yX7_isVessel wsX7_isVessel) := goodIn_app (goodIn_of _ (by decide +kernel)) ggX7_move_X7_isVessel
set_option maxRecDepth 20000 in
theorem ggX7_move_X7_hasPart : GoodIn wsX7_move wsX7_hasPart := goodIn_r _ [16, 3, 44, 45, 46, 47, 48, 49, 50, 51, 52, 53, 54, 55, 56, 57, 58, 59, 60, 61, 62, 63, 64, 65, 66, 67, 68, 69, 70, 71] (by decide +kernel) (by decide +kernel)
set_option maxRecDepth 20000 in
theorem gX7_move_X7_hasPart : GoodIn wsX7_move (wsV RX7 106 RX7 yX7_hasPart wsX7_hasPart) := goodIn_app (goodIn_of _ (by decide +kernel)) ggX7_move_X7_hasPart
set_option maxRecDepth 20000 in
theorem ggX7_move_X7_hasRoom : GoodIn wsX7_move wsX7_hasRoom := goodIn_r _ [20, 3, 21, 44, 45, 46, 47, 48, 49, 50, 51, 52, 53, 54, 55, 56, 57, 58, 59, 60, 61, 62, 63, 64, 65, 66, 67, 68, 69, 70, 71] (by decide +kernel) (by decide +kernel)
set_option maxRecDepth 20000 in
theorem gX7_move_X7_hasRoom : GoodIn wsX7_move (wsV RX7 98 RX7 yX7_hasRoom wsX7_hasRoom) := goodIn_app (goodIn_of _ (by decide +kernel)) ggX7_move_X7_hasRoom
set_option maxRecDepth 20000 in
theorem ggX7_move_X7_takes : GoodIn wsX7_move wsX7_takes := goodIn_r _ [25, 26, 3, 27, 28, 7, 29, 44, 45, 46, 47, 48, 49, 50, 51, 52, 53, 54, 55, 56, 57, 58, 59, 60, 61, 62, 63, 64, 65, 66, 67, 68, 69, 70, 71] (by decide +kernel) (by decide +kernel)
set_option maxRecDepth 20000 in
theorem gX7_move_X7_takes : GoodIn wsX7_move (wsV RX7 109 RX7 yX7_takes wsX7_takes) := goodIn_app (goodIn_of _ (by decide +kernel)) ggX7_move_X7_takes
set_option maxRecDepth 20000 in
theorem ggX7_move_X7_comes : GoodIn wsX7_move wsX7_comes := goodIn_r _ [33, 3, 26, 34, 35, 36, 7, 37, 38, 39, 40, 41, 42, 43, 44, 45, 46, 47, 48, 49, 50, 51, 52, 53, 54, 55, 56, 57, 58, 59, 60, 61, 62, 63, 64, 65, 66, 67, 68, 69, 70, 71] (by decide +kernel) (by decide +kernel)
set_option maxRecDepth 20000 in
theorem gX7_move_X7_comes : GoodIn wsX7_move (wsV RX7 102 RX7 yX7_comes wsX7_comes) := goodIn_app (goodIn_of _ (by decide +kernel)) ggX7_move_X7_comes
theorem dX7_move_0 : decode cX7_move 0 = .ok (.aload_n 0, 1) := by decide +kernel
theorem dX7_move_1 : decode cX7_move 1 = .ok (.iload_n 1, 1) := by decide +kernel
theorem dX7_move_2 : decode cX7_move 2 = .ok (.invokevirtual 92, 3) := by decide +kernel
theorem dX7_move_5 : decode cX7_move 5 = .ok (.ifCond .eq 15, 3) := by decide +kernel
theorem dX7_move_8 : decode cX7_move 8 = .ok (.aload_n 0, 1) := by decide +kernel
theorem dX7_move_9 : decode cX7_move 9 = .ok (.iload_n 2, 1) := by decide +kernel
theorem dX7_move_10 : decode cX7_move 10 = .ok (.invokevirtual 92, 3) := by decide +kernel
theorem dX7_move_13 : decode cX7_move 13 = .ok (.ifCond .eq 7, 3) := by decide +kernel
theorem dX7_move_16 : decode cX7_move 16 = .ok (.iconst 1, 1) := by decide +kernel
theorem dX7_move_17 : decode cX7_move 17 = .ok (.goto 4, 3) := by decide +kernel
theorem dX7_move_20 : decode cX7_move 20 = .ok (.iconst 0, 1) := by decide +kernel
theorem dX7_move_21 : decode cX7_move 21 = .ok (.istore 4, 2) := by decide +kernel
theorem dX7_move_23 : decode cX7_move 23 = .ok (.aload_n 0, 1) := by decide +kernel
theorem dX7_move_24 : decode cX7_move 24 = .ok (.iload 4, 2) := by decide +kernel
theorem dX7_move_26 : decode cX7_move 26 = .ok (.ifCond .ne 7, 3) := by decide +kernel
theorem dX7_move_29 : decode cX7_move 29 = .ok (.iconst 1, 1) := by decide +kernel
theorem dX7_move_30 : decode cX7_move 30 = .ok (.goto 18, 3) := by decide +kernel
theorem dX7_move_33 : decode cX7_move 33 = .ok (.iload_n 1, 1) := by decide +kernel
theorem dX7_move_34 : decode cX7_move 34 = .ok (.iload_n 2, 1) := by decide +kernel
theorem dX7_move_35 : decode cX7_move 35 = .ok (.if_icmp .eq 8, 3) := by decide +kernel
theorem dX7_move_38 : decode cX7_move 38 = .ok (.iload_n 3, 1) := by decide +kernel
theorem dX7_move_39 : decode cX7_move 39 = .ok (.iconst 1, 1) := by decide +kernel
theorem dX7_move_40 : decode cX7_move 40 = .ok (.if_icmp .ge 7, 3) := by decide +kernel
theorem dX7_move_43 : decode cX7_move 43 = .ok (.iconst 2, 1) := by decide +kernel
theorem dX7_move_44 : decode cX7_move 44 = .ok (.goto 4, 3) := by decide +kernel
theorem dX7_move_47 : decode cX7_move 47 = .ok (.iconst 0, 1) := by decide +kernel
theorem dX7_move_48 : decode cX7_move 48 = .ok (.putfield 56, 3) := by decide +kernel
theorem dX7_move_51 : decode cX7_move 51 = .ok (.aload_n 0, 1) := by decide +kernel
theorem dX7_move_52 : decode cX7_move 52 = .ok (.getfield 56, 3) := by decide +kernel
theorem dX7_move_55 : decode cX7_move 55 = .ok (.ifCond .ne 45, 3) := by decide +kernel
theorem dX7_move_58 : decode cX7_move 58 = .ok (.aload_n 0, 1) := by decide +kernel
theorem dX7_move_59 : decode cX7_move 59 = .ok (.aload_n 0, 1) := by decide +kernel
theorem dX7_move_60 : decode cX7_move 60 = .ok (.getfield 7, 3) := by decide +kernel
theorem dX7_move_63 : decode cX7_move 63 = .ok (.iload_n 1, 1) := by decide +kernel
theorem dX7_move_64 : decode cX7_move 64 = .ok (.iaload, 1) := by decide +kernel
theorem dX7_move_65 : decode cX7_move 65 = .ok (.aload_n 0, 1) := by decide +kernel
theorem dX7_move_66 : decode cX7_move 66 = .ok (.getfield 7, 3) := by decide +kernel
theorem dX7_move_69 : decode cX7_move 69 = .ok (.iload_n 2, 1) := by decide +kernel
theorem dX7_move_70 : decode cX7_move 70 = .ok (.iaload, 1) := by decide +kernel
theorem dX7_move_71 : decode cX7_move 71 = .ok (.if_icmp .ne 25, 3) := by decide +kernel
theorem dX7_move_74 : decode cX7_move 74 = .ok (.aload_n 0, 1) := by decide +kernel
theorem dX7_move_75 : decode cX7_move 75 = .ok (.iload_n 1, 1) := by decide +kernel
theorem dX7_move_76 : decode cX7_move 76 = .ok (.iload_n 3, 1) := by decide +kernel
theorem dX7_move_77 : decode cX7_move 77 = .ok (.invokevirtual 106, 3) := by decide +kernel
theorem dX7_move_80 : decode cX7_move 80 = .ok (.ifCond .eq 16, 3) := by decide +kernel
theorem dX7_move_83 : decode cX7_move 83 = .ok (.aload_n 0, 1) := by decide +kernel
theorem dX7_move_84 : decode cX7_move 84 = .ok (.iload_n 2, 1) := by decide +kernel
theorem dX7_move_85 : decode cX7_move 85 = .ok (.iload_n 3, 1) := by decide +kernel
theorem dX7_move_86 : decode cX7_move 86 = .ok (.invokevirtual 98, 3) := by decide +kernel
theorem dX7_move_89 : decode cX7_move 89 = .ok (.ifCond .eq 7, 3) := by decide +kernel
theorem dX7_move_92 : decode cX7_move 92 = .ok (.iconst 0, 1) := by decide +kernel
theorem dX7_move_93 : decode cX7_move 93 = .ok (.goto 4, 3) := by decide +kernel
theorem dX7_move_96 : decode cX7_move 96 = .ok (.iconst 3, 1) := by decide +kernel
theorem dX7_move_97 : decode cX7_move 97 = .ok (.putfield 56, 3) := by decide +kernel
theorem dX7_move_100 : decode cX7_move 100 = .ok (.aload_n 0, 1) := by decide +kernel
theorem dX7_move_101 : decode cX7_move 101 = .ok (.getfield 56, 3) := by decide +kernel
theorem dX7_move_104 : decode cX7_move 104 = .ok (.ifCond .le 5, 3) := by decide +kernel
theorem dX7_move_107 : decode cX7_move 107 = .ok (.iconst 0, 1) := by decide +kernel
theorem dX7_move_108 : decode cX7_move 108 = .ok (.ireturn, 1) := by decide +kernel
theorem dX7_move_109 : decode cX7_move 109 = .ok (.aload_n 0, 1) := by decide +kernel
theorem dX7_move_110 : decode cX7_move 110 = .ok (.iload_n 2, 1) := by decide +kernel
theorem dX7_move_111 : decode cX7_move 111 = .ok (.iload_n 3, 1) := by decide +kernel
theorem dX7_move_112 : decode cX7_move 112 = .ok (.aload_n 0, 1) := by decide +kernel
theorem dX7_move_113 : decode cX7_move 113 = .ok (.iload_n 1, 1) := by decide +kernel
theorem dX7_move_114 : decode cX7_move 114 = .ok (.iload_n 3, 1) := by decide +kernel
theorem dX7_move_115 : decode cX7_move 115 = .ok (.invokevirtual 109, 3) := by decide +kernel
theorem dX7_move_118 : decode cX7_move 118 = .ok (.invokevirtual 102, 3) := by decide +kernel
theorem dX7_move_121 : decode cX7_move 121 = .ok (.aload_n 0, 1) := by decide +kernel
theorem dX7_move_122 : decode cX7_move 122 = .ok (.getfield 16, 3) := by decide +kernel
theorem dX7_move_125 : decode cX7_move 125 = .ok (.iload_n 2, 1) := by decide +kernel
theorem dX7_move_126 : decode cX7_move 126 = .ok (.iaload, 1) := by decide +kernel
theorem dX7_move_127 : decode cX7_move 127 = .ok (.ireturn, 1) := by decide +kernel
set_option maxRecDepth 20000 in
theorem ggX7_dip_X7_isVessel : GoodIn wsX7_dip wsX7_isVessel := goodIn_r _ [11, 12, 13, 14, 10, 15, 27, 28, 29, 30, 31, 32, 33, 34, 35, 36, 37, 38, 39, 40, 41, 42, 43, 44, 45, 46, 47, 48, 49, 50, 51, 52, 53, 54] (by decide +kernel) (by decide +kernel)
set_option maxRecDepth 20000 in
theorem gX7_dip_X7_isVessel : GoodIn wsX7_dip (wsV RX7 92 RX7 yX7_isVessel wsX7_isVessel) := goodIn_app (goodIn_of _ (by decide +kernel)) ggX7_dip_X7_isVessel
set_option maxRecDepth 20000 in
theorem ggX7_dip_X7_in : GoodIn wsX7_dip wsX7_in := goodIn_r _ [15] (by decide +kernel) (by decide +kernel)
set_option maxRecDepth 20000 in
theorem gX7_dip_X7_in : GoodIn wsX7_dip (va_wsS RX7 62 yX7_in wsX7_in) := goodIn_app (goodIn_of _ (by decide +kernel)) ggX7_dip_X7_in
set_option maxRecDepth 20000 in
theorem ggX7_dip_X7_misses : GoodIn wsX7_dip wsX7_misses := goodIn_r _ [19, 5, 20, 21, 22, 23, 24, 10, 25, 26, 27, 28, 29, 30, 31, 32, 33, 34, 35, 36, 37, 38, 39, 40, 41, 42, 43, 44, 45, 46, 47, 48, 49, 50, 51, 52, 53, 54] (by decide +kernel) (by decide +kernel)
set_option maxRecDepth 20000 in
theorem gX7_dip_X7_misses : GoodIn wsX7_dip (wsV RX7 115 RX7 yX7_misses wsX7_misses) := goodIn_app (goodIn_of _ (by decide +kernel)) ggX7_dip_X7_misses
theorem dX7_dip_0 : decode cX7_dip 0 = .ok (.aload_n 0, 1) := by decide +kernel
theorem dX7_dip_1 : decode cX7_dip 1 = .ok (.iload_n 1, 1) := by decide +kernel
theorem dX7_dip_2 : decode cX7_dip 2 = .ok (.invokevirtual 92, 3) := by decide +kernel
theorem dX7_dip_5 : decode cX7_dip 5 = .ok (.istore 4, 2) := by decide +kernel
theorem dX7_dip_7 : decode cX7_dip 7 = .ok (.aload_n 0, 1) := by decide +kernel
theorem dX7_dip_8 : decode cX7_dip 8 = .ok (.iload 4, 2) := by decide +kernel
theorem dX7_dip_10 : decode cX7_dip 10 = .ok (.ifCond .ne 7, 3) := by decide +kernel
theorem dX7_dip_13 : decode cX7_dip 13 = .ok (.iconst 1, 1) := by decide +kernel
theorem dX7_dip_14 : decode cX7_dip 14 = .ok (.goto 46, 3) := by decide +kernel
theorem dX7_dip_17 : decode cX7_dip 17 = .ok (.iload_n 2, 1) := by decide +kernel
theorem dX7_dip_18 : decode cX7_dip 18 = .ok (.iconst 0, 1) := by decide +kernel
theorem dX7_dip_19 : decode cX7_dip 19 = .ok (.aload_n 0, 1) := by decide +kernel
theorem dX7_dip_20 : decode cX7_dip 20 = .ok (.getfield 13, 3) := by decide +kernel
theorem dX7_dip_23 : decode cX7_dip 23 = .ok (.iload_n 1, 1) := by decide +kernel
theorem dX7_dip_24 : decode cX7_dip 24 = .ok (.iaload, 1) := by decide +kernel
theorem dX7_dip_25 : decode cX7_dip 25 = .ok (.invokestatic 62, 3) := by decide +kernel
theorem dX7_dip_28 : decode cX7_dip 28 = .ok (.ifCond .eq 14, 3) := by decide +kernel
theorem dX7_dip_31 : decode cX7_dip 31 = .ok (.iload_n 3, 1) := by decide +kernel
theorem dX7_dip_32 : decode cX7_dip 32 = .ok (.iconst 0, 1) := by decide +kernel
theorem dX7_dip_33 : decode cX7_dip 33 = .ok (.sipush 960, 3) := by decide +kernel
theorem dX7_dip_36 : decode cX7_dip 36 = .ok (.invokestatic 62, 3) := by decide +kernel
theorem dX7_dip_39 : decode cX7_dip 39 = .ok (.ifCond .ne 7, 3) := by decide +kernel
theorem dX7_dip_42 : decode cX7_dip 42 = .ok (.iconst 2, 1) := by decide +kernel
theorem dX7_dip_43 : decode cX7_dip 43 = .ok (.goto 17, 3) := by decide +kernel
theorem dX7_dip_46 : decode cX7_dip 46 = .ok (.aload_n 0, 1) := by decide +kernel
theorem dX7_dip_47 : decode cX7_dip 47 = .ok (.getfield 112, 3) := by decide +kernel
theorem dX7_dip_50 : decode cX7_dip 50 = .ok (.bipush 60, 2) := by decide +kernel
theorem dX7_dip_52 : decode cX7_dip 52 = .ok (.if_icmp .ne 7, 3) := by decide +kernel
theorem dX7_dip_55 : decode cX7_dip 55 = .ok (.iconst 3, 1) := by decide +kernel
theorem dX7_dip_56 : decode cX7_dip 56 = .ok (.goto 4, 3) := by decide +kernel
theorem dX7_dip_59 : decode cX7_dip 59 = .ok (.iconst 0, 1) := by decide +kernel
theorem dX7_dip_60 : decode cX7_dip 60 = .ok (.putfield 56, 3) := by decide +kernel
theorem dX7_dip_63 : decode cX7_dip 63 = .ok (.aload_n 0, 1) := by decide +kernel
theorem dX7_dip_64 : decode cX7_dip 64 = .ok (.getfield 56, 3) := by decide +kernel
theorem dX7_dip_67 : decode cX7_dip 67 = .ok (.ifCond .le 5, 3) := by decide +kernel
theorem dX7_dip_70 : decode cX7_dip 70 = .ok (.iconst 0, 1) := by decide +kernel
theorem dX7_dip_71 : decode cX7_dip 71 = .ok (.ireturn, 1) := by decide +kernel
theorem dX7_dip_72 : decode cX7_dip 72 = .ok (.aload_n 0, 1) := by decide +kernel
theorem dX7_dip_73 : decode cX7_dip 73 = .ok (.dup, 1) := by decide +kernel
theorem dX7_dip_74 : decode cX7_dip 74 = .ok (.getfield 112, 3) := by decide +kernel
theorem dX7_dip_77 : decode cX7_dip 77 = .ok (.iconst 1, 1) := by decide +kernel
theorem dX7_dip_78 : decode cX7_dip 78 = .ok (.iadd, 1) := by decide +kernel
theorem dX7_dip_79 : decode cX7_dip 79 = .ok (.putfield 112, 3) := by decide +kernel
theorem dX7_dip_82 : decode cX7_dip 82 = .ok (.aload_n 0, 1) := by decide +kernel
theorem dX7_dip_83 : decode cX7_dip 83 = .ok (.getfield 19, 3) := by decide +kernel
theorem dX7_dip_86 : decode cX7_dip 86 = .ok (.iload_n 1, 1) := by decide +kernel
theorem dX7_dip_87 : decode cX7_dip 87 = .ok (.iaload, 1) := by decide +kernel
theorem dX7_dip_88 : decode cX7_dip 88 = .ok (.iload_n 2, 1) := by decide +kernel
theorem dX7_dip_89 : decode cX7_dip 89 = .ok (.iload_n 3, 1) := by decide +kernel
theorem dX7_dip_90 : decode cX7_dip 90 = .ok (.imul, 1) := by decide +kernel
theorem dX7_dip_91 : decode cX7_dip 91 = .ok (.isub, 1) := by decide +kernel
theorem dX7_dip_92 : decode cX7_dip 92 = .ok (.istore 5, 2) := by decide +kernel
theorem dX7_dip_94 : decode cX7_dip 94 = .ok (.iload 5, 2) := by decide +kernel
theorem dX7_dip_96 : decode cX7_dip 96 = .ok (.aload_n 0, 1) := by decide +kernel
theorem dX7_dip_97 : decode cX7_dip 97 = .ok (.getfield 19, 3) := by decide +kernel
theorem dX7_dip_100 : decode cX7_dip 100 = .ok (.iload_n 1, 1) := by decide +kernel
theorem dX7_dip_101 : decode cX7_dip 101 = .ok (.iaload, 1) := by decide +kernel
theorem dX7_dip_102 : decode cX7_dip 102 = .ok (.bipush 100, 2) := by decide +kernel
theorem dX7_dip_104 : decode cX7_dip 104 = .ok (.idiv, 1) := by decide +kernel
theorem dX7_dip_105 : decode cX7_dip 105 = .ok (.if_icmp .le 13, 3) := by decide +kernel
theorem dX7_dip_108 : decode cX7_dip 108 = .ok (.aload_n 0, 1) := by decide +kernel
theorem dX7_dip_109 : decode cX7_dip 109 = .ok (.iload 5, 2) := by decide +kernel
theorem dX7_dip_111 : decode cX7_dip 111 = .ok (.invokevirtual 115, 3) := by decide +kernel
theorem dX7_dip_114 : decode cX7_dip 114 = .ok (.pop, 1) := by decide +kernel
theorem dX7_dip_115 : decode cX7_dip 115 = .ok (.goto 33, 3) := by decide +kernel
theorem dX7_dip_118 : decode cX7_dip 118 = .ok (.iload 5, 2) := by decide +kernel
theorem dX7_dip_120 : decode cX7_dip 120 = .ok (.ifCond .le 17, 3) := by decide +kernel
theorem dX7_dip_123 : decode cX7_dip 123 = .ok (.aload_n 0, 1) := by decide +kernel
theorem dX7_dip_124 : decode cX7_dip 124 = .ok (.getfield 25, 3) := by decide +kernel
theorem dX7_dip_127 : decode cX7_dip 127 = .ok (.iconst 4, 1) := by decide +kernel
theorem dX7_dip_128 : decode cX7_dip 128 = .ok (.dup2, 1) := by decide +kernel
theorem dX7_dip_129 : decode cX7_dip 129 = .ok (.iaload, 1) := by decide +kernel
theorem dX7_dip_130 : decode cX7_dip 130 = .ok (.iload 5, 2) := by decide +kernel
theorem dX7_dip_132 : decode cX7_dip 132 = .ok (.iadd, 1) := by decide +kernel
theorem dX7_dip_133 : decode cX7_dip 133 = .ok (.iastore, 1) := by decide +kernel
theorem dX7_dip_134 : decode cX7_dip 134 = .ok (.goto 14, 3) := by decide +kernel
theorem dX7_dip_137 : decode cX7_dip 137 = .ok (.aload_n 0, 1) := by decide +kernel
theorem dX7_dip_138 : decode cX7_dip 138 = .ok (.getfield 25, 3) := by decide +kernel
theorem dX7_dip_141 : decode cX7_dip 141 = .ok (.iconst 0, 1) := by decide +kernel
theorem dX7_dip_142 : decode cX7_dip 142 = .ok (.dup2, 1) := by decide +kernel
theorem dX7_dip_143 : decode cX7_dip 143 = .ok (.iaload, 1) := by decide +kernel
theorem dX7_dip_144 : decode cX7_dip 144 = .ok (.iload 5, 2) := by decide +kernel
theorem dX7_dip_146 : decode cX7_dip 146 = .ok (.isub, 1) := by decide +kernel
theorem dX7_dip_147 : decode cX7_dip 147 = .ok (.iastore, 1) := by decide +kernel
theorem dX7_dip_148 : decode cX7_dip 148 = .ok (.aload_n 0, 1) := by decide +kernel
theorem dX7_dip_149 : decode cX7_dip 149 = .ok (.getfield 16, 3) := by decide +kernel
theorem dX7_dip_152 : decode cX7_dip 152 = .ok (.iload_n 1, 1) := by decide +kernel
theorem dX7_dip_153 : decode cX7_dip 153 = .ok (.iload_n 2, 1) := by decide +kernel
theorem dX7_dip_154 : decode cX7_dip 154 = .ok (.iastore, 1) := by decide +kernel
theorem dX7_dip_155 : decode cX7_dip 155 = .ok (.aload_n 0, 1) := by decide +kernel
theorem dX7_dip_156 : decode cX7_dip 156 = .ok (.getfield 19, 3) := by decide +kernel
theorem dX7_dip_159 : decode cX7_dip 159 = .ok (.iload_n 1, 1) := by decide +kernel
theorem dX7_dip_160 : decode cX7_dip 160 = .ok (.iload_n 2, 1) := by decide +kernel
theorem dX7_dip_161 : decode cX7_dip 161 = .ok (.iload_n 3, 1) := by decide +kernel
theorem dX7_dip_162 : decode cX7_dip 162 = .ok (.imul, 1) := by decide +kernel
theorem dX7_dip_163 : decode cX7_dip 163 = .ok (.iastore, 1) := by decide +kernel
theorem dX7_dip_164 : decode cX7_dip 164 = .ok (.iload 5, 2) := by decide +kernel
theorem dX7_dip_166 : decode cX7_dip 166 = .ok (.ireturn, 1) := by decide +kernel
set_option maxRecDepth 20000 in
theorem ggX7_asksPart_X7_isVessel : GoodIn wsX7_asksPart wsX7_isVessel := goodIn_r _ [6, 7, 8, 9, 5, 10, 16, 17, 18, 19, 20, 21, 22, 23, 24, 25, 26, 27, 28, 29, 30, 31, 32, 33, 34, 35, 36, 37, 38, 39, 40, 41, 42, 43] (by decide +kernel) (by decide +kernel)
set_option maxRecDepth 20000 in
theorem gX7_asksPart_X7_isVessel : GoodIn wsX7_asksPart (wsV RX7 92 RX7 yX7_isVessel wsX7_isVessel) := goodIn_app (goodIn_of _ (by decide +kernel)) ggX7_asksPart_X7_isVessel
set_option maxRecDepth 20000 in
theorem ggX7_asksPart_X7_hasPart : GoodIn wsX7_asksPart wsX7_hasPart := goodIn_r _ [14, 15, 16, 17, 18, 19, 20, 21, 22, 23, 24, 25, 26, 27, 28, 29, 30, 31, 32, 33, 34, 35, 36, 37, 38, 39, 40, 41, 42, 43] (by decide +kernel) (by decide +kernel)
set_option maxRecDepth 20000 in
theorem gX7_asksPart_X7_hasPart : GoodIn wsX7_asksPart (wsV RX7 106 RX7 yX7_hasPart wsX7_hasPart) := goodIn_app (goodIn_of _ (by decide +kernel)) ggX7_asksPart_X7_hasPart
theorem dX7_asksPart_0 : decode cX7_asksPart 0 = .ok (.aload_n 0, 1) := by decide +kernel
theorem dX7_asksPart_1 : decode cX7_asksPart 1 = .ok (.aload_n 0, 1) := by decide +kernel
theorem dX7_asksPart_2 : decode cX7_asksPart 2 = .ok (.iload_n 1, 1) := by decide +kernel
theorem dX7_asksPart_3 : decode cX7_asksPart 3 = .ok (.invokevirtual 92, 3) := by decide +kernel
theorem dX7_asksPart_6 : decode cX7_asksPart 6 = .ok (.ifCond .ne 7, 3) := by decide +kernel
theorem dX7_asksPart_9 : decode cX7_asksPart 9 = .ok (.iconst 1, 1) := by decide +kernel
theorem dX7_asksPart_10 : decode cX7_asksPart 10 = .ok (.goto 26, 3) := by decide +kernel
theorem dX7_asksPart_13 : decode cX7_asksPart 13 = .ok (.iload_n 2, 1) := by decide +kernel
theorem dX7_asksPart_14 : decode cX7_asksPart 14 = .ok (.iconst 1, 1) := by decide +kernel
theorem dX7_asksPart_15 : decode cX7_asksPart 15 = .ok (.if_icmp .ge 7, 3) := by decide +kernel
theorem dX7_asksPart_18 : decode cX7_asksPart 18 = .ok (.iconst 2, 1) := by decide +kernel
theorem dX7_asksPart_19 : decode cX7_asksPart 19 = .ok (.goto 17, 3) := by decide +kernel
theorem dX7_asksPart_22 : decode cX7_asksPart 22 = .ok (.aload_n 0, 1) := by decide +kernel
theorem dX7_asksPart_23 : decode cX7_asksPart 23 = .ok (.iload_n 1, 1) := by decide +kernel
theorem dX7_asksPart_24 : decode cX7_asksPart 24 = .ok (.iload_n 2, 1) := by decide +kernel
theorem dX7_asksPart_25 : decode cX7_asksPart 25 = .ok (.invokevirtual 106, 3) := by decide +kernel
theorem dX7_asksPart_28 : decode cX7_asksPart 28 = .ok (.ifCond .eq 7, 3) := by decide +kernel
theorem dX7_asksPart_31 : decode cX7_asksPart 31 = .ok (.iconst 0, 1) := by decide +kernel
theorem dX7_asksPart_32 : decode cX7_asksPart 32 = .ok (.goto 4, 3) := by decide +kernel
theorem dX7_asksPart_35 : decode cX7_asksPart 35 = .ok (.iconst 3, 1) := by decide +kernel
theorem dX7_asksPart_36 : decode cX7_asksPart 36 = .ok (.putfield 56, 3) := by decide +kernel
theorem dX7_asksPart_39 : decode cX7_asksPart 39 = .ok (.aload_n 0, 1) := by decide +kernel
theorem dX7_asksPart_40 : decode cX7_asksPart 40 = .ok (.getfield 56, 3) := by decide +kernel
theorem dX7_asksPart_43 : decode cX7_asksPart 43 = .ok (.ifCond .ne 7, 3) := by decide +kernel
theorem dX7_asksPart_46 : decode cX7_asksPart 46 = .ok (.iconst 1, 1) := by decide +kernel
theorem dX7_asksPart_47 : decode cX7_asksPart 47 = .ok (.goto 4, 3) := by decide +kernel
theorem dX7_asksPart_50 : decode cX7_asksPart 50 = .ok (.iconst 0, 1) := by decide +kernel
theorem dX7_asksPart_51 : decode cX7_asksPart 51 = .ok (.ireturn, 1) := by decide +kernel
set_option maxRecDepth 20000 in
theorem ggX7_lose_X7_asksPart : GoodIn wsX7_lose wsX7_asksPart := goodIn_r _ [6, 7, 8, 9, 10, 5, 11, 12, 13, 14, 15, 16, 17, 18, 19, 20, 40, 41, 42, 43, 44, 45, 46, 47, 48, 49, 50, 51, 52, 53, 54, 55, 56, 57, 58, 59, 60, 61, 62, 63, 64, 65, 66, 67] (by decide +kernel) (by decide +kernel)
set_option maxRecDepth 20000 in
theorem gX7_lose_X7_asksPart : GoodIn wsX7_lose (wsV RX7 119 RX7 yX7_asksPart wsX7_asksPart) := goodIn_app (goodIn_of _ (by decide +kernel)) ggX7_lose_X7_asksPart
set_option maxRecDepth 20000 in
theorem ggX7_lose_X7_takes : GoodIn wsX7_lose wsX7_takes := goodIn_r _ [24, 25, 20, 26, 27, 5, 28, 40, 41, 42, 43, 44, 45, 46, 47, 48, 49, 50, 51, 52, 53, 54, 55, 56, 57, 58, 59, 60, 61, 62, 63, 64, 65, 66, 67] (by decide +kernel) (by decide +kernel)
set_option maxRecDepth 20000 in
theorem gX7_lose_X7_takes : GoodIn wsX7_lose (wsV RX7 109 RX7 yX7_takes wsX7_takes) := goodIn_app (goodIn_of _ (by decide +kernel)) ggX7_lose_X7_takes
set_option maxRecDepth 20000 in
theorem ggX7_lose_X7_misses : GoodIn wsX7_lose wsX7_misses := goodIn_r _ [32, 1, 33, 34, 35, 36, 37, 5, 38, 39, 40, 41, 42, 43, 44, 45, 46, 47, 48, 49, 50, 51, 52, 53, 54, 55, 56, 57, 58, 59, 60, 61, 62, 63, 64, 65, 66, 67] (by decide +kernel) (by decide +kernel)
set_option maxRecDepth 20000 in
theorem gX7_lose_X7_misses : GoodIn wsX7_lose (wsV RX7 115 RX7 yX7_misses wsX7_misses) := goodIn_app (goodIn_of _ (by decide +kernel)) ggX7_lose_X7_misses
theorem dX7_lose_0 : decode cX7_lose 0 = .ok (.aload_n 0, 1) := by decide +kernel
theorem dX7_lose_1 : decode cX7_lose 1 = .ok (.iload_n 1, 1) := by decide +kernel
theorem dX7_lose_2 : decode cX7_lose 2 = .ok (.iload_n 2, 1) := by decide +kernel
theorem dX7_lose_3 : decode cX7_lose 3 = .ok (.invokevirtual 119, 3) := by decide +kernel
theorem dX7_lose_6 : decode cX7_lose 6 = .ok (.ifCond .ne 5, 3) := by decide +kernel
theorem dX7_lose_9 : decode cX7_lose 9 = .ok (.iconst 0, 1) := by decide +kernel
theorem dX7_lose_10 : decode cX7_lose 10 = .ok (.ireturn, 1) := by decide +kernel
theorem dX7_lose_11 : decode cX7_lose 11 = .ok (.aload_n 0, 1) := by decide +kernel
theorem dX7_lose_12 : decode cX7_lose 12 = .ok (.iload_n 1, 1) := by decide +kernel
theorem dX7_lose_13 : decode cX7_lose 13 = .ok (.iload_n 2, 1) := by decide +kernel
theorem dX7_lose_14 : decode cX7_lose 14 = .ok (.invokevirtual 109, 3) := by decide +kernel
theorem dX7_lose_17 : decode cX7_lose 17 = .ok (.istore 4, 2) := by decide +kernel
theorem dX7_lose_19 : decode cX7_lose 19 = .ok (.aload_n 0, 1) := by decide +kernel
theorem dX7_lose_20 : decode cX7_lose 20 = .ok (.getfield 25, 3) := by decide +kernel
theorem dX7_lose_23 : decode cX7_lose 23 = .ok (.iconst 4, 1) := by decide +kernel
theorem dX7_lose_24 : decode cX7_lose 24 = .ok (.dup2, 1) := by decide +kernel
theorem dX7_lose_25 : decode cX7_lose 25 = .ok (.iaload, 1) := by decide +kernel
theorem dX7_lose_26 : decode cX7_lose 26 = .ok (.iload_n 3, 1) := by decide +kernel
theorem dX7_lose_27 : decode cX7_lose 27 = .ok (.ifCond .eq 8, 3) := by decide +kernel
theorem dX7_lose_30 : decode cX7_lose 30 = .ok (.iload 4, 2) := by decide +kernel
theorem dX7_lose_32 : decode cX7_lose 32 = .ok (.goto 4, 3) := by decide +kernel
theorem dX7_lose_35 : decode cX7_lose 35 = .ok (.iconst 0, 1) := by decide +kernel
theorem dX7_lose_36 : decode cX7_lose 36 = .ok (.iadd, 1) := by decide +kernel
theorem dX7_lose_37 : decode cX7_lose 37 = .ok (.iastore, 1) := by decide +kernel
theorem dX7_lose_38 : decode cX7_lose 38 = .ok (.iload_n 3, 1) := by decide +kernel
theorem dX7_lose_39 : decode cX7_lose 39 = .ok (.ifCond .eq 7, 3) := by decide +kernel
theorem dX7_lose_42 : decode cX7_lose 42 = .ok (.iconst 0, 1) := by decide +kernel
theorem dX7_lose_43 : decode cX7_lose 43 = .ok (.goto 9, 3) := by decide +kernel
theorem dX7_lose_46 : decode cX7_lose 46 = .ok (.aload_n 0, 1) := by decide +kernel
theorem dX7_lose_47 : decode cX7_lose 47 = .ok (.iload 4, 2) := by decide +kernel
theorem dX7_lose_49 : decode cX7_lose 49 = .ok (.invokevirtual 115, 3) := by decide +kernel
theorem dX7_lose_52 : decode cX7_lose 52 = .ok (.ireturn, 1) := by decide +kernel
set_option maxRecDepth 20000 in
theorem ggX7_release_X7_asksPart : GoodIn wsX7_release wsX7_asksPart := goodIn_r _ [17, 6, 18, 19, 20, 16, 21, 22, 23, 24, 25, 26, 27, 28, 29, 2, 45, 46, 47, 48, 49, 50, 51, 52, 53, 54, 55, 56, 57, 58, 59, 60, 61, 62, 63, 64, 65, 66, 67, 68, 69, 70, 71, 72] (by decide +kernel) (by decide +kernel)
set_option maxRecDepth 20000 in
theorem gX7_release_X7_asksPart : GoodIn wsX7_release (wsV RX7 119 RX7 yX7_asksPart wsX7_asksPart) := goodIn_app (goodIn_of _ (by decide +kernel)) ggX7_release_X7_asksPart
set_option maxRecDepth 20000 in
theorem ggX7_release_X7_part : GoodIn wsX7_release wsX7_part := goodIn_r _ [32] (by decide +kernel) (by decide +kernel)
set_option maxRecDepth 20000 in
theorem gX7_release_X7_part : GoodIn wsX7_release (va_wsS RX7 77 yX7_part wsX7_part) := goodIn_app (goodIn_of _ (by decide +kernel)) ggX7_release_X7_part
set_option maxRecDepth 20000 in
theorem ggX7_release_X7_takes : GoodIn wsX7_release wsX7_takes := goodIn_r _ [36, 1, 2, 30, 31, 16, 32, 45, 46, 47, 48, 49, 50, 51, 52, 53, 54, 55, 56, 57, 58, 59, 60, 61, 62, 63, 64, 65, 66, 67, 68, 69, 70, 71, 72] (by decide +kernel) (by decide +kernel)
set_option maxRecDepth 20000 in
theorem gX7_release_X7_takes : GoodIn wsX7_release (wsV RX7 109 RX7 yX7_takes wsX7_takes) := goodIn_app (goodIn_of _ (by decide +kernel)) ggX7_release_X7_takes
set_option maxRecDepth 20000 in
theorem ggX7_release_X7_least : GoodIn wsX7_release wsX7_least := goodIn_r _ [39] (by decide +kernel) (by decide +kernel)
set_option maxRecDepth 20000 in
theorem gX7_release_X7_least : GoodIn wsX7_release (va_wsS RX7 70 yX7_least wsX7_least) := goodIn_app (goodIn_of _ (by decide +kernel)) ggX7_release_X7_least
set_option maxRecDepth 20000 in
theorem ggX7_release_X7_dutyFor : GoodIn wsX7_release wsX7_dutyFor := goodIn_r _ [43, 44] (by decide +kernel) (by decide +kernel)
set_option maxRecDepth 20000 in
theorem gX7_release_X7_dutyFor : GoodIn wsX7_release (wsV RX7 82 RX7 yX7_dutyFor wsX7_dutyFor) := goodIn_app (goodIn_of _ (by decide +kernel)) ggX7_release_X7_dutyFor
theorem dX7_release_0 : decode cX7_release 0 = .ok (.aload_n 0, 1) := by decide +kernel
theorem dX7_release_1 : decode cX7_release 1 = .ok (.iload_n 1, 1) := by decide +kernel
theorem dX7_release_2 : decode cX7_release 2 = .ok (.iload_n 2, 1) := by decide +kernel
theorem dX7_release_3 : decode cX7_release 3 = .ok (.invokevirtual 119, 3) := by decide +kernel
theorem dX7_release_6 : decode cX7_release 6 = .ok (.ifCond .ne 5, 3) := by decide +kernel
theorem dX7_release_9 : decode cX7_release 9 = .ok (.iconst 0, 1) := by decide +kernel
theorem dX7_release_10 : decode cX7_release 10 = .ok (.ireturn, 1) := by decide +kernel
theorem dX7_release_11 : decode cX7_release 11 = .ok (.aload_n 0, 1) := by decide +kernel
theorem dX7_release_12 : decode cX7_release 12 = .ok (.getfield 19, 3) := by decide +kernel
theorem dX7_release_15 : decode cX7_release 15 = .ok (.iload_n 1, 1) := by decide +kernel
theorem dX7_release_16 : decode cX7_release 16 = .ok (.iaload, 1) := by decide +kernel
theorem dX7_release_17 : decode cX7_release 17 = .ok (.iload_n 2, 1) := by decide +kernel
theorem dX7_release_18 : decode cX7_release 18 = .ok (.aload_n 0, 1) := by decide +kernel
theorem dX7_release_19 : decode cX7_release 19 = .ok (.getfield 16, 3) := by decide +kernel
theorem dX7_release_22 : decode cX7_release 22 = .ok (.iload_n 1, 1) := by decide +kernel
theorem dX7_release_23 : decode cX7_release 23 = .ok (.iaload, 1) := by decide +kernel
theorem dX7_release_24 : decode cX7_release 24 = .ok (.invokestatic 77, 3) := by decide +kernel
theorem dX7_release_27 : decode cX7_release 27 = .ok (.istore_n 3, 1) := by decide +kernel
theorem dX7_release_28 : decode cX7_release 28 = .ok (.aload_n 0, 1) := by decide +kernel
theorem dX7_release_29 : decode cX7_release 29 = .ok (.aload_n 0, 1) := by decide +kernel
theorem dX7_release_30 : decode cX7_release 30 = .ok (.getfield 32, 3) := by decide +kernel
theorem dX7_release_33 : decode cX7_release 33 = .ok (.iconst (-1), 1) := by decide +kernel
theorem dX7_release_34 : decode cX7_release 34 = .ok (.if_icmp .eq 11, 3) := by decide +kernel
theorem dX7_release_37 : decode cX7_release 37 = .ok (.iload_n 3, 1) := by decide +kernel
theorem dX7_release_38 : decode cX7_release 38 = .ok (.aload_n 0, 1) := by decide +kernel
theorem dX7_release_39 : decode cX7_release 39 = .ok (.getfield 122, 3) := by decide +kernel
theorem dX7_release_42 : decode cX7_release 42 = .ok (.if_icmp .gt 12, 3) := by decide +kernel
theorem dX7_release_45 : decode cX7_release 45 = .ok (.aload_n 0, 1) := by decide +kernel
theorem dX7_release_46 : decode cX7_release 46 = .ok (.getfield 125, 3) := by decide +kernel
theorem dX7_release_49 : decode cX7_release 49 = .ok (.bipush 100, 2) := by decide +kernel
theorem dX7_release_51 : decode cX7_release 51 = .ok (.if_icmp .ne 7, 3) := by decide +kernel
theorem dX7_release_54 : decode cX7_release 54 = .ok (.iconst 3, 1) := by decide +kernel
theorem dX7_release_55 : decode cX7_release 55 = .ok (.goto 4, 3) := by decide +kernel
theorem dX7_release_58 : decode cX7_release 58 = .ok (.iconst 0, 1) := by decide +kernel
theorem dX7_release_59 : decode cX7_release 59 = .ok (.putfield 56, 3) := by decide +kernel
theorem dX7_release_62 : decode cX7_release 62 = .ok (.aload_n 0, 1) := by decide +kernel
theorem dX7_release_63 : decode cX7_release 63 = .ok (.getfield 56, 3) := by decide +kernel
theorem dX7_release_66 : decode cX7_release 66 = .ok (.ifCond .le 5, 3) := by decide +kernel
theorem dX7_release_69 : decode cX7_release 69 = .ok (.iconst 0, 1) := by decide +kernel
theorem dX7_release_70 : decode cX7_release 70 = .ok (.ireturn, 1) := by decide +kernel
theorem dX7_release_71 : decode cX7_release 71 = .ok (.aload_n 0, 1) := by decide +kernel
theorem dX7_release_72 : decode cX7_release 72 = .ok (.iload_n 1, 1) := by decide +kernel
theorem dX7_release_73 : decode cX7_release 73 = .ok (.iload_n 2, 1) := by decide +kernel
theorem dX7_release_74 : decode cX7_release 74 = .ok (.invokevirtual 109, 3) := by decide +kernel
theorem dX7_release_77 : decode cX7_release 77 = .ok (.pop, 1) := by decide +kernel
theorem dX7_release_78 : decode cX7_release 78 = .ok (.aload_n 0, 1) := by decide +kernel
theorem dX7_release_79 : decode cX7_release 79 = .ok (.dup, 1) := by decide +kernel
theorem dX7_release_80 : decode cX7_release 80 = .ok (.getfield 122, 3) := by decide +kernel
theorem dX7_release_83 : decode cX7_release 83 = .ok (.aload_n 0, 1) := by decide +kernel
theorem dX7_release_84 : decode cX7_release 84 = .ok (.getfield 32, 3) := by decide +kernel
theorem dX7_release_87 : decode cX7_release 87 = .ok (.iconst (-1), 1) := by decide +kernel
theorem dX7_release_88 : decode cX7_release 88 = .ok (.if_icmp .eq 7, 3) := by decide +kernel
theorem dX7_release_91 : decode cX7_release 91 = .ok (.iload_n 3, 1) := by decide +kernel
theorem dX7_release_92 : decode cX7_release 92 = .ok (.goto 4, 3) := by decide +kernel
theorem dX7_release_95 : decode cX7_release 95 = .ok (.iconst 0, 1) := by decide +kernel
theorem dX7_release_96 : decode cX7_release 96 = .ok (.isub, 1) := by decide +kernel
theorem dX7_release_97 : decode cX7_release 97 = .ok (.putfield 122, 3) := by decide +kernel
theorem dX7_release_100 : decode cX7_release 100 = .ok (.iload_n 3, 1) := by decide +kernel
theorem dX7_release_101 : decode cX7_release 101 = .ok (.ldc 128, 2) := by decide +kernel
theorem dX7_release_103 : decode cX7_release 103 = .ok (.aload_n 0, 1) := by decide +kernel
theorem dX7_release_104 : decode cX7_release 104 = .ok (.getfield 129, 3) := by decide +kernel
theorem dX7_release_107 : decode cX7_release 107 = .ok (.isub, 1) := by decide +kernel
theorem dX7_release_108 : decode cX7_release 108 = .ok (.invokestatic 70, 3) := by decide +kernel
theorem dX7_release_111 : decode cX7_release 111 = .ok (.istore 4, 2) := by decide +kernel
theorem dX7_release_113 : decode cX7_release 113 = .ok (.aload_n 0, 1) := by decide +kernel
theorem dX7_release_114 : decode cX7_release 114 = .ok (.dup, 1) := by decide +kernel
theorem dX7_release_115 : decode cX7_release 115 = .ok (.getfield 129, 3) := by decide +kernel
theorem dX7_release_118 : decode cX7_release 118 = .ok (.iload 4, 2) := by decide +kernel
theorem dX7_release_120 : decode cX7_release 120 = .ok (.iadd, 1) := by decide +kernel
theorem dX7_release_121 : decode cX7_release 121 = .ok (.putfield 129, 3) := by decide +kernel
theorem dX7_release_124 : decode cX7_release 124 = .ok (.aload_n 0, 1) := by decide +kernel
theorem dX7_release_125 : decode cX7_release 125 = .ok (.iload 4, 2) := by decide +kernel
theorem dX7_release_127 : decode cX7_release 127 = .ok (.aload_n 0, 1) := by decide +kernel
theorem dX7_release_128 : decode cX7_release 128 = .ok (.getfield 28, 3) := by decide +kernel
theorem dX7_release_131 : decode cX7_release 131 = .ok (.iconst 2, 1) := by decide +kernel
theorem dX7_release_132 : decode cX7_release 132 = .ok (.idiv, 1) := by decide +kernel
theorem dX7_release_133 : decode cX7_release 133 = .ok (.invokevirtual 82, 3) := by decide +kernel
theorem dX7_release_136 : decode cX7_release 136 = .ok (.aload_n 0, 1) := by decide +kernel
theorem dX7_release_137 : decode cX7_release 137 = .ok (.iload_n 3, 1) := by decide +kernel
theorem dX7_release_138 : decode cX7_release 138 = .ok (.iload 4, 2) := by decide +kernel
theorem dX7_release_140 : decode cX7_release 140 = .ok (.isub, 1) := by decide +kernel
theorem dX7_release_141 : decode cX7_release 141 = .ok (.aload_n 0, 1) := by decide +kernel
theorem dX7_release_142 : decode cX7_release 142 = .ok (.getfield 28, 3) := by decide +kernel
theorem dX7_release_145 : decode cX7_release 145 = .ok (.invokevirtual 82, 3) := by decide +kernel
theorem dX7_release_148 : decode cX7_release 148 = .ok (.iadd, 1) := by decide +kernel
theorem dX7_release_149 : decode cX7_release 149 = .ok (.istore 5, 2) := by decide +kernel
theorem dX7_release_151 : decode cX7_release 151 = .ok (.aload_n 0, 1) := by decide +kernel
theorem dX7_release_152 : decode cX7_release 152 = .ok (.dup, 1) := by decide +kernel
theorem dX7_release_153 : decode cX7_release 153 = .ok (.getfield 85, 3) := by decide +kernel
theorem dX7_release_156 : decode cX7_release 156 = .ok (.iload 5, 2) := by decide +kernel
theorem dX7_release_158 : decode cX7_release 158 = .ok (.iadd, 1) := by decide +kernel
theorem dX7_release_159 : decode cX7_release 159 = .ok (.putfield 85, 3) := by decide +kernel
theorem dX7_release_162 : decode cX7_release 162 = .ok (.aload_n 0, 1) := by decide +kernel
theorem dX7_release_163 : decode cX7_release 163 = .ok (.getfield 35, 3) := by decide +kernel
theorem dX7_release_166 : decode cX7_release 166 = .ok (.aload_n 0, 1) := by decide +kernel
theorem dX7_release_167 : decode cX7_release 167 = .ok (.getfield 125, 3) := by decide +kernel
theorem dX7_release_170 : decode cX7_release 170 = .ok (.iload_n 3, 1) := by decide +kernel
theorem dX7_release_171 : decode cX7_release 171 = .ok (.iastore, 1) := by decide +kernel
theorem dX7_release_172 : decode cX7_release 172 = .ok (.aload_n 0, 1) := by decide +kernel
theorem dX7_release_173 : decode cX7_release 173 = .ok (.getfield 38, 3) := by decide +kernel
theorem dX7_release_176 : decode cX7_release 176 = .ok (.aload_n 0, 1) := by decide +kernel
theorem dX7_release_177 : decode cX7_release 177 = .ok (.getfield 125, 3) := by decide +kernel
theorem dX7_release_180 : decode cX7_release 180 = .ok (.iload 5, 2) := by decide +kernel
theorem dX7_release_182 : decode cX7_release 182 = .ok (.iastore, 1) := by decide +kernel
theorem dX7_release_183 : decode cX7_release 183 = .ok (.aload_n 0, 1) := by decide +kernel
theorem dX7_release_184 : decode cX7_release 184 = .ok (.dup, 1) := by decide +kernel
theorem dX7_release_185 : decode cX7_release 185 = .ok (.getfield 125, 3) := by decide +kernel
theorem dX7_release_188 : decode cX7_release 188 = .ok (.iconst 1, 1) := by decide +kernel
theorem dX7_release_189 : decode cX7_release 189 = .ok (.iadd, 1) := by decide +kernel
theorem dX7_release_190 : decode cX7_release 190 = .ok (.putfield 125, 3) := by decide +kernel
theorem dX7_release_193 : decode cX7_release 193 = .ok (.iload 5, 2) := by decide +kernel
theorem dX7_release_195 : decode cX7_release 195 = .ok (.ireturn, 1) := by decide +kernel
set_option maxRecDepth 20000 in
theorem ggX7_permit_X7_in : GoodIn wsX7_permit wsX7_in := goodIn_r _ [7] (by decide +kernel) (by decide +kernel)
set_option maxRecDepth 20000 in
theorem gX7_permit_X7_in : GoodIn wsX7_permit (va_wsS RX7 62 yX7_in wsX7_in) := goodIn_app (goodIn_of _ (by decide +kernel)) ggX7_permit_X7_in
theorem dX7_permit_0 : decode cX7_permit 0 = .ok (.aload_n 0, 1) := by decide +kernel
theorem dX7_permit_1 : decode cX7_permit 1 = .ok (.iload_n 1, 1) := by decide +kernel
theorem dX7_permit_2 : decode cX7_permit 2 = .ok (.iconst 0, 1) := by decide +kernel
theorem dX7_permit_3 : decode cX7_permit 3 = .ok (.ldc 132, 2) := by decide +kernel
theorem dX7_permit_5 : decode cX7_permit 5 = .ok (.invokestatic 62, 3) := by decide +kernel
theorem dX7_permit_8 : decode cX7_permit 8 = .ok (.ifCond .eq 7, 3) := by decide +kernel
theorem dX7_permit_11 : decode cX7_permit 11 = .ok (.iconst 0, 1) := by decide +kernel
theorem dX7_permit_12 : decode cX7_permit 12 = .ok (.goto 4, 3) := by decide +kernel
theorem dX7_permit_15 : decode cX7_permit 15 = .ok (.iconst 1, 1) := by decide +kernel
theorem dX7_permit_16 : decode cX7_permit 16 = .ok (.putfield 56, 3) := by decide +kernel
theorem dX7_permit_19 : decode cX7_permit 19 = .ok (.aload_n 0, 1) := by decide +kernel
theorem dX7_permit_20 : decode cX7_permit 20 = .ok (.getfield 56, 3) := by decide +kernel
theorem dX7_permit_23 : decode cX7_permit 23 = .ok (.ifCond .le 5, 3) := by decide +kernel
theorem dX7_permit_26 : decode cX7_permit 26 = .ok (.iconst 0, 1) := by decide +kernel
theorem dX7_permit_27 : decode cX7_permit 27 = .ok (.ireturn, 1) := by decide +kernel
theorem dX7_permit_28 : decode cX7_permit 28 = .ok (.aload_n 0, 1) := by decide +kernel
theorem dX7_permit_29 : decode cX7_permit 29 = .ok (.getfield 133, 3) := by decide +kernel
theorem dX7_permit_32 : decode cX7_permit 32 = .ok (.istore_n 2, 1) := by decide +kernel
theorem dX7_permit_33 : decode cX7_permit 33 = .ok (.aload_n 0, 1) := by decide +kernel
theorem dX7_permit_34 : decode cX7_permit 34 = .ok (.iload_n 1, 1) := by decide +kernel
theorem dX7_permit_35 : decode cX7_permit 35 = .ok (.putfield 133, 3) := by decide +kernel
theorem dX7_permit_38 : decode cX7_permit 38 = .ok (.iload_n 2, 1) := by decide +kernel
theorem dX7_permit_39 : decode cX7_permit 39 = .ok (.ireturn, 1) := by decide +kernel
set_option maxRecDepth 20000 in
theorem ggX7_denature_X7_asksPart : GoodIn wsX7_denature wsX7_asksPart := goodIn_r _ [10, 4, 11, 12, 13, 9, 14, 15, 16, 17, 18, 19, 20, 21, 22, 2, 30, 31, 32, 33, 34, 35, 36, 37, 38, 39, 40, 41, 42, 43, 44, 45, 46, 47, 48, 49, 50, 51, 52, 53, 54, 55, 56, 57] (by decide +kernel) (by decide +kernel)
set_option maxRecDepth 20000 in
theorem gX7_denature_X7_asksPart : GoodIn wsX7_denature (wsV RX7 119 RX7 yX7_asksPart wsX7_asksPart) := goodIn_app (goodIn_of _ (by decide +kernel)) ggX7_denature_X7_asksPart
set_option maxRecDepth 20000 in
theorem ggX7_denature_X7_part : GoodIn wsX7_denature wsX7_part := goodIn_r _ [25] (by decide +kernel) (by decide +kernel)
set_option maxRecDepth 20000 in
theorem gX7_denature_X7_part : GoodIn wsX7_denature (va_wsS RX7 77 yX7_part wsX7_part) := goodIn_app (goodIn_of _ (by decide +kernel)) ggX7_denature_X7_part
set_option maxRecDepth 20000 in
theorem ggX7_denature_X7_takes : GoodIn wsX7_denature wsX7_takes := goodIn_r _ [29, 1, 2, 23, 24, 9, 25, 30, 31, 32, 33, 34, 35, 36, 37, 38, 39, 40, 41, 42, 43, 44, 45, 46, 47, 48, 49, 50, 51, 52, 53, 54, 55, 56, 57] (by decide +kernel) (by decide +kernel)
set_option maxRecDepth 20000 in
theorem gX7_denature_X7_takes : GoodIn wsX7_denature (wsV RX7 109 RX7 yX7_takes wsX7_takes) := goodIn_app (goodIn_of _ (by decide +kernel)) ggX7_denature_X7_takes
theorem dX7_denature_0 : decode cX7_denature 0 = .ok (.aload_n 0, 1) := by decide +kernel
theorem dX7_denature_1 : decode cX7_denature 1 = .ok (.iload_n 1, 1) := by decide +kernel
theorem dX7_denature_2 : decode cX7_denature 2 = .ok (.iload_n 2, 1) := by decide +kernel
theorem dX7_denature_3 : decode cX7_denature 3 = .ok (.invokevirtual 119, 3) := by decide +kernel
theorem dX7_denature_6 : decode cX7_denature 6 = .ok (.ifCond .ne 5, 3) := by decide +kernel
theorem dX7_denature_9 : decode cX7_denature 9 = .ok (.iconst 0, 1) := by decide +kernel
theorem dX7_denature_10 : decode cX7_denature 10 = .ok (.ireturn, 1) := by decide +kernel
theorem dX7_denature_11 : decode cX7_denature 11 = .ok (.aload_n 0, 1) := by decide +kernel
theorem dX7_denature_12 : decode cX7_denature 12 = .ok (.getfield 19, 3) := by decide +kernel
theorem dX7_denature_15 : decode cX7_denature 15 = .ok (.iload_n 1, 1) := by decide +kernel
theorem dX7_denature_16 : decode cX7_denature 16 = .ok (.iaload, 1) := by decide +kernel
theorem dX7_denature_17 : decode cX7_denature 17 = .ok (.iload_n 2, 1) := by decide +kernel
theorem dX7_denature_18 : decode cX7_denature 18 = .ok (.aload_n 0, 1) := by decide +kernel
theorem dX7_denature_19 : decode cX7_denature 19 = .ok (.getfield 16, 3) := by decide +kernel
theorem dX7_denature_22 : decode cX7_denature 22 = .ok (.iload_n 1, 1) := by decide +kernel
theorem dX7_denature_23 : decode cX7_denature 23 = .ok (.iaload, 1) := by decide +kernel
theorem dX7_denature_24 : decode cX7_denature 24 = .ok (.invokestatic 77, 3) := by decide +kernel
theorem dX7_denature_27 : decode cX7_denature 27 = .ok (.istore_n 3, 1) := by decide +kernel
theorem dX7_denature_28 : decode cX7_denature 28 = .ok (.aload_n 0, 1) := by decide +kernel
theorem dX7_denature_29 : decode cX7_denature 29 = .ok (.iload_n 3, 1) := by decide +kernel
theorem dX7_denature_30 : decode cX7_denature 30 = .ok (.aload_n 0, 1) := by decide +kernel
theorem dX7_denature_31 : decode cX7_denature 31 = .ok (.getfield 133, 3) := by decide +kernel
theorem dX7_denature_34 : decode cX7_denature 34 = .ok (.if_icmp .le 7, 3) := by decide +kernel
theorem dX7_denature_37 : decode cX7_denature 37 = .ok (.iconst 3, 1) := by decide +kernel
theorem dX7_denature_38 : decode cX7_denature 38 = .ok (.goto 4, 3) := by decide +kernel
theorem dX7_denature_41 : decode cX7_denature 41 = .ok (.iconst 0, 1) := by decide +kernel
theorem dX7_denature_42 : decode cX7_denature 42 = .ok (.putfield 56, 3) := by decide +kernel
theorem dX7_denature_45 : decode cX7_denature 45 = .ok (.aload_n 0, 1) := by decide +kernel
theorem dX7_denature_46 : decode cX7_denature 46 = .ok (.getfield 56, 3) := by decide +kernel
theorem dX7_denature_49 : decode cX7_denature 49 = .ok (.ifCond .le 5, 3) := by decide +kernel
theorem dX7_denature_52 : decode cX7_denature 52 = .ok (.iconst 0, 1) := by decide +kernel
theorem dX7_denature_53 : decode cX7_denature 53 = .ok (.ireturn, 1) := by decide +kernel
theorem dX7_denature_54 : decode cX7_denature 54 = .ok (.aload_n 0, 1) := by decide +kernel
theorem dX7_denature_55 : decode cX7_denature 55 = .ok (.iload_n 1, 1) := by decide +kernel
theorem dX7_denature_56 : decode cX7_denature 56 = .ok (.iload_n 2, 1) := by decide +kernel
theorem dX7_denature_57 : decode cX7_denature 57 = .ok (.invokevirtual 109, 3) := by decide +kernel
theorem dX7_denature_60 : decode cX7_denature 60 = .ok (.pop, 1) := by decide +kernel
theorem dX7_denature_61 : decode cX7_denature 61 = .ok (.aload_n 0, 1) := by decide +kernel
theorem dX7_denature_62 : decode cX7_denature 62 = .ok (.dup, 1) := by decide +kernel
theorem dX7_denature_63 : decode cX7_denature 63 = .ok (.getfield 133, 3) := by decide +kernel
theorem dX7_denature_66 : decode cX7_denature 66 = .ok (.iload_n 3, 1) := by decide +kernel
theorem dX7_denature_67 : decode cX7_denature 67 = .ok (.isub, 1) := by decide +kernel
theorem dX7_denature_68 : decode cX7_denature 68 = .ok (.putfield 133, 3) := by decide +kernel
theorem dX7_denature_71 : decode cX7_denature 71 = .ok (.aload_n 0, 1) := by decide +kernel
theorem dX7_denature_72 : decode cX7_denature 72 = .ok (.getfield 25, 3) := by decide +kernel
theorem dX7_denature_75 : decode cX7_denature 75 = .ok (.iconst 4, 1) := by decide +kernel
theorem dX7_denature_76 : decode cX7_denature 76 = .ok (.dup2, 1) := by decide +kernel
theorem dX7_denature_77 : decode cX7_denature 77 = .ok (.iaload, 1) := by decide +kernel
theorem dX7_denature_78 : decode cX7_denature 78 = .ok (.iload_n 3, 1) := by decide +kernel
theorem dX7_denature_79 : decode cX7_denature 79 = .ok (.iadd, 1) := by decide +kernel
theorem dX7_denature_80 : decode cX7_denature 80 = .ok (.iastore, 1) := by decide +kernel
theorem dX7_denature_81 : decode cX7_denature 81 = .ok (.iload_n 3, 1) := by decide +kernel
theorem dX7_denature_82 : decode cX7_denature 82 = .ok (.ireturn, 1) := by decide +kernel
theorem dX7_inLots_0 : decode cX7_inLots 0 = .ok (.iconst 0, 1) := by decide +kernel
theorem dX7_inLots_1 : decode cX7_inLots 1 = .ok (.istore_n 1, 1) := by decide +kernel
theorem dX7_inLots_2 : decode cX7_inLots 2 = .ok (.iconst 0, 1) := by decide +kernel
theorem dX7_inLots_3 : decode cX7_inLots 3 = .ok (.istore_n 2, 1) := by decide +kernel
theorem dX7_inLots_4 : decode cX7_inLots 4 = .ok (.iload_n 2, 1) := by decide +kernel
theorem dX7_inLots_5 : decode cX7_inLots 5 = .ok (.aload_n 0, 1) := by decide +kernel
theorem dX7_inLots_6 : decode cX7_inLots 6 = .ok (.getfield 125, 3) := by decide +kernel
theorem dX7_inLots_9 : decode cX7_inLots 9 = .ok (.if_icmp .ge 18, 3) := by decide +kernel
theorem dX7_inLots_12 : decode cX7_inLots 12 = .ok (.iload_n 1, 1) := by decide +kernel
theorem dX7_inLots_13 : decode cX7_inLots 13 = .ok (.aload_n 0, 1) := by decide +kernel
theorem dX7_inLots_14 : decode cX7_inLots 14 = .ok (.getfield 35, 3) := by decide +kernel
theorem dX7_inLots_17 : decode cX7_inLots 17 = .ok (.iload_n 2, 1) := by decide +kernel
theorem dX7_inLots_18 : decode cX7_inLots 18 = .ok (.iaload, 1) := by decide +kernel
theorem dX7_inLots_19 : decode cX7_inLots 19 = .ok (.iadd, 1) := by decide +kernel
theorem dX7_inLots_20 : decode cX7_inLots 20 = .ok (.istore_n 1, 1) := by decide +kernel
theorem dX7_inLots_21 : decode cX7_inLots 21 = .ok (.iinc 2 1, 3) := by decide +kernel
theorem dX7_inLots_24 : decode cX7_inLots 24 = .ok (.goto (-20), 3) := by decide +kernel
theorem dX7_inLots_27 : decode cX7_inLots 27 = .ok (.iload_n 1, 1) := by decide +kernel
theorem dX7_inLots_28 : decode cX7_inLots 28 = .ok (.ireturn, 1) := by decide +kernel
set_option maxRecDepth 20000 in
theorem ggX7_export_X7_inLots : GoodIn wsX7_export wsX7_inLots := goodIn_r _ [11, 2, 3, 18, 19, 20, 21, 22, 23, 24, 25, 26, 27, 28, 29, 30, 31, 32, 33, 34, 35, 36, 37, 38, 39, 40, 41, 42, 43, 44, 45] (by decide +kernel) (by decide +kernel)
set_option maxRecDepth 20000 in
theorem gX7_export_X7_inLots : GoodIn wsX7_export (wsV RX7 136 RX7 yX7_inLots wsX7_inLots) := goodIn_app (goodIn_of _ (by decide +kernel)) ggX7_export_X7_inLots
set_option maxRecDepth 20000 in
theorem ggX7_export_X7_least : GoodIn wsX7_export wsX7_least := goodIn_r _ [14] (by decide +kernel) (by decide +kernel)
set_option maxRecDepth 20000 in
theorem gX7_export_X7_least : GoodIn wsX7_export (va_wsS RX7 70 yX7_least wsX7_least) := goodIn_app (goodIn_of _ (by decide +kernel)) ggX7_export_X7_least
set_option maxRecDepth 20000 in
theorem ggX7_export_X7_part : GoodIn wsX7_export wsX7_part := goodIn_r _ [17] (by decide +kernel) (by decide +kernel)
set_option maxRecDepth 20000 in
theorem gX7_export_X7_part : GoodIn wsX7_export (va_wsS RX7 77 yX7_part wsX7_part) := goodIn_app (goodIn_of _ (by decide +kernel)) ggX7_export_X7_part
theorem dX7_export_0 : decode cX7_export 0 = .ok (.aload_n 0, 1) := by decide +kernel
theorem dX7_export_1 : decode cX7_export 1 = .ok (.iload_n 1, 1) := by decide +kernel
theorem dX7_export_2 : decode cX7_export 2 = .ok (.iconst 1, 1) := by decide +kernel
theorem dX7_export_3 : decode cX7_export 3 = .ok (.if_icmp .ge 7, 3) := by decide +kernel
theorem dX7_export_6 : decode cX7_export 6 = .ok (.iconst 1, 1) := by decide +kernel
theorem dX7_export_7 : decode cX7_export 7 = .ok (.goto 16, 3) := by decide +kernel
theorem dX7_export_10 : decode cX7_export 10 = .ok (.iload_n 1, 1) := by decide +kernel
theorem dX7_export_11 : decode cX7_export 11 = .ok (.aload_n 0, 1) := by decide +kernel
theorem dX7_export_12 : decode cX7_export 12 = .ok (.invokevirtual 136, 3) := by decide +kernel
theorem dX7_export_15 : decode cX7_export 15 = .ok (.if_icmp .le 7, 3) := by decide +kernel
theorem dX7_export_18 : decode cX7_export 18 = .ok (.iconst 2, 1) := by decide +kernel
theorem dX7_export_19 : decode cX7_export 19 = .ok (.goto 4, 3) := by decide +kernel
theorem dX7_export_22 : decode cX7_export 22 = .ok (.iconst 0, 1) := by decide +kernel
theorem dX7_export_23 : decode cX7_export 23 = .ok (.putfield 56, 3) := by decide +kernel
theorem dX7_export_26 : decode cX7_export 26 = .ok (.aload_n 0, 1) := by decide +kernel
theorem dX7_export_27 : decode cX7_export 27 = .ok (.getfield 56, 3) := by decide +kernel
theorem dX7_export_30 : decode cX7_export 30 = .ok (.ifCond .le 5, 3) := by decide +kernel
theorem dX7_export_33 : decode cX7_export 33 = .ok (.iconst 0, 1) := by decide +kernel
theorem dX7_export_34 : decode cX7_export 34 = .ok (.ireturn, 1) := by decide +kernel
theorem dX7_export_35 : decode cX7_export 35 = .ok (.iload_n 1, 1) := by decide +kernel
theorem dX7_export_36 : decode cX7_export 36 = .ok (.istore_n 2, 1) := by decide +kernel
theorem dX7_export_37 : decode cX7_export 37 = .ok (.iconst 0, 1) := by decide +kernel
theorem dX7_export_38 : decode cX7_export 38 = .ok (.istore_n 3, 1) := by decide +kernel
theorem dX7_export_39 : decode cX7_export 39 = .ok (.iconst 0, 1) := by decide +kernel
theorem dX7_export_40 : decode cX7_export 40 = .ok (.istore 4, 2) := by decide +kernel
theorem dX7_export_42 : decode cX7_export 42 = .ok (.iload 4, 2) := by decide +kernel
theorem dX7_export_44 : decode cX7_export 44 = .ok (.aload_n 0, 1) := by decide +kernel
theorem dX7_export_45 : decode cX7_export 45 = .ok (.getfield 125, 3) := by decide +kernel
theorem dX7_export_48 : decode cX7_export 48 = .ok (.if_icmp .ge 90, 3) := by decide +kernel
theorem dX7_export_51 : decode cX7_export 51 = .ok (.iload_n 2, 1) := by decide +kernel
theorem dX7_export_52 : decode cX7_export 52 = .ok (.ifCond .le 86, 3) := by decide +kernel
theorem dX7_export_55 : decode cX7_export 55 = .ok (.iload_n 2, 1) := by decide +kernel
theorem dX7_export_56 : decode cX7_export 56 = .ok (.aload_n 0, 1) := by decide +kernel
theorem dX7_export_57 : decode cX7_export 57 = .ok (.getfield 35, 3) := by decide +kernel
theorem dX7_export_60 : decode cX7_export 60 = .ok (.iload 4, 2) := by decide +kernel
theorem dX7_export_62 : decode cX7_export 62 = .ok (.iaload, 1) := by decide +kernel
theorem dX7_export_63 : decode cX7_export 63 = .ok (.invokestatic 70, 3) := by decide +kernel
theorem dX7_export_66 : decode cX7_export 66 = .ok (.istore 5, 2) := by decide +kernel
theorem dX7_export_68 : decode cX7_export 68 = .ok (.iload 5, 2) := by decide +kernel
theorem dX7_export_70 : decode cX7_export 70 = .ok (.ifCond .ne 7, 3) := by decide +kernel
theorem dX7_export_73 : decode cX7_export 73 = .ok (.iconst 0, 1) := by decide +kernel
theorem dX7_export_74 : decode cX7_export 74 = .ok (.goto 22, 3) := by decide +kernel
theorem dX7_export_77 : decode cX7_export 77 = .ok (.aload_n 0, 1) := by decide +kernel
theorem dX7_export_78 : decode cX7_export 78 = .ok (.getfield 38, 3) := by decide +kernel
theorem dX7_export_81 : decode cX7_export 81 = .ok (.iload 4, 2) := by decide +kernel
theorem dX7_export_83 : decode cX7_export 83 = .ok (.iaload, 1) := by decide +kernel
theorem dX7_export_84 : decode cX7_export 84 = .ok (.iload 5, 2) := by decide +kernel
theorem dX7_export_86 : decode cX7_export 86 = .ok (.aload_n 0, 1) := by decide +kernel
theorem dX7_export_87 : decode cX7_export 87 = .ok (.getfield 35, 3) := by decide +kernel
theorem dX7_export_90 : decode cX7_export 90 = .ok (.iload 4, 2) := by decide +kernel
theorem dX7_export_92 : decode cX7_export 92 = .ok (.iaload, 1) := by decide +kernel
theorem dX7_export_93 : decode cX7_export 93 = .ok (.invokestatic 77, 3) := by decide +kernel
theorem dX7_export_96 : decode cX7_export 96 = .ok (.istore 6, 2) := by decide +kernel
theorem dX7_export_98 : decode cX7_export 98 = .ok (.aload_n 0, 1) := by decide +kernel
theorem dX7_export_99 : decode cX7_export 99 = .ok (.getfield 35, 3) := by decide +kernel
theorem dX7_export_102 : decode cX7_export 102 = .ok (.iload 4, 2) := by decide +kernel
theorem dX7_export_104 : decode cX7_export 104 = .ok (.dup2, 1) := by decide +kernel
theorem dX7_export_105 : decode cX7_export 105 = .ok (.iaload, 1) := by decide +kernel
theorem dX7_export_106 : decode cX7_export 106 = .ok (.iload 5, 2) := by decide +kernel
theorem dX7_export_108 : decode cX7_export 108 = .ok (.isub, 1) := by decide +kernel
theorem dX7_export_109 : decode cX7_export 109 = .ok (.iastore, 1) := by decide +kernel
theorem dX7_export_110 : decode cX7_export 110 = .ok (.aload_n 0, 1) := by decide +kernel
theorem dX7_export_111 : decode cX7_export 111 = .ok (.getfield 38, 3) := by decide +kernel
theorem dX7_export_114 : decode cX7_export 114 = .ok (.iload 4, 2) := by decide +kernel
theorem dX7_export_116 : decode cX7_export 116 = .ok (.dup2, 1) := by decide +kernel
theorem dX7_export_117 : decode cX7_export 117 = .ok (.iaload, 1) := by decide +kernel
theorem dX7_export_118 : decode cX7_export 118 = .ok (.iload 6, 2) := by decide +kernel
theorem dX7_export_120 : decode cX7_export 120 = .ok (.isub, 1) := by decide +kernel
theorem dX7_export_121 : decode cX7_export 121 = .ok (.iastore, 1) := by decide +kernel
theorem dX7_export_122 : decode cX7_export 122 = .ok (.iload_n 2, 1) := by decide +kernel
theorem dX7_export_123 : decode cX7_export 123 = .ok (.iload 5, 2) := by decide +kernel
theorem dX7_export_125 : decode cX7_export 125 = .ok (.isub, 1) := by decide +kernel
theorem dX7_export_126 : decode cX7_export 126 = .ok (.istore_n 2, 1) := by decide +kernel
theorem dX7_export_127 : decode cX7_export 127 = .ok (.iload_n 3, 1) := by decide +kernel
theorem dX7_export_128 : decode cX7_export 128 = .ok (.iload 6, 2) := by decide +kernel
theorem dX7_export_130 : decode cX7_export 130 = .ok (.iadd, 1) := by decide +kernel
theorem dX7_export_131 : decode cX7_export 131 = .ok (.istore_n 3, 1) := by decide +kernel
theorem dX7_export_132 : decode cX7_export 132 = .ok (.iinc 4 1, 3) := by decide +kernel
theorem dX7_export_135 : decode cX7_export 135 = .ok (.goto (-93), 3) := by decide +kernel
theorem dX7_export_138 : decode cX7_export 138 = .ok (.aload_n 0, 1) := by decide +kernel
theorem dX7_export_139 : decode cX7_export 139 = .ok (.getfield 25, 3) := by decide +kernel
theorem dX7_export_142 : decode cX7_export 142 = .ok (.bipush 6, 2) := by decide +kernel
theorem dX7_export_144 : decode cX7_export 144 = .ok (.dup2, 1) := by decide +kernel
theorem dX7_export_145 : decode cX7_export 145 = .ok (.iaload, 1) := by decide +kernel
theorem dX7_export_146 : decode cX7_export 146 = .ok (.iload_n 1, 1) := by decide +kernel
theorem dX7_export_147 : decode cX7_export 147 = .ok (.iadd, 1) := by decide +kernel
theorem dX7_export_148 : decode cX7_export 148 = .ok (.iastore, 1) := by decide +kernel
theorem dX7_export_149 : decode cX7_export 149 = .ok (.aload_n 0, 1) := by decide +kernel
theorem dX7_export_150 : decode cX7_export 150 = .ok (.dup, 1) := by decide +kernel
theorem dX7_export_151 : decode cX7_export 151 = .ok (.getfield 85, 3) := by decide +kernel
theorem dX7_export_154 : decode cX7_export 154 = .ok (.iload_n 3, 1) := by decide +kernel
theorem dX7_export_155 : decode cX7_export 155 = .ok (.isub, 1) := by decide +kernel
theorem dX7_export_156 : decode cX7_export 156 = .ok (.putfield 85, 3) := by decide +kernel
theorem dX7_export_159 : decode cX7_export 159 = .ok (.iload_n 3, 1) := by decide +kernel
theorem dX7_export_160 : decode cX7_export 160 = .ok (.ireturn, 1) := by decide +kernel
set_option maxRecDepth 20000 in
theorem ggX7_pay_X7_in : GoodIn wsX7_pay wsX7_in := goodIn_r _ [7] (by decide +kernel) (by decide +kernel)
set_option maxRecDepth 20000 in
theorem gX7_pay_X7_in : GoodIn wsX7_pay (va_wsS RX7 62 yX7_in wsX7_in) := goodIn_app (goodIn_of _ (by decide +kernel)) ggX7_pay_X7_in
theorem dX7_pay_0 : decode cX7_pay 0 = .ok (.aload_n 0, 1) := by decide +kernel
theorem dX7_pay_1 : decode cX7_pay 1 = .ok (.iload_n 1, 1) := by decide +kernel
theorem dX7_pay_2 : decode cX7_pay 2 = .ok (.iconst 1, 1) := by decide +kernel
theorem dX7_pay_3 : decode cX7_pay 3 = .ok (.ldc 140, 2) := by decide +kernel
theorem dX7_pay_5 : decode cX7_pay 5 = .ok (.invokestatic 62, 3) := by decide +kernel
theorem dX7_pay_8 : decode cX7_pay 8 = .ok (.ifCond .ne 7, 3) := by decide +kernel
theorem dX7_pay_11 : decode cX7_pay 11 = .ok (.iconst 1, 1) := by decide +kernel
theorem dX7_pay_12 : decode cX7_pay 12 = .ok (.goto 16, 3) := by decide +kernel
theorem dX7_pay_15 : decode cX7_pay 15 = .ok (.iload_n 1, 1) := by decide +kernel
theorem dX7_pay_16 : decode cX7_pay 16 = .ok (.aload_n 0, 1) := by decide +kernel
theorem dX7_pay_17 : decode cX7_pay 17 = .ok (.getfield 85, 3) := by decide +kernel
theorem dX7_pay_20 : decode cX7_pay 20 = .ok (.if_icmp .le 7, 3) := by decide +kernel
theorem dX7_pay_23 : decode cX7_pay 23 = .ok (.iconst 2, 1) := by decide +kernel
theorem dX7_pay_24 : decode cX7_pay 24 = .ok (.goto 4, 3) := by decide +kernel
theorem dX7_pay_27 : decode cX7_pay 27 = .ok (.iconst 0, 1) := by decide +kernel
theorem dX7_pay_28 : decode cX7_pay 28 = .ok (.putfield 56, 3) := by decide +kernel
theorem dX7_pay_31 : decode cX7_pay 31 = .ok (.aload_n 0, 1) := by decide +kernel
theorem dX7_pay_32 : decode cX7_pay 32 = .ok (.getfield 56, 3) := by decide +kernel
theorem dX7_pay_35 : decode cX7_pay 35 = .ok (.ifCond .le 5, 3) := by decide +kernel
theorem dX7_pay_38 : decode cX7_pay 38 = .ok (.iconst 0, 1) := by decide +kernel
theorem dX7_pay_39 : decode cX7_pay 39 = .ok (.ireturn, 1) := by decide +kernel
theorem dX7_pay_40 : decode cX7_pay 40 = .ok (.aload_n 0, 1) := by decide +kernel
theorem dX7_pay_41 : decode cX7_pay 41 = .ok (.dup, 1) := by decide +kernel
theorem dX7_pay_42 : decode cX7_pay 42 = .ok (.getfield 85, 3) := by decide +kernel
theorem dX7_pay_45 : decode cX7_pay 45 = .ok (.iload_n 1, 1) := by decide +kernel
theorem dX7_pay_46 : decode cX7_pay 46 = .ok (.isub, 1) := by decide +kernel
theorem dX7_pay_47 : decode cX7_pay 47 = .ok (.putfield 85, 3) := by decide +kernel
theorem dX7_pay_50 : decode cX7_pay 50 = .ok (.aload_n 0, 1) := by decide +kernel
theorem dX7_pay_51 : decode cX7_pay 51 = .ok (.getfield 85, 3) := by decide +kernel
theorem dX7_pay_54 : decode cX7_pay 54 = .ok (.ireturn, 1) := by decide +kernel
set_option maxRecDepth 20000 in
theorem ggX7_budget_X7_in : GoodIn wsX7_budget wsX7_in := goodIn_r _ [10] (by decide +kernel) (by decide +kernel)
set_option maxRecDepth 20000 in
theorem gX7_budget_X7_in : GoodIn wsX7_budget (va_wsS RX7 62 yX7_in wsX7_in) := goodIn_app (goodIn_of _ (by decide +kernel)) ggX7_budget_X7_in
theorem dX7_budget_0 : decode cX7_budget 0 = .ok (.iload_n 1, 1) := by decide +kernel
theorem dX7_budget_1 : decode cX7_budget 1 = .ok (.aload_n 0, 1) := by decide +kernel
theorem dX7_budget_2 : decode cX7_budget 2 = .ok (.getfield 141, 3) := by decide +kernel
theorem dX7_budget_5 : decode cX7_budget 5 = .ok (.iconst 1, 1) := by decide +kernel
theorem dX7_budget_6 : decode cX7_budget 6 = .ok (.iadd, 1) := by decide +kernel
theorem dX7_budget_7 : decode cX7_budget 7 = .ok (.sipush 900, 3) := by decide +kernel
theorem dX7_budget_10 : decode cX7_budget 10 = .ok (.invokestatic 62, 3) := by decide +kernel
theorem dX7_budget_13 : decode cX7_budget 13 = .ok (.ifCond .eq 27, 3) := by decide +kernel
theorem dX7_budget_16 : decode cX7_budget 16 = .ok (.iload_n 2, 1) := by decide +kernel
theorem dX7_budget_17 : decode cX7_budget 17 = .ok (.iconst 0, 1) := by decide +kernel
theorem dX7_budget_18 : decode cX7_budget 18 = .ok (.bipush 99, 2) := by decide +kernel
theorem dX7_budget_20 : decode cX7_budget 20 = .ok (.invokestatic 62, 3) := by decide +kernel
theorem dX7_budget_23 : decode cX7_budget 23 = .ok (.ifCond .eq 17, 3) := by decide +kernel
theorem dX7_budget_26 : decode cX7_budget 26 = .ok (.iload_n 3, 1) := by decide +kernel
theorem dX7_budget_27 : decode cX7_budget 27 = .ok (.iconst 0, 1) := by decide +kernel
theorem dX7_budget_28 : decode cX7_budget 28 = .ok (.ldc 132, 2) := by decide +kernel
theorem dX7_budget_30 : decode cX7_budget 30 = .ok (.invokestatic 62, 3) := by decide +kernel
theorem dX7_budget_33 : decode cX7_budget 33 = .ok (.ifCond .eq 7, 3) := by decide +kernel
theorem dX7_budget_36 : decode cX7_budget 36 = .ok (.iconst 1, 1) := by decide +kernel
theorem dX7_budget_37 : decode cX7_budget 37 = .ok (.goto 4, 3) := by decide +kernel
theorem dX7_budget_40 : decode cX7_budget 40 = .ok (.iconst 0, 1) := by decide +kernel
theorem dX7_budget_41 : decode cX7_budget 41 = .ok (.istore 4, 2) := by decide +kernel
theorem dX7_budget_43 : decode cX7_budget 43 = .ok (.aload_n 0, 1) := by decide +kernel
theorem dX7_budget_44 : decode cX7_budget 44 = .ok (.iload 4, 2) := by decide +kernel
theorem dX7_budget_46 : decode cX7_budget 46 = .ok (.ifCond .ne 7, 3) := by decide +kernel
theorem dX7_budget_49 : decode cX7_budget 49 = .ok (.iconst 1, 1) := by decide +kernel
theorem dX7_budget_50 : decode cX7_budget 50 = .ok (.goto 16, 3) := by decide +kernel
theorem dX7_budget_53 : decode cX7_budget 53 = .ok (.aload_n 0, 1) := by decide +kernel
theorem dX7_budget_54 : decode cX7_budget 54 = .ok (.getfield 32, 3) := by decide +kernel
theorem dX7_budget_57 : decode cX7_budget 57 = .ok (.iconst (-1), 1) := by decide +kernel
theorem dX7_budget_58 : decode cX7_budget 58 = .ok (.if_icmp .eq 7, 3) := by decide +kernel
theorem dX7_budget_61 : decode cX7_budget 61 = .ok (.iconst 2, 1) := by decide +kernel
theorem dX7_budget_62 : decode cX7_budget 62 = .ok (.goto 4, 3) := by decide +kernel
theorem dX7_budget_65 : decode cX7_budget 65 = .ok (.iconst 0, 1) := by decide +kernel
theorem dX7_budget_66 : decode cX7_budget 66 = .ok (.putfield 56, 3) := by decide +kernel
theorem dX7_budget_69 : decode cX7_budget 69 = .ok (.aload_n 0, 1) := by decide +kernel
theorem dX7_budget_70 : decode cX7_budget 70 = .ok (.getfield 56, 3) := by decide +kernel
theorem dX7_budget_73 : decode cX7_budget 73 = .ok (.ifCond .ne 18, 3) := by decide +kernel
theorem dX7_budget_76 : decode cX7_budget 76 = .ok (.aload_n 0, 1) := by decide +kernel
theorem dX7_budget_77 : decode cX7_budget 77 = .ok (.iload_n 1, 1) := by decide +kernel
theorem dX7_budget_78 : decode cX7_budget 78 = .ok (.putfield 32, 3) := by decide +kernel
theorem dX7_budget_81 : decode cX7_budget 81 = .ok (.aload_n 0, 1) := by decide +kernel
theorem dX7_budget_82 : decode cX7_budget 82 = .ok (.iload_n 2, 1) := by decide +kernel
theorem dX7_budget_83 : decode cX7_budget 83 = .ok (.putfield 144, 3) := by decide +kernel
theorem dX7_budget_86 : decode cX7_budget 86 = .ok (.aload_n 0, 1) := by decide +kernel
theorem dX7_budget_87 : decode cX7_budget 87 = .ok (.iload_n 3, 1) := by decide +kernel
theorem dX7_budget_88 : decode cX7_budget 88 = .ok (.putfield 122, 3) := by decide +kernel
theorem dX7_budget_91 : decode cX7_budget 91 = .ok (.return_, 1) := by decide +kernel
theorem dX7_moving_0 : decode cX7_moving 0 = .ok (.iconst 0, 1) := by decide +kernel
theorem dX7_moving_1 : decode cX7_moving 1 = .ok (.istore_n 1, 1) := by decide +kernel
theorem dX7_moving_2 : decode cX7_moving 2 = .ok (.iconst 0, 1) := by decide +kernel
theorem dX7_moving_3 : decode cX7_moving 3 = .ok (.istore_n 2, 1) := by decide +kernel
theorem dX7_moving_4 : decode cX7_moving 4 = .ok (.iload_n 2, 1) := by decide +kernel
theorem dX7_moving_5 : decode cX7_moving 5 = .ok (.aload_n 0, 1) := by decide +kernel
theorem dX7_moving_6 : decode cX7_moving 6 = .ok (.getfield 147, 3) := by decide +kernel
theorem dX7_moving_9 : decode cX7_moving 9 = .ok (.if_icmp .ge 31, 3) := by decide +kernel
theorem dX7_moving_12 : decode cX7_moving 12 = .ok (.iload_n 1, 1) := by decide +kernel
theorem dX7_moving_13 : decode cX7_moving 13 = .ok (.aload_n 0, 1) := by decide +kernel
theorem dX7_moving_14 : decode cX7_moving 14 = .ok (.getfield 41, 3) := by decide +kernel
theorem dX7_moving_17 : decode cX7_moving 17 = .ok (.iload_n 2, 1) := by decide +kernel
theorem dX7_moving_18 : decode cX7_moving 18 = .ok (.iaload, 1) := by decide +kernel
theorem dX7_moving_19 : decode cX7_moving 19 = .ok (.ifCond .ne 12, 3) := by decide +kernel
theorem dX7_moving_22 : decode cX7_moving 22 = .ok (.aload_n 0, 1) := by decide +kernel
theorem dX7_moving_23 : decode cX7_moving 23 = .ok (.getfield 50, 3) := by decide +kernel
theorem dX7_moving_26 : decode cX7_moving 26 = .ok (.iload_n 2, 1) := by decide +kernel
theorem dX7_moving_27 : decode cX7_moving 27 = .ok (.iaload, 1) := by decide +kernel
theorem dX7_moving_28 : decode cX7_moving 28 = .ok (.goto 4, 3) := by decide +kernel
theorem dX7_moving_31 : decode cX7_moving 31 = .ok (.iconst 0, 1) := by decide +kernel
theorem dX7_moving_32 : decode cX7_moving 32 = .ok (.iadd, 1) := by decide +kernel
theorem dX7_moving_33 : decode cX7_moving 33 = .ok (.istore_n 1, 1) := by decide +kernel
theorem dX7_moving_34 : decode cX7_moving 34 = .ok (.iinc 2 1, 3) := by decide +kernel
theorem dX7_moving_37 : decode cX7_moving 37 = .ok (.goto (-33), 3) := by decide +kernel
theorem dX7_moving_40 : decode cX7_moving 40 = .ok (.iload_n 1, 1) := by decide +kernel
theorem dX7_moving_41 : decode cX7_moving 41 = .ok (.ireturn, 1) := by decide +kernel
set_option maxRecDepth 20000 in
theorem ggX7_guarantee_X7_in : GoodIn wsX7_guarantee wsX7_in := goodIn_r _ [8] (by decide +kernel) (by decide +kernel)
set_option maxRecDepth 20000 in
theorem gX7_guarantee_X7_in : GoodIn wsX7_guarantee (va_wsS RX7 62 yX7_in wsX7_in) := goodIn_app (goodIn_of _ (by decide +kernel)) ggX7_guarantee_X7_in
set_option maxRecDepth 20000 in
theorem ggX7_guarantee_X7_moving : GoodIn wsX7_guarantee wsX7_moving := goodIn_r _ [12, 13, 14, 15, 21, 22, 23, 24, 25, 26, 27, 28, 29, 30, 31, 32, 33, 34, 35, 36, 37, 38, 39, 40, 41, 42, 43, 44, 45, 46, 47, 48] (by decide +kernel) (by decide +kernel)
set_option maxRecDepth 20000 in
theorem gX7_guarantee_X7_moving : GoodIn wsX7_guarantee (wsV RX7 150 RX7 yX7_moving wsX7_moving) := goodIn_app (goodIn_of _ (by decide +kernel)) ggX7_guarantee_X7_moving
set_option maxRecDepth 20000 in
theorem ggX7_guarantee_X7_dutyFor : GoodIn wsX7_guarantee wsX7_dutyFor := goodIn_r _ [19, 20] (by decide +kernel) (by decide +kernel)
set_option maxRecDepth 20000 in
theorem gX7_guarantee_X7_dutyFor : GoodIn wsX7_guarantee (wsV RX7 82 RX7 yX7_dutyFor wsX7_dutyFor) := goodIn_app (goodIn_of _ (by decide +kernel)) ggX7_guarantee_X7_dutyFor
theorem dX7_guarantee_0 : decode cX7_guarantee 0 = .ok (.aload_n 0, 1) := by decide +kernel
theorem dX7_guarantee_1 : decode cX7_guarantee 1 = .ok (.iload_n 1, 1) := by decide +kernel
theorem dX7_guarantee_2 : decode cX7_guarantee 2 = .ok (.iconst 0, 1) := by decide +kernel
theorem dX7_guarantee_3 : decode cX7_guarantee 3 = .ok (.ldc 132, 2) := by decide +kernel
theorem dX7_guarantee_5 : decode cX7_guarantee 5 = .ok (.invokestatic 62, 3) := by decide +kernel
theorem dX7_guarantee_8 : decode cX7_guarantee 8 = .ok (.ifCond .ne 7, 3) := by decide +kernel
theorem dX7_guarantee_11 : decode cX7_guarantee 11 = .ok (.iconst 1, 1) := by decide +kernel
theorem dX7_guarantee_12 : decode cX7_guarantee 12 = .ok (.goto 24, 3) := by decide +kernel
theorem dX7_guarantee_15 : decode cX7_guarantee 15 = .ok (.iload_n 1, 1) := by decide +kernel
theorem dX7_guarantee_16 : decode cX7_guarantee 16 = .ok (.aload_n 0, 1) := by decide +kernel
theorem dX7_guarantee_17 : decode cX7_guarantee 17 = .ok (.aload_n 0, 1) := by decide +kernel
theorem dX7_guarantee_18 : decode cX7_guarantee 18 = .ok (.invokevirtual 150, 3) := by decide +kernel
theorem dX7_guarantee_21 : decode cX7_guarantee 21 = .ok (.aload_n 0, 1) := by decide +kernel
theorem dX7_guarantee_22 : decode cX7_guarantee 22 = .ok (.getfield 28, 3) := by decide +kernel
theorem dX7_guarantee_25 : decode cX7_guarantee 25 = .ok (.invokevirtual 82, 3) := by decide +kernel
theorem dX7_guarantee_28 : decode cX7_guarantee 28 = .ok (.if_icmp .ge 7, 3) := by decide +kernel
theorem dX7_guarantee_31 : decode cX7_guarantee 31 = .ok (.iconst 2, 1) := by decide +kernel
theorem dX7_guarantee_32 : decode cX7_guarantee 32 = .ok (.goto 4, 3) := by decide +kernel
theorem dX7_guarantee_35 : decode cX7_guarantee 35 = .ok (.iconst 0, 1) := by decide +kernel
theorem dX7_guarantee_36 : decode cX7_guarantee 36 = .ok (.putfield 56, 3) := by decide +kernel
theorem dX7_guarantee_39 : decode cX7_guarantee 39 = .ok (.aload_n 0, 1) := by decide +kernel
theorem dX7_guarantee_40 : decode cX7_guarantee 40 = .ok (.getfield 56, 3) := by decide +kernel
theorem dX7_guarantee_43 : decode cX7_guarantee 43 = .ok (.ifCond .le 5, 3) := by decide +kernel
theorem dX7_guarantee_46 : decode cX7_guarantee 46 = .ok (.iconst 0, 1) := by decide +kernel
theorem dX7_guarantee_47 : decode cX7_guarantee 47 = .ok (.ireturn, 1) := by decide +kernel
theorem dX7_guarantee_48 : decode cX7_guarantee 48 = .ok (.aload_n 0, 1) := by decide +kernel
theorem dX7_guarantee_49 : decode cX7_guarantee 49 = .ok (.getfield 153, 3) := by decide +kernel
theorem dX7_guarantee_52 : decode cX7_guarantee 52 = .ok (.istore_n 2, 1) := by decide +kernel
theorem dX7_guarantee_53 : decode cX7_guarantee 53 = .ok (.aload_n 0, 1) := by decide +kernel
theorem dX7_guarantee_54 : decode cX7_guarantee 54 = .ok (.iload_n 1, 1) := by decide +kernel
theorem dX7_guarantee_55 : decode cX7_guarantee 55 = .ok (.putfield 153, 3) := by decide +kernel
theorem dX7_guarantee_58 : decode cX7_guarantee 58 = .ok (.iload_n 2, 1) := by decide +kernel
theorem dX7_guarantee_59 : decode cX7_guarantee 59 = .ok (.ireturn, 1) := by decide +kernel
set_option maxRecDepth 20000 in
theorem ggX7_ship_X7_isVessel : GoodIn wsX7_ship wsX7_isVessel := goodIn_r _ [17, 18, 19, 20, 16, 21, 43, 44, 45, 46, 47, 48, 49, 50, 51, 52, 53, 54, 55, 56, 57, 58, 59, 60, 61, 62, 63, 64, 65, 66, 67, 68, 69, 70] (by decide +kernel) (by decide +kernel)
set_option maxRecDepth 20000 in
theorem gX7_ship_X7_isVessel : GoodIn wsX7_ship (wsV RX7 92 RX7 yX7_isVessel wsX7_isVessel) := goodIn_app (goodIn_of _ (by decide +kernel)) ggX7_ship_X7_isVessel
set_option maxRecDepth 20000 in
theorem ggX7_ship_X7_in : GoodIn wsX7_ship wsX7_in := goodIn_r _ [21] (by decide +kernel) (by decide +kernel)
set_option maxRecDepth 20000 in
theorem gX7_ship_X7_in : GoodIn wsX7_ship (va_wsS RX7 62 yX7_in wsX7_in) := goodIn_app (goodIn_of _ (by decide +kernel)) ggX7_ship_X7_in
set_option maxRecDepth 20000 in
theorem ggX7_ship_X7_hasPart : GoodIn wsX7_ship wsX7_hasPart := goodIn_r _ [25, 6, 43, 44, 45, 46, 47, 48, 49, 50, 51, 52, 53, 54, 55, 56, 57, 58, 59, 60, 61, 62, 63, 64, 65, 66, 67, 68, 69, 70] (by decide +kernel) (by decide +kernel)
set_option maxRecDepth 20000 in
theorem gX7_ship_X7_hasPart : GoodIn wsX7_ship (wsV RX7 106 RX7 yX7_hasPart wsX7_hasPart) := goodIn_app (goodIn_of _ (by decide +kernel)) ggX7_ship_X7_hasPart
set_option maxRecDepth 20000 in
theorem ggX7_ship_X7_moving : GoodIn wsX7_ship wsX7_moving := goodIn_r _ [29, 3, 30, 10, 43, 44, 45, 46, 47, 48, 49, 50, 51, 52, 53, 54, 55, 56, 57, 58, 59, 60, 61, 62, 63, 64, 65, 66, 67, 68, 69, 70] (by decide +kernel) (by decide +kernel)
set_option maxRecDepth 20000 in
theorem gX7_ship_X7_moving : GoodIn wsX7_ship (wsV RX7 150 RX7 yX7_moving wsX7_moving) := goodIn_app (goodIn_of _ (by decide +kernel)) ggX7_ship_X7_moving
set_option maxRecDepth 20000 in
theorem ggX7_ship_X7_part : GoodIn wsX7_ship wsX7_part := goodIn_r _ [33] (by decide +kernel) (by decide +kernel)
set_option maxRecDepth 20000 in
theorem gX7_ship_X7_part : GoodIn wsX7_ship (va_wsS RX7 77 yX7_part wsX7_part) := goodIn_app (goodIn_of _ (by decide +kernel)) ggX7_ship_X7_part
set_option maxRecDepth 20000 in
theorem ggX7_ship_X7_dutyFor : GoodIn wsX7_ship wsX7_dutyFor := goodIn_r _ [37, 38] (by decide +kernel) (by decide +kernel)
set_option maxRecDepth 20000 in
theorem gX7_ship_X7_dutyFor : GoodIn wsX7_ship (wsV RX7 82 RX7 yX7_dutyFor wsX7_dutyFor) := goodIn_app (goodIn_of _ (by decide +kernel)) ggX7_ship_X7_dutyFor
set_option maxRecDepth 20000 in
theorem ggX7_ship_X7_takes : GoodIn wsX7_ship wsX7_takes := goodIn_r _ [42, 5, 6, 31, 32, 16, 33, 43, 44, 45, 46, 47, 48, 49, 50, 51, 52, 53, 54, 55, 56, 57, 58, 59, 60, 61, 62, 63, 64, 65, 66, 67, 68, 69, 70] (by decide +kernel) (by decide +kernel)
set_option maxRecDepth 20000 in
theorem gX7_ship_X7_takes : GoodIn wsX7_ship (wsV RX7 109 RX7 yX7_takes wsX7_takes) := goodIn_app (goodIn_of _ (by decide +kernel)) ggX7_ship_X7_takes
theorem dX7_ship_0 : decode cX7_ship 0 = .ok (.aload_n 0, 1) := by decide +kernel
theorem dX7_ship_1 : decode cX7_ship 1 = .ok (.iload_n 1, 1) := by decide +kernel
theorem dX7_ship_2 : decode cX7_ship 2 = .ok (.invokevirtual 92, 3) := by decide +kernel
theorem dX7_ship_5 : decode cX7_ship 5 = .ok (.ifCond .eq 15, 3) := by decide +kernel
theorem dX7_ship_8 : decode cX7_ship 8 = .ok (.aload_n 0, 1) := by decide +kernel
theorem dX7_ship_9 : decode cX7_ship 9 = .ok (.iload_n 2, 1) := by decide +kernel
theorem dX7_ship_10 : decode cX7_ship 10 = .ok (.invokevirtual 92, 3) := by decide +kernel
theorem dX7_ship_13 : decode cX7_ship 13 = .ok (.ifCond .eq 7, 3) := by decide +kernel
theorem dX7_ship_16 : decode cX7_ship 16 = .ok (.iconst 1, 1) := by decide +kernel
theorem dX7_ship_17 : decode cX7_ship 17 = .ok (.goto 4, 3) := by decide +kernel
theorem dX7_ship_20 : decode cX7_ship 20 = .ok (.iconst 0, 1) := by decide +kernel
theorem dX7_ship_21 : decode cX7_ship 21 = .ok (.istore 5, 2) := by decide +kernel
theorem dX7_ship_23 : decode cX7_ship 23 = .ok (.aload_n 0, 1) := by decide +kernel
theorem dX7_ship_24 : decode cX7_ship 24 = .ok (.iload 5, 2) := by decide +kernel
theorem dX7_ship_26 : decode cX7_ship 26 = .ok (.ifCond .ne 7, 3) := by decide +kernel
theorem dX7_ship_29 : decode cX7_ship 29 = .ok (.iconst 1, 1) := by decide +kernel
theorem dX7_ship_30 : decode cX7_ship 30 = .ok (.goto 24, 3) := by decide +kernel
theorem dX7_ship_33 : decode cX7_ship 33 = .ok (.iload_n 3, 1) := by decide +kernel
theorem dX7_ship_34 : decode cX7_ship 34 = .ok (.iconst 1, 1) := by decide +kernel
theorem dX7_ship_35 : decode cX7_ship 35 = .ok (.if_icmp .lt 14, 3) := by decide +kernel
theorem dX7_ship_38 : decode cX7_ship 38 = .ok (.iload 4, 2) := by decide +kernel
theorem dX7_ship_40 : decode cX7_ship 40 = .ok (.iconst 1, 1) := by decide +kernel
theorem dX7_ship_41 : decode cX7_ship 41 = .ok (.bipush 60, 2) := by decide +kernel
theorem dX7_ship_43 : decode cX7_ship 43 = .ok (.invokestatic 62, 3) := by decide +kernel
theorem dX7_ship_46 : decode cX7_ship 46 = .ok (.ifCond .ne 7, 3) := by decide +kernel
theorem dX7_ship_49 : decode cX7_ship 49 = .ok (.iconst 2, 1) := by decide +kernel
theorem dX7_ship_50 : decode cX7_ship 50 = .ok (.goto 4, 3) := by decide +kernel
theorem dX7_ship_53 : decode cX7_ship 53 = .ok (.iconst 0, 1) := by decide +kernel
theorem dX7_ship_54 : decode cX7_ship 54 = .ok (.putfield 56, 3) := by decide +kernel
theorem dX7_ship_57 : decode cX7_ship 57 = .ok (.aload_n 0, 1) := by decide +kernel
theorem dX7_ship_58 : decode cX7_ship 58 = .ok (.getfield 56, 3) := by decide +kernel
theorem dX7_ship_61 : decode cX7_ship 61 = .ok (.ifCond .ne 93, 3) := by decide +kernel
theorem dX7_ship_64 : decode cX7_ship 64 = .ok (.aload_n 0, 1) := by decide +kernel
theorem dX7_ship_65 : decode cX7_ship 65 = .ok (.getfield 7, 3) := by decide +kernel
theorem dX7_ship_68 : decode cX7_ship 68 = .ok (.iload_n 1, 1) := by decide +kernel
theorem dX7_ship_69 : decode cX7_ship 69 = .ok (.iaload, 1) := by decide +kernel
theorem dX7_ship_70 : decode cX7_ship 70 = .ok (.aload_n 0, 1) := by decide +kernel
theorem dX7_ship_71 : decode cX7_ship 71 = .ok (.getfield 7, 3) := by decide +kernel
theorem dX7_ship_74 : decode cX7_ship 74 = .ok (.iload_n 2, 1) := by decide +kernel
theorem dX7_ship_75 : decode cX7_ship 75 = .ok (.iaload, 1) := by decide +kernel
theorem dX7_ship_76 : decode cX7_ship 76 = .ok (.if_icmp .eq 25, 3) := by decide +kernel
theorem dX7_ship_79 : decode cX7_ship 79 = .ok (.aload_n 0, 1) := by decide +kernel
theorem dX7_ship_80 : decode cX7_ship 80 = .ok (.iload_n 1, 1) := by decide +kernel
theorem dX7_ship_81 : decode cX7_ship 81 = .ok (.iload_n 3, 1) := by decide +kernel
theorem dX7_ship_82 : decode cX7_ship 82 = .ok (.invokevirtual 106, 3) := by decide +kernel
theorem dX7_ship_85 : decode cX7_ship 85 = .ok (.ifCond .eq 16, 3) := by decide +kernel
theorem dX7_ship_88 : decode cX7_ship 88 = .ok (.aload_n 0, 1) := by decide +kernel
theorem dX7_ship_89 : decode cX7_ship 89 = .ok (.getfield 147, 3) := by decide +kernel
theorem dX7_ship_92 : decode cX7_ship 92 = .ok (.bipush 30, 2) := by decide +kernel
theorem dX7_ship_94 : decode cX7_ship 94 = .ok (.if_icmp .ge 7, 3) := by decide +kernel
theorem dX7_ship_97 : decode cX7_ship 97 = .ok (.iconst 1, 1) := by decide +kernel
theorem dX7_ship_98 : decode cX7_ship 98 = .ok (.goto 4, 3) := by decide +kernel
theorem dX7_ship_101 : decode cX7_ship 101 = .ok (.iconst 0, 1) := by decide +kernel
theorem dX7_ship_102 : decode cX7_ship 102 = .ok (.istore 6, 2) := by decide +kernel
theorem dX7_ship_104 : decode cX7_ship 104 = .ok (.aload_n 0, 1) := by decide +kernel
theorem dX7_ship_105 : decode cX7_ship 105 = .ok (.iload 6, 2) := by decide +kernel
theorem dX7_ship_107 : decode cX7_ship 107 = .ok (.ifCond .eq 43, 3) := by decide +kernel
theorem dX7_ship_110 : decode cX7_ship 110 = .ok (.aload_n 0, 1) := by decide +kernel
theorem dX7_ship_111 : decode cX7_ship 111 = .ok (.getfield 153, 3) := by decide +kernel
theorem dX7_ship_114 : decode cX7_ship 114 = .ok (.aload_n 0, 1) := by decide +kernel
theorem dX7_ship_115 : decode cX7_ship 115 = .ok (.aload_n 0, 1) := by decide +kernel
theorem dX7_ship_116 : decode cX7_ship 116 = .ok (.invokevirtual 150, 3) := by decide +kernel
theorem dX7_ship_119 : decode cX7_ship 119 = .ok (.aload_n 0, 1) := by decide +kernel
theorem dX7_ship_120 : decode cX7_ship 120 = .ok (.getfield 19, 3) := by decide +kernel
theorem dX7_ship_123 : decode cX7_ship 123 = .ok (.iload_n 1, 1) := by decide +kernel
theorem dX7_ship_124 : decode cX7_ship 124 = .ok (.iaload, 1) := by decide +kernel
theorem dX7_ship_125 : decode cX7_ship 125 = .ok (.iload_n 3, 1) := by decide +kernel
theorem dX7_ship_126 : decode cX7_ship 126 = .ok (.aload_n 0, 1) := by decide +kernel
theorem dX7_ship_127 : decode cX7_ship 127 = .ok (.getfield 16, 3) := by decide +kernel
theorem dX7_ship_130 : decode cX7_ship 130 = .ok (.iload_n 1, 1) := by decide +kernel
theorem dX7_ship_131 : decode cX7_ship 131 = .ok (.iaload, 1) := by decide +kernel
theorem dX7_ship_132 : decode cX7_ship 132 = .ok (.invokestatic 77, 3) := by decide +kernel
theorem dX7_ship_135 : decode cX7_ship 135 = .ok (.iadd, 1) := by decide +kernel
theorem dX7_ship_136 : decode cX7_ship 136 = .ok (.aload_n 0, 1) := by decide +kernel
theorem dX7_ship_137 : decode cX7_ship 137 = .ok (.getfield 28, 3) := by decide +kernel
theorem dX7_ship_140 : decode cX7_ship 140 = .ok (.invokevirtual 82, 3) := by decide +kernel
theorem dX7_ship_143 : decode cX7_ship 143 = .ok (.if_icmp .lt 7, 3) := by decide +kernel
theorem dX7_ship_146 : decode cX7_ship 146 = .ok (.iconst 0, 1) := by decide +kernel
theorem dX7_ship_147 : decode cX7_ship 147 = .ok (.goto 4, 3) := by decide +kernel
theorem dX7_ship_150 : decode cX7_ship 150 = .ok (.iconst 3, 1) := by decide +kernel
theorem dX7_ship_151 : decode cX7_ship 151 = .ok (.putfield 56, 3) := by decide +kernel
theorem dX7_ship_154 : decode cX7_ship 154 = .ok (.aload_n 0, 1) := by decide +kernel
theorem dX7_ship_155 : decode cX7_ship 155 = .ok (.getfield 56, 3) := by decide +kernel
theorem dX7_ship_158 : decode cX7_ship 158 = .ok (.ifCond .le 5, 3) := by decide +kernel
theorem dX7_ship_161 : decode cX7_ship 161 = .ok (.iconst 0, 1) := by decide +kernel
theorem dX7_ship_162 : decode cX7_ship 162 = .ok (.ireturn, 1) := by decide +kernel
theorem dX7_ship_163 : decode cX7_ship 163 = .ok (.aload_n 0, 1) := by decide +kernel
theorem dX7_ship_164 : decode cX7_ship 164 = .ok (.getfield 44, 3) := by decide +kernel
theorem dX7_ship_167 : decode cX7_ship 167 = .ok (.aload_n 0, 1) := by decide +kernel
theorem dX7_ship_168 : decode cX7_ship 168 = .ok (.getfield 147, 3) := by decide +kernel
theorem dX7_ship_171 : decode cX7_ship 171 = .ok (.iload_n 2, 1) := by decide +kernel
theorem dX7_ship_172 : decode cX7_ship 172 = .ok (.iastore, 1) := by decide +kernel
theorem dX7_ship_173 : decode cX7_ship 173 = .ok (.aload_n 0, 1) := by decide +kernel
theorem dX7_ship_174 : decode cX7_ship 174 = .ok (.getfield 47, 3) := by decide +kernel
theorem dX7_ship_177 : decode cX7_ship 177 = .ok (.aload_n 0, 1) := by decide +kernel
theorem dX7_ship_178 : decode cX7_ship 178 = .ok (.getfield 147, 3) := by decide +kernel
theorem dX7_ship_181 : decode cX7_ship 181 = .ok (.iload_n 3, 1) := by decide +kernel
theorem dX7_ship_182 : decode cX7_ship 182 = .ok (.iastore, 1) := by decide +kernel
theorem dX7_ship_183 : decode cX7_ship 183 = .ok (.aload_n 0, 1) := by decide +kernel
theorem dX7_ship_184 : decode cX7_ship 184 = .ok (.getfield 50, 3) := by decide +kernel
theorem dX7_ship_187 : decode cX7_ship 187 = .ok (.aload_n 0, 1) := by decide +kernel
theorem dX7_ship_188 : decode cX7_ship 188 = .ok (.getfield 147, 3) := by decide +kernel
theorem dX7_ship_191 : decode cX7_ship 191 = .ok (.aload_n 0, 1) := by decide +kernel
theorem dX7_ship_192 : decode cX7_ship 192 = .ok (.iload_n 1, 1) := by decide +kernel
theorem dX7_ship_193 : decode cX7_ship 193 = .ok (.iload_n 3, 1) := by decide +kernel
theorem dX7_ship_194 : decode cX7_ship 194 = .ok (.invokevirtual 109, 3) := by decide +kernel
theorem dX7_ship_197 : decode cX7_ship 197 = .ok (.iastore, 1) := by decide +kernel
theorem dX7_ship_198 : decode cX7_ship 198 = .ok (.aload_n 0, 1) := by decide +kernel
theorem dX7_ship_199 : decode cX7_ship 199 = .ok (.getfield 53, 3) := by decide +kernel
theorem dX7_ship_202 : decode cX7_ship 202 = .ok (.aload_n 0, 1) := by decide +kernel
theorem dX7_ship_203 : decode cX7_ship 203 = .ok (.getfield 147, 3) := by decide +kernel
theorem dX7_ship_206 : decode cX7_ship 206 = .ok (.aload_n 0, 1) := by decide +kernel
theorem dX7_ship_207 : decode cX7_ship 207 = .ok (.getfield 141, 3) := by decide +kernel
theorem dX7_ship_210 : decode cX7_ship 210 = .ok (.iload 4, 2) := by decide +kernel
theorem dX7_ship_212 : decode cX7_ship 212 = .ok (.iadd, 1) := by decide +kernel
theorem dX7_ship_213 : decode cX7_ship 213 = .ok (.iastore, 1) := by decide +kernel
theorem dX7_ship_214 : decode cX7_ship 214 = .ok (.aload_n 0, 1) := by decide +kernel
theorem dX7_ship_215 : decode cX7_ship 215 = .ok (.dup, 1) := by decide +kernel
theorem dX7_ship_216 : decode cX7_ship 216 = .ok (.getfield 147, 3) := by decide +kernel
theorem dX7_ship_219 : decode cX7_ship 219 = .ok (.iconst 1, 1) := by decide +kernel
theorem dX7_ship_220 : decode cX7_ship 220 = .ok (.iadd, 1) := by decide +kernel
theorem dX7_ship_221 : decode cX7_ship 221 = .ok (.putfield 147, 3) := by decide +kernel
theorem dX7_ship_224 : decode cX7_ship 224 = .ok (.aload_n 0, 1) := by decide +kernel
theorem dX7_ship_225 : decode cX7_ship 225 = .ok (.getfield 147, 3) := by decide +kernel
theorem dX7_ship_228 : decode cX7_ship 228 = .ok (.iconst 1, 1) := by decide +kernel
theorem dX7_ship_229 : decode cX7_ship 229 = .ok (.isub, 1) := by decide +kernel
theorem dX7_ship_230 : decode cX7_ship 230 = .ok (.ireturn, 1) := by decide +kernel
set_option maxRecDepth 20000 in
theorem ggX7_arrive_X7_in : GoodIn wsX7_arrive wsX7_in := goodIn_r _ [11] (by decide +kernel) (by decide +kernel)
set_option maxRecDepth 20000 in
theorem gX7_arrive_X7_in : GoodIn wsX7_arrive (va_wsS RX7 62 yX7_in wsX7_in) := goodIn_app (goodIn_of _ (by decide +kernel)) ggX7_arrive_X7_in
set_option maxRecDepth 20000 in
theorem ggX7_arrive_X7_hasRoom : GoodIn wsX7_arrive wsX7_hasRoom := goodIn_r _ [15, 16, 17, 47, 48, 49, 50, 51, 52, 53, 54, 55, 56, 57, 58, 59, 60, 61, 62, 63, 64, 65, 66, 67, 68, 69, 70, 71, 72, 73, 74] (by decide +kernel) (by decide +kernel)
set_option maxRecDepth 20000 in
theorem gX7_arrive_X7_hasRoom : GoodIn wsX7_arrive (wsV RX7 98 RX7 yX7_hasRoom wsX7_hasRoom) := goodIn_app (goodIn_of _ (by decide +kernel)) ggX7_arrive_X7_hasRoom
set_option maxRecDepth 20000 in
theorem ggX7_arrive_X7_part : GoodIn wsX7_arrive wsX7_part := goodIn_r _ [20] (by decide +kernel) (by decide +kernel)
set_option maxRecDepth 20000 in
theorem gX7_arrive_X7_part : GoodIn wsX7_arrive (va_wsS RX7 77 yX7_part wsX7_part) := goodIn_app (goodIn_of _ (by decide +kernel)) ggX7_arrive_X7_part
set_option maxRecDepth 20000 in
theorem ggX7_arrive_X7_comes : GoodIn wsX7_arrive wsX7_comes := goodIn_r _ [24, 16, 25, 26, 27, 28, 10, 29, 30, 31, 32, 33, 34, 35, 47, 48, 49, 50, 51, 52, 53, 54, 55, 56, 57, 58, 59, 60, 61, 62, 63, 64, 65, 66, 67, 68, 69, 70, 71, 72, 73, 74] (by decide +kernel) (by decide +kernel)
set_option maxRecDepth 20000 in
theorem gX7_arrive_X7_comes : GoodIn wsX7_arrive (wsV RX7 102 RX7 yX7_comes wsX7_comes) := goodIn_app (goodIn_of _ (by decide +kernel)) ggX7_arrive_X7_comes
set_option maxRecDepth 20000 in
theorem ggX7_arrive_X7_misses : GoodIn wsX7_arrive wsX7_misses := goodIn_r _ [39, 7, 40, 41, 42, 43, 44, 10, 45, 46, 47, 48, 49, 50, 51, 52, 53, 54, 55, 56, 57, 58, 59, 60, 61, 62, 63, 64, 65, 66, 67, 68, 69, 70, 71, 72, 73, 74] (by decide +kernel) (by decide +kernel)
set_option maxRecDepth 20000 in
theorem gX7_arrive_X7_misses : GoodIn wsX7_arrive (wsV RX7 115 RX7 yX7_misses wsX7_misses) := goodIn_app (goodIn_of _ (by decide +kernel)) ggX7_arrive_X7_misses
theorem dX7_arrive_0 : decode cX7_arrive 0 = .ok (.iload_n 1, 1) := by decide +kernel
theorem dX7_arrive_1 : decode cX7_arrive 1 = .ok (.iconst 0, 1) := by decide +kernel
theorem dX7_arrive_2 : decode cX7_arrive 2 = .ok (.aload_n 0, 1) := by decide +kernel
theorem dX7_arrive_3 : decode cX7_arrive 3 = .ok (.getfield 147, 3) := by decide +kernel
theorem dX7_arrive_6 : decode cX7_arrive 6 = .ok (.iconst 1, 1) := by decide +kernel
theorem dX7_arrive_7 : decode cX7_arrive 7 = .ok (.isub, 1) := by decide +kernel
theorem dX7_arrive_8 : decode cX7_arrive 8 = .ok (.invokestatic 62, 3) := by decide +kernel
theorem dX7_arrive_11 : decode cX7_arrive 11 = .ok (.istore_n 3, 1) := by decide +kernel
theorem dX7_arrive_12 : decode cX7_arrive 12 = .ok (.aload_n 0, 1) := by decide +kernel
theorem dX7_arrive_13 : decode cX7_arrive 13 = .ok (.iload_n 3, 1) := by decide +kernel
theorem dX7_arrive_14 : decode cX7_arrive 14 = .ok (.ifCond .ne 7, 3) := by decide +kernel
theorem dX7_arrive_17 : decode cX7_arrive 17 = .ok (.iconst 1, 1) := by decide +kernel
theorem dX7_arrive_18 : decode cX7_arrive 18 = .ok (.goto 22, 3) := by decide +kernel
theorem dX7_arrive_21 : decode cX7_arrive 21 = .ok (.iload_n 2, 1) := by decide +kernel
theorem dX7_arrive_22 : decode cX7_arrive 22 = .ok (.iconst 0, 1) := by decide +kernel
theorem dX7_arrive_23 : decode cX7_arrive 23 = .ok (.aload_n 0, 1) := by decide +kernel
theorem dX7_arrive_24 : decode cX7_arrive 24 = .ok (.getfield 47, 3) := by decide +kernel
theorem dX7_arrive_27 : decode cX7_arrive 27 = .ok (.iload_n 1, 1) := by decide +kernel
theorem dX7_arrive_28 : decode cX7_arrive 28 = .ok (.iaload, 1) := by decide +kernel
theorem dX7_arrive_29 : decode cX7_arrive 29 = .ok (.invokestatic 62, 3) := by decide +kernel
theorem dX7_arrive_32 : decode cX7_arrive 32 = .ok (.ifCond .eq 7, 3) := by decide +kernel
theorem dX7_arrive_35 : decode cX7_arrive 35 = .ok (.iconst 0, 1) := by decide +kernel
theorem dX7_arrive_36 : decode cX7_arrive 36 = .ok (.goto 4, 3) := by decide +kernel
theorem dX7_arrive_39 : decode cX7_arrive 39 = .ok (.iconst 2, 1) := by decide +kernel
theorem dX7_arrive_40 : decode cX7_arrive 40 = .ok (.putfield 56, 3) := by decide +kernel
theorem dX7_arrive_43 : decode cX7_arrive 43 = .ok (.aload_n 0, 1) := by decide +kernel
theorem dX7_arrive_44 : decode cX7_arrive 44 = .ok (.getfield 56, 3) := by decide +kernel
theorem dX7_arrive_47 : decode cX7_arrive 47 = .ok (.ifCond .ne 35, 3) := by decide +kernel
theorem dX7_arrive_50 : decode cX7_arrive 50 = .ok (.aload_n 0, 1) := by decide +kernel
theorem dX7_arrive_51 : decode cX7_arrive 51 = .ok (.aload_n 0, 1) := by decide +kernel
theorem dX7_arrive_52 : decode cX7_arrive 52 = .ok (.getfield 41, 3) := by decide +kernel
theorem dX7_arrive_55 : decode cX7_arrive 55 = .ok (.iload_n 1, 1) := by decide +kernel
theorem dX7_arrive_56 : decode cX7_arrive 56 = .ok (.iaload, 1) := by decide +kernel
theorem dX7_arrive_57 : decode cX7_arrive 57 = .ok (.ifCond .ne 21, 3) := by decide +kernel
theorem dX7_arrive_60 : decode cX7_arrive 60 = .ok (.aload_n 0, 1) := by decide +kernel
theorem dX7_arrive_61 : decode cX7_arrive 61 = .ok (.aload_n 0, 1) := by decide +kernel
theorem dX7_arrive_62 : decode cX7_arrive 62 = .ok (.getfield 44, 3) := by decide +kernel
theorem dX7_arrive_65 : decode cX7_arrive 65 = .ok (.iload_n 1, 1) := by decide +kernel
theorem dX7_arrive_66 : decode cX7_arrive 66 = .ok (.iaload, 1) := by decide +kernel
theorem dX7_arrive_67 : decode cX7_arrive 67 = .ok (.iload_n 2, 1) := by decide +kernel
theorem dX7_arrive_68 : decode cX7_arrive 68 = .ok (.invokevirtual 98, 3) := by decide +kernel
theorem dX7_arrive_71 : decode cX7_arrive 71 = .ok (.ifCond .eq 7, 3) := by decide +kernel
theorem dX7_arrive_74 : decode cX7_arrive 74 = .ok (.iconst 0, 1) := by decide +kernel
theorem dX7_arrive_75 : decode cX7_arrive 75 = .ok (.goto 4, 3) := by decide +kernel
theorem dX7_arrive_78 : decode cX7_arrive 78 = .ok (.iconst 3, 1) := by decide +kernel
theorem dX7_arrive_79 : decode cX7_arrive 79 = .ok (.putfield 56, 3) := by decide +kernel
theorem dX7_arrive_82 : decode cX7_arrive 82 = .ok (.aload_n 0, 1) := by decide +kernel
theorem dX7_arrive_83 : decode cX7_arrive 83 = .ok (.getfield 56, 3) := by decide +kernel
theorem dX7_arrive_86 : decode cX7_arrive 86 = .ok (.ifCond .le 5, 3) := by decide +kernel
theorem dX7_arrive_89 : decode cX7_arrive 89 = .ok (.iconst 0, 1) := by decide +kernel
theorem dX7_arrive_90 : decode cX7_arrive 90 = .ok (.ireturn, 1) := by decide +kernel
theorem dX7_arrive_91 : decode cX7_arrive 91 = .ok (.aload_n 0, 1) := by decide +kernel
theorem dX7_arrive_92 : decode cX7_arrive 92 = .ok (.getfield 50, 3) := by decide +kernel
theorem dX7_arrive_95 : decode cX7_arrive 95 = .ok (.iload_n 1, 1) := by decide +kernel
theorem dX7_arrive_96 : decode cX7_arrive 96 = .ok (.iaload, 1) := by decide +kernel
theorem dX7_arrive_97 : decode cX7_arrive 97 = .ok (.iload_n 2, 1) := by decide +kernel
theorem dX7_arrive_98 : decode cX7_arrive 98 = .ok (.aload_n 0, 1) := by decide +kernel
theorem dX7_arrive_99 : decode cX7_arrive 99 = .ok (.getfield 47, 3) := by decide +kernel
theorem dX7_arrive_102 : decode cX7_arrive 102 = .ok (.iload_n 1, 1) := by decide +kernel
theorem dX7_arrive_103 : decode cX7_arrive 103 = .ok (.iaload, 1) := by decide +kernel
theorem dX7_arrive_104 : decode cX7_arrive 104 = .ok (.invokestatic 77, 3) := by decide +kernel
theorem dX7_arrive_107 : decode cX7_arrive 107 = .ok (.istore 4, 2) := by decide +kernel
theorem dX7_arrive_109 : decode cX7_arrive 109 = .ok (.aload_n 0, 1) := by decide +kernel
theorem dX7_arrive_110 : decode cX7_arrive 110 = .ok (.getfield 50, 3) := by decide +kernel
theorem dX7_arrive_113 : decode cX7_arrive 113 = .ok (.iload_n 1, 1) := by decide +kernel
theorem dX7_arrive_114 : decode cX7_arrive 114 = .ok (.iaload, 1) := by decide +kernel
theorem dX7_arrive_115 : decode cX7_arrive 115 = .ok (.iload 4, 2) := by decide +kernel
theorem dX7_arrive_117 : decode cX7_arrive 117 = .ok (.isub, 1) := by decide +kernel
theorem dX7_arrive_118 : decode cX7_arrive 118 = .ok (.istore 5, 2) := by decide +kernel
theorem dX7_arrive_120 : decode cX7_arrive 120 = .ok (.aload_n 0, 1) := by decide +kernel
theorem dX7_arrive_121 : decode cX7_arrive 121 = .ok (.getfield 41, 3) := by decide +kernel
theorem dX7_arrive_124 : decode cX7_arrive 124 = .ok (.iload_n 1, 1) := by decide +kernel
theorem dX7_arrive_125 : decode cX7_arrive 125 = .ok (.iconst 1, 1) := by decide +kernel
theorem dX7_arrive_126 : decode cX7_arrive 126 = .ok (.iastore, 1) := by decide +kernel
theorem dX7_arrive_127 : decode cX7_arrive 127 = .ok (.aload_n 0, 1) := by decide +kernel
theorem dX7_arrive_128 : decode cX7_arrive 128 = .ok (.aload_n 0, 1) := by decide +kernel
theorem dX7_arrive_129 : decode cX7_arrive 129 = .ok (.getfield 44, 3) := by decide +kernel
theorem dX7_arrive_132 : decode cX7_arrive 132 = .ok (.iload_n 1, 1) := by decide +kernel
theorem dX7_arrive_133 : decode cX7_arrive 133 = .ok (.iaload, 1) := by decide +kernel
theorem dX7_arrive_134 : decode cX7_arrive 134 = .ok (.iload_n 2, 1) := by decide +kernel
theorem dX7_arrive_135 : decode cX7_arrive 135 = .ok (.iload 4, 2) := by decide +kernel
theorem dX7_arrive_137 : decode cX7_arrive 137 = .ok (.invokevirtual 102, 3) := by decide +kernel
theorem dX7_arrive_140 : decode cX7_arrive 140 = .ok (.iload 5, 2) := by decide +kernel
theorem dX7_arrive_142 : decode cX7_arrive 142 = .ok (.aload_n 0, 1) := by decide +kernel
theorem dX7_arrive_143 : decode cX7_arrive 143 = .ok (.getfield 50, 3) := by decide +kernel
theorem dX7_arrive_146 : decode cX7_arrive 146 = .ok (.iload_n 1, 1) := by decide +kernel
theorem dX7_arrive_147 : decode cX7_arrive 147 = .ok (.iaload, 1) := by decide +kernel
theorem dX7_arrive_148 : decode cX7_arrive 148 = .ok (.sipush 200, 3) := by decide +kernel
theorem dX7_arrive_151 : decode cX7_arrive 151 = .ok (.idiv, 1) := by decide +kernel
theorem dX7_arrive_152 : decode cX7_arrive 152 = .ok (.if_icmp .gt 16, 3) := by decide +kernel
theorem dX7_arrive_155 : decode cX7_arrive 155 = .ok (.aload_n 0, 1) := by decide +kernel
theorem dX7_arrive_156 : decode cX7_arrive 156 = .ok (.getfield 25, 3) := by decide +kernel
theorem dX7_arrive_159 : decode cX7_arrive 159 = .ok (.iconst 4, 1) := by decide +kernel
theorem dX7_arrive_160 : decode cX7_arrive 160 = .ok (.dup2, 1) := by decide +kernel
theorem dX7_arrive_161 : decode cX7_arrive 161 = .ok (.iaload, 1) := by decide +kernel
theorem dX7_arrive_162 : decode cX7_arrive 162 = .ok (.iload 5, 2) := by decide +kernel
theorem dX7_arrive_164 : decode cX7_arrive 164 = .ok (.iadd, 1) := by decide +kernel
theorem dX7_arrive_165 : decode cX7_arrive 165 = .ok (.iastore, 1) := by decide +kernel
theorem dX7_arrive_166 : decode cX7_arrive 166 = .ok (.iconst 0, 1) := by decide +kernel
theorem dX7_arrive_167 : decode cX7_arrive 167 = .ok (.ireturn, 1) := by decide +kernel
theorem dX7_arrive_168 : decode cX7_arrive 168 = .ok (.aload_n 0, 1) := by decide +kernel
theorem dX7_arrive_169 : decode cX7_arrive 169 = .ok (.iload 5, 2) := by decide +kernel
theorem dX7_arrive_171 : decode cX7_arrive 171 = .ok (.invokevirtual 115, 3) := by decide +kernel
theorem dX7_arrive_174 : decode cX7_arrive 174 = .ok (.pop, 1) := by decide +kernel
theorem dX7_arrive_175 : decode cX7_arrive 175 = .ok (.iload 5, 2) := by decide +kernel
theorem dX7_arrive_177 : decode cX7_arrive 177 = .ok (.ireturn, 1) := by decide +kernel
set_option maxRecDepth 20000 in
theorem ggX7_passesOne_X7_misses : GoodIn wsX7_passesOne wsX7_misses := goodIn_r _ [22, 15, 4, 17, 23, 24, 25, 21, 26, 27, 31, 32, 33, 34, 35, 36, 37, 38, 39, 40, 41, 42, 43, 44, 45, 46, 47, 48, 49, 50, 51, 52, 53, 54, 55, 56, 57, 58] (by decide +kernel) (by decide +kernel)
set_option maxRecDepth 20000 in
theorem gX7_passesOne_X7_misses : GoodIn wsX7_passesOne (wsV RX7 115 RX7 yX7_misses wsX7_misses) := goodIn_app (goodIn_of _ (by decide +kernel)) ggX7_passesOne_X7_misses
set_option maxRecDepth 20000 in
theorem ggX7_passesOne_X7_part : GoodIn wsX7_passesOne wsX7_part := goodIn_r _ [30] (by decide +kernel) (by decide +kernel)
set_option maxRecDepth 20000 in
theorem gX7_passesOne_X7_part : GoodIn wsX7_passesOne (va_wsS RX7 77 yX7_part wsX7_part) := goodIn_app (goodIn_of _ (by decide +kernel)) ggX7_passesOne_X7_part
theorem dX7_passesOne_0 : decode cX7_passesOne 0 = .ok (.aload_n 0, 1) := by decide +kernel
theorem dX7_passesOne_1 : decode cX7_passesOne 1 = .ok (.dup, 1) := by decide +kernel
theorem dX7_passesOne_2 : decode cX7_passesOne 2 = .ok (.getfield 141, 3) := by decide +kernel
theorem dX7_passesOne_5 : decode cX7_passesOne 5 = .ok (.iconst 1, 1) := by decide +kernel
theorem dX7_passesOne_6 : decode cX7_passesOne 6 = .ok (.iadd, 1) := by decide +kernel
theorem dX7_passesOne_7 : decode cX7_passesOne 7 = .ok (.putfield 141, 3) := by decide +kernel
theorem dX7_passesOne_10 : decode cX7_passesOne 10 = .ok (.aload_n 0, 1) := by decide +kernel
theorem dX7_passesOne_11 : decode cX7_passesOne 11 = .ok (.getfield 141, 3) := by decide +kernel
theorem dX7_passesOne_14 : decode cX7_passesOne 14 = .ok (.aload_n 0, 1) := by decide +kernel
theorem dX7_passesOne_15 : decode cX7_passesOne 15 = .ok (.getfield 32, 3) := by decide +kernel
theorem dX7_passesOne_18 : decode cX7_passesOne 18 = .ok (.if_icmp .ne 16, 3) := by decide +kernel
theorem dX7_passesOne_21 : decode cX7_passesOne 21 = .ok (.aload_n 0, 1) := by decide +kernel
theorem dX7_passesOne_22 : decode cX7_passesOne 22 = .ok (.aload_n 0, 1) := by decide +kernel
theorem dX7_passesOne_23 : decode cX7_passesOne 23 = .ok (.getfield 144, 3) := by decide +kernel
theorem dX7_passesOne_26 : decode cX7_passesOne 26 = .ok (.putfield 28, 3) := by decide +kernel
theorem dX7_passesOne_29 : decode cX7_passesOne 29 = .ok (.aload_n 0, 1) := by decide +kernel
theorem dX7_passesOne_30 : decode cX7_passesOne 30 = .ok (.iconst (-1), 1) := by decide +kernel
theorem dX7_passesOne_31 : decode cX7_passesOne 31 = .ok (.putfield 32, 3) := by decide +kernel
theorem dX7_passesOne_34 : decode cX7_passesOne 34 = .ok (.aload_n 0, 1) := by decide +kernel
theorem dX7_passesOne_35 : decode cX7_passesOne 35 = .ok (.aload_n 0, 1) := by decide +kernel
theorem dX7_passesOne_36 : decode cX7_passesOne 36 = .ok (.getfield 141, 3) := by decide +kernel
theorem dX7_passesOne_39 : decode cX7_passesOne 39 = .ok (.bipush 100, 2) := by decide +kernel
theorem dX7_passesOne_41 : decode cX7_passesOne 41 = .ok (.irem, 1) := by decide +kernel
theorem dX7_passesOne_42 : decode cX7_passesOne 42 = .ok (.ifCond .ne 7, 3) := by decide +kernel
theorem dX7_passesOne_45 : decode cX7_passesOne 45 = .ok (.iconst 0, 1) := by decide +kernel
theorem dX7_passesOne_46 : decode cX7_passesOne 46 = .ok (.goto 7, 3) := by decide +kernel
theorem dX7_passesOne_49 : decode cX7_passesOne 49 = .ok (.aload_n 0, 1) := by decide +kernel
theorem dX7_passesOne_50 : decode cX7_passesOne 50 = .ok (.getfield 129, 3) := by decide +kernel
theorem dX7_passesOne_53 : decode cX7_passesOne 53 = .ok (.putfield 129, 3) := by decide +kernel
theorem dX7_passesOne_56 : decode cX7_passesOne 56 = .ok (.iconst 0, 1) := by decide +kernel
theorem dX7_passesOne_57 : decode cX7_passesOne 57 = .ok (.istore_n 1, 1) := by decide +kernel
theorem dX7_passesOne_58 : decode cX7_passesOne 58 = .ok (.iload_n 1, 1) := by decide +kernel
theorem dX7_passesOne_59 : decode cX7_passesOne 59 = .ok (.aload_n 0, 1) := by decide +kernel
theorem dX7_passesOne_60 : decode cX7_passesOne 60 = .ok (.getfield 147, 3) := by decide +kernel
theorem dX7_passesOne_63 : decode cX7_passesOne 63 = .ok (.if_icmp .ge 49, 3) := by decide +kernel
theorem dX7_passesOne_66 : decode cX7_passesOne 66 = .ok (.aload_n 0, 1) := by decide +kernel
theorem dX7_passesOne_67 : decode cX7_passesOne 67 = .ok (.getfield 41, 3) := by decide +kernel
theorem dX7_passesOne_70 : decode cX7_passesOne 70 = .ok (.iload_n 1, 1) := by decide +kernel
theorem dX7_passesOne_71 : decode cX7_passesOne 71 = .ok (.iaload, 1) := by decide +kernel
theorem dX7_passesOne_72 : decode cX7_passesOne 72 = .ok (.ifCond .ne 34, 3) := by decide +kernel
theorem dX7_passesOne_75 : decode cX7_passesOne 75 = .ok (.aload_n 0, 1) := by decide +kernel
theorem dX7_passesOne_76 : decode cX7_passesOne 76 = .ok (.getfield 141, 3) := by decide +kernel
theorem dX7_passesOne_79 : decode cX7_passesOne 79 = .ok (.aload_n 0, 1) := by decide +kernel
theorem dX7_passesOne_80 : decode cX7_passesOne 80 = .ok (.getfield 53, 3) := by decide +kernel
theorem dX7_passesOne_83 : decode cX7_passesOne 83 = .ok (.iload_n 1, 1) := by decide +kernel
theorem dX7_passesOne_84 : decode cX7_passesOne 84 = .ok (.iaload, 1) := by decide +kernel
theorem dX7_passesOne_85 : decode cX7_passesOne 85 = .ok (.if_icmp .le 21, 3) := by decide +kernel
theorem dX7_passesOne_88 : decode cX7_passesOne 88 = .ok (.aload_n 0, 1) := by decide +kernel
theorem dX7_passesOne_89 : decode cX7_passesOne 89 = .ok (.getfield 41, 3) := by decide +kernel
theorem dX7_passesOne_92 : decode cX7_passesOne 92 = .ok (.iload_n 1, 1) := by decide +kernel
theorem dX7_passesOne_93 : decode cX7_passesOne 93 = .ok (.iconst 2, 1) := by decide +kernel
theorem dX7_passesOne_94 : decode cX7_passesOne 94 = .ok (.iastore, 1) := by decide +kernel
theorem dX7_passesOne_95 : decode cX7_passesOne 95 = .ok (.aload_n 0, 1) := by decide +kernel
theorem dX7_passesOne_96 : decode cX7_passesOne 96 = .ok (.aload_n 0, 1) := by decide +kernel
theorem dX7_passesOne_97 : decode cX7_passesOne 97 = .ok (.getfield 50, 3) := by decide +kernel
theorem dX7_passesOne_100 : decode cX7_passesOne 100 = .ok (.iload_n 1, 1) := by decide +kernel
theorem dX7_passesOne_101 : decode cX7_passesOne 101 = .ok (.iaload, 1) := by decide +kernel
theorem dX7_passesOne_102 : decode cX7_passesOne 102 = .ok (.invokevirtual 115, 3) := by decide +kernel
theorem dX7_passesOne_105 : decode cX7_passesOne 105 = .ok (.pop, 1) := by decide +kernel
theorem dX7_passesOne_106 : decode cX7_passesOne 106 = .ok (.iinc 1 1, 3) := by decide +kernel
theorem dX7_passesOne_109 : decode cX7_passesOne 109 = .ok (.goto (-51), 3) := by decide +kernel
theorem dX7_passesOne_112 : decode cX7_passesOne 112 = .ok (.iconst 0, 1) := by decide +kernel
theorem dX7_passesOne_113 : decode cX7_passesOne 113 = .ok (.istore_n 1, 1) := by decide +kernel
theorem dX7_passesOne_114 : decode cX7_passesOne 114 = .ok (.iload_n 1, 1) := by decide +kernel
theorem dX7_passesOne_115 : decode cX7_passesOne 115 = .ok (.aload_n 0, 1) := by decide +kernel
theorem dX7_passesOne_116 : decode cX7_passesOne 116 = .ok (.getfield 59, 3) := by decide +kernel
theorem dX7_passesOne_119 : decode cX7_passesOne 119 = .ok (.if_icmp .ge 83, 3) := by decide +kernel
theorem dX7_passesOne_122 : decode cX7_passesOne 122 = .ok (.aload_n 0, 1) := by decide +kernel
theorem dX7_passesOne_123 : decode cX7_passesOne 123 = .ok (.getfield 19, 3) := by decide +kernel
theorem dX7_passesOne_126 : decode cX7_passesOne 126 = .ok (.iload_n 1, 1) := by decide +kernel
theorem dX7_passesOne_127 : decode cX7_passesOne 127 = .ok (.iaload, 1) := by decide +kernel
theorem dX7_passesOne_128 : decode cX7_passesOne 128 = .ok (.aload_n 0, 1) := by decide +kernel
theorem dX7_passesOne_129 : decode cX7_passesOne 129 = .ok (.getfield 22, 3) := by decide +kernel
theorem dX7_passesOne_132 : decode cX7_passesOne 132 = .ok (.aload_n 0, 1) := by decide +kernel
theorem dX7_passesOne_133 : decode cX7_passesOne 133 = .ok (.getfield 7, 3) := by decide +kernel
theorem dX7_passesOne_136 : decode cX7_passesOne 136 = .ok (.iload_n 1, 1) := by decide +kernel
theorem dX7_passesOne_137 : decode cX7_passesOne 137 = .ok (.iaload, 1) := by decide +kernel
theorem dX7_passesOne_138 : decode cX7_passesOne 138 = .ok (.iaload, 1) := by decide +kernel
theorem dX7_passesOne_139 : decode cX7_passesOne 139 = .ok (.ldc 156, 2) := by decide +kernel
theorem dX7_passesOne_141 : decode cX7_passesOne 141 = .ok (.invokestatic 77, 3) := by decide +kernel
theorem dX7_passesOne_144 : decode cX7_passesOne 144 = .ok (.istore_n 2, 1) := by decide +kernel
theorem dX7_passesOne_145 : decode cX7_passesOne 145 = .ok (.aload_n 0, 1) := by decide +kernel
theorem dX7_passesOne_146 : decode cX7_passesOne 146 = .ok (.getfield 25, 3) := by decide +kernel
theorem dX7_passesOne_149 : decode cX7_passesOne 149 = .ok (.iconst 4, 1) := by decide +kernel
theorem dX7_passesOne_150 : decode cX7_passesOne 150 = .ok (.dup2, 1) := by decide +kernel
theorem dX7_passesOne_151 : decode cX7_passesOne 151 = .ok (.iaload, 1) := by decide +kernel
theorem dX7_passesOne_152 : decode cX7_passesOne 152 = .ok (.iload_n 2, 1) := by decide +kernel
theorem dX7_passesOne_153 : decode cX7_passesOne 153 = .ok (.iadd, 1) := by decide +kernel
theorem dX7_passesOne_154 : decode cX7_passesOne 154 = .ok (.iastore, 1) := by decide +kernel
theorem dX7_passesOne_155 : decode cX7_passesOne 155 = .ok (.aload_n 0, 1) := by decide +kernel
theorem dX7_passesOne_156 : decode cX7_passesOne 156 = .ok (.getfield 19, 3) := by decide +kernel
theorem dX7_passesOne_159 : decode cX7_passesOne 159 = .ok (.iload_n 1, 1) := by decide +kernel
theorem dX7_passesOne_160 : decode cX7_passesOne 160 = .ok (.dup2, 1) := by decide +kernel
theorem dX7_passesOne_161 : decode cX7_passesOne 161 = .ok (.iaload, 1) := by decide +kernel
theorem dX7_passesOne_162 : decode cX7_passesOne 162 = .ok (.iload_n 2, 1) := by decide +kernel
theorem dX7_passesOne_163 : decode cX7_passesOne 163 = .ok (.isub, 1) := by decide +kernel
theorem dX7_passesOne_164 : decode cX7_passesOne 164 = .ok (.iastore, 1) := by decide +kernel
theorem dX7_passesOne_165 : decode cX7_passesOne 165 = .ok (.aload_n 0, 1) := by decide +kernel
theorem dX7_passesOne_166 : decode cX7_passesOne 166 = .ok (.getfield 16, 3) := by decide +kernel
theorem dX7_passesOne_169 : decode cX7_passesOne 169 = .ok (.iload_n 1, 1) := by decide +kernel
theorem dX7_passesOne_170 : decode cX7_passesOne 170 = .ok (.dup2, 1) := by decide +kernel
theorem dX7_passesOne_171 : decode cX7_passesOne 171 = .ok (.iaload, 1) := by decide +kernel
theorem dX7_passesOne_172 : decode cX7_passesOne 172 = .ok (.aload_n 0, 1) := by decide +kernel
theorem dX7_passesOne_173 : decode cX7_passesOne 173 = .ok (.getfield 16, 3) := by decide +kernel
theorem dX7_passesOne_176 : decode cX7_passesOne 176 = .ok (.iload_n 1, 1) := by decide +kernel
theorem dX7_passesOne_177 : decode cX7_passesOne 177 = .ok (.iaload, 1) := by decide +kernel
theorem dX7_passesOne_178 : decode cX7_passesOne 178 = .ok (.aload_n 0, 1) := by decide +kernel
theorem dX7_passesOne_179 : decode cX7_passesOne 179 = .ok (.getfield 22, 3) := by decide +kernel
theorem dX7_passesOne_182 : decode cX7_passesOne 182 = .ok (.aload_n 0, 1) := by decide +kernel
theorem dX7_passesOne_183 : decode cX7_passesOne 183 = .ok (.getfield 7, 3) := by decide +kernel
theorem dX7_passesOne_186 : decode cX7_passesOne 186 = .ok (.iload_n 1, 1) := by decide +kernel
theorem dX7_passesOne_187 : decode cX7_passesOne 187 = .ok (.iaload, 1) := by decide +kernel
theorem dX7_passesOne_188 : decode cX7_passesOne 188 = .ok (.iaload, 1) := by decide +kernel
theorem dX7_passesOne_189 : decode cX7_passesOne 189 = .ok (.ldc 156, 2) := by decide +kernel
theorem dX7_passesOne_191 : decode cX7_passesOne 191 = .ok (.invokestatic 77, 3) := by decide +kernel
theorem dX7_passesOne_194 : decode cX7_passesOne 194 = .ok (.isub, 1) := by decide +kernel
theorem dX7_passesOne_195 : decode cX7_passesOne 195 = .ok (.iastore, 1) := by decide +kernel
theorem dX7_passesOne_196 : decode cX7_passesOne 196 = .ok (.iinc 1 1, 3) := by decide +kernel
theorem dX7_passesOne_199 : decode cX7_passesOne 199 = .ok (.goto (-85), 3) := by decide +kernel
theorem dX7_passesOne_202 : decode cX7_passesOne 202 = .ok (.aload_n 0, 1) := by decide +kernel
theorem dX7_passesOne_203 : decode cX7_passesOne 203 = .ok (.dup, 1) := by decide +kernel
theorem dX7_passesOne_204 : decode cX7_passesOne 204 = .ok (.getfield 85, 3) := by decide +kernel
theorem dX7_passesOne_207 : decode cX7_passesOne 207 = .ok (.aload_n 0, 1) := by decide +kernel
theorem dX7_passesOne_208 : decode cX7_passesOne 208 = .ok (.getfield 141, 3) := by decide +kernel
theorem dX7_passesOne_211 : decode cX7_passesOne 211 = .ok (.bipush 30, 2) := by decide +kernel
theorem dX7_passesOne_213 : decode cX7_passesOne 213 = .ok (.irem, 1) := by decide +kernel
theorem dX7_passesOne_214 : decode cX7_passesOne 214 = .ok (.ifCond .ne 20, 3) := by decide +kernel
theorem dX7_passesOne_217 : decode cX7_passesOne 217 = .ok (.aload_n 0, 1) := by decide +kernel
theorem dX7_passesOne_218 : decode cX7_passesOne 218 = .ok (.getfield 85, 3) := by decide +kernel
theorem dX7_passesOne_221 : decode cX7_passesOne 221 = .ok (.ifCond .le 13, 3) := by decide +kernel
theorem dX7_passesOne_224 : decode cX7_passesOne 224 = .ok (.aload_n 0, 1) := by decide +kernel
theorem dX7_passesOne_225 : decode cX7_passesOne 225 = .ok (.getfield 85, 3) := by decide +kernel
theorem dX7_passesOne_228 : decode cX7_passesOne 228 = .ok (.bipush 100, 2) := by decide +kernel
theorem dX7_passesOne_230 : decode cX7_passesOne 230 = .ok (.idiv, 1) := by decide +kernel
theorem dX7_passesOne_231 : decode cX7_passesOne 231 = .ok (.goto 4, 3) := by decide +kernel
theorem dX7_passesOne_234 : decode cX7_passesOne 234 = .ok (.iconst 0, 1) := by decide +kernel
theorem dX7_passesOne_235 : decode cX7_passesOne 235 = .ok (.iadd, 1) := by decide +kernel
theorem dX7_passesOne_236 : decode cX7_passesOne 236 = .ok (.putfield 85, 3) := by decide +kernel
theorem dX7_passesOne_239 : decode cX7_passesOne 239 = .ok (.return_, 1) := by decide +kernel
set_option maxRecDepth 20000 in
theorem ggX7_pass_X7_in : GoodIn wsX7_pass wsX7_in := goodIn_r _ [7] (by decide +kernel) (by decide +kernel)
set_option maxRecDepth 20000 in
theorem gX7_pass_X7_in : GoodIn wsX7_pass (va_wsS RX7 62 yX7_in wsX7_in) := goodIn_app (goodIn_of _ (by decide +kernel)) ggX7_pass_X7_in
set_option maxRecDepth 20000 in
theorem ggX7_pass_X7_passesOne : GoodIn wsX7_pass wsX7_passesOne := goodIn_r _ [11, 1, 12, 13, 14, 15, 16, 17, 18, 19, 20, 21, 22, 23, 24, 25, 26, 3, 27, 28, 29, 6, 30, 31, 32, 33, 34, 35, 36, 37, 38, 39, 40, 41, 42, 43, 44, 45, 46, 47, 48, 49, 50, 51, 52, 53, 54, 55, 56, 57, 58, 59, 60, 61, 62, 63, 64, 65, 66] (by decide +kernel) (by decide +kernel)
set_option maxRecDepth 20000 in
theorem gX7_pass_X7_passesOne : GoodIn wsX7_pass (wsV RX7 157 RX7 yX7_passesOne wsX7_passesOne) := goodIn_app (goodIn_of _ (by decide +kernel)) ggX7_pass_X7_passesOne
theorem dX7_pass_0 : decode cX7_pass 0 = .ok (.aload_n 0, 1) := by decide +kernel
theorem dX7_pass_1 : decode cX7_pass 1 = .ok (.iload_n 1, 1) := by decide +kernel
theorem dX7_pass_2 : decode cX7_pass 2 = .ok (.iconst 1, 1) := by decide +kernel
theorem dX7_pass_3 : decode cX7_pass 3 = .ok (.bipush 60, 2) := by decide +kernel
theorem dX7_pass_5 : decode cX7_pass 5 = .ok (.invokestatic 62, 3) := by decide +kernel
theorem dX7_pass_8 : decode cX7_pass 8 = .ok (.ifCond .ne 7, 3) := by decide +kernel
theorem dX7_pass_11 : decode cX7_pass 11 = .ok (.iconst 1, 1) := by decide +kernel
theorem dX7_pass_12 : decode cX7_pass 12 = .ok (.goto 20, 3) := by decide +kernel
theorem dX7_pass_15 : decode cX7_pass 15 = .ok (.aload_n 0, 1) := by decide +kernel
theorem dX7_pass_16 : decode cX7_pass 16 = .ok (.getfield 141, 3) := by decide +kernel
theorem dX7_pass_19 : decode cX7_pass 19 = .ok (.iload_n 1, 1) := by decide +kernel
theorem dX7_pass_20 : decode cX7_pass 20 = .ok (.iadd, 1) := by decide +kernel
theorem dX7_pass_21 : decode cX7_pass 21 = .ok (.sipush 900, 3) := by decide +kernel
theorem dX7_pass_24 : decode cX7_pass 24 = .ok (.if_icmp .le 7, 3) := by decide +kernel
theorem dX7_pass_27 : decode cX7_pass 27 = .ok (.iconst 2, 1) := by decide +kernel
theorem dX7_pass_28 : decode cX7_pass 28 = .ok (.goto 4, 3) := by decide +kernel
theorem dX7_pass_31 : decode cX7_pass 31 = .ok (.iconst 0, 1) := by decide +kernel
theorem dX7_pass_32 : decode cX7_pass 32 = .ok (.putfield 56, 3) := by decide +kernel
theorem dX7_pass_35 : decode cX7_pass 35 = .ok (.iconst 0, 1) := by decide +kernel
theorem dX7_pass_36 : decode cX7_pass 36 = .ok (.istore_n 2, 1) := by decide +kernel
theorem dX7_pass_37 : decode cX7_pass 37 = .ok (.iload_n 2, 1) := by decide +kernel
theorem dX7_pass_38 : decode cX7_pass 38 = .ok (.iload_n 1, 1) := by decide +kernel
theorem dX7_pass_39 : decode cX7_pass 39 = .ok (.if_icmp .ge 20, 3) := by decide +kernel
theorem dX7_pass_42 : decode cX7_pass 42 = .ok (.aload_n 0, 1) := by decide +kernel
theorem dX7_pass_43 : decode cX7_pass 43 = .ok (.getfield 56, 3) := by decide +kernel
theorem dX7_pass_46 : decode cX7_pass 46 = .ok (.ifCond .ne 13, 3) := by decide +kernel
theorem dX7_pass_49 : decode cX7_pass 49 = .ok (.aload_n 0, 1) := by decide +kernel
theorem dX7_pass_50 : decode cX7_pass 50 = .ok (.invokevirtual 157, 3) := by decide +kernel
theorem dX7_pass_53 : decode cX7_pass 53 = .ok (.iinc 2 1, 3) := by decide +kernel
theorem dX7_pass_56 : decode cX7_pass 56 = .ok (.goto (-19), 3) := by decide +kernel
theorem dX7_pass_59 : decode cX7_pass 59 = .ok (.aload_n 0, 1) := by decide +kernel
theorem dX7_pass_60 : decode cX7_pass 60 = .ok (.getfield 56, 3) := by decide +kernel
theorem dX7_pass_63 : decode cX7_pass 63 = .ok (.ifCond .le 7, 3) := by decide +kernel
theorem dX7_pass_66 : decode cX7_pass 66 = .ok (.iconst 0, 1) := by decide +kernel
theorem dX7_pass_67 : decode cX7_pass 67 = .ok (.goto 7, 3) := by decide +kernel
theorem dX7_pass_70 : decode cX7_pass 70 = .ok (.aload_n 0, 1) := by decide +kernel
theorem dX7_pass_71 : decode cX7_pass 71 = .ok (.getfield 85, 3) := by decide +kernel
theorem dX7_pass_74 : decode cX7_pass 74 = .ok (.ireturn, 1) := by decide +kernel
theorem dX7_day_0 : decode cX7_day 0 = .ok (.aload_n 0, 1) := by decide +kernel
theorem dX7_day_1 : decode cX7_day 1 = .ok (.iconst 0, 1) := by decide +kernel
theorem dX7_day_2 : decode cX7_day 2 = .ok (.putfield 56, 3) := by decide +kernel
theorem dX7_day_5 : decode cX7_day 5 = .ok (.aload_n 0, 1) := by decide +kernel
theorem dX7_day_6 : decode cX7_day 6 = .ok (.getfield 141, 3) := by decide +kernel
theorem dX7_day_9 : decode cX7_day 9 = .ok (.ireturn, 1) := by decide +kernel
set_option maxRecDepth 20000 in
theorem ggX7_ofVessel_X7_isVessel : GoodIn wsX7_ofVessel wsX7_isVessel := goodIn_r _ [10, 11, 12, 13, 9, 14, 18, 19, 20, 21, 22, 23, 24, 25, 26, 27, 28, 29, 30, 31, 32, 33, 34, 35, 36, 37, 38, 39, 40, 41, 42, 43, 44, 45] (by decide +kernel) (by decide +kernel)
set_option maxRecDepth 20000 in
theorem gX7_ofVessel_X7_isVessel : GoodIn wsX7_ofVessel (wsV RX7 92 RX7 yX7_isVessel wsX7_isVessel) := goodIn_app (goodIn_of _ (by decide +kernel)) ggX7_ofVessel_X7_isVessel
set_option maxRecDepth 20000 in
theorem ggX7_ofVessel_X7_in : GoodIn wsX7_ofVessel wsX7_in := goodIn_r _ [14] (by decide +kernel) (by decide +kernel)
set_option maxRecDepth 20000 in
theorem gX7_ofVessel_X7_in : GoodIn wsX7_ofVessel (va_wsS RX7 62 yX7_in wsX7_in) := goodIn_app (goodIn_of _ (by decide +kernel)) ggX7_ofVessel_X7_in
set_option maxRecDepth 20000 in
theorem ggX7_ofVessel_X7_strengthOf : GoodIn wsX7_ofVessel wsX7_strengthOf := goodIn_r _ [17] (by decide +kernel) (by decide +kernel)
set_option maxRecDepth 20000 in
theorem gX7_ofVessel_X7_strengthOf : GoodIn wsX7_ofVessel (va_wsS RX7 66 yX7_strengthOf wsX7_strengthOf) := goodIn_app (goodIn_of _ (by decide +kernel)) ggX7_ofVessel_X7_strengthOf
theorem dX7_ofVessel_0 : decode cX7_ofVessel 0 = .ok (.aload_n 0, 1) := by decide +kernel
theorem dX7_ofVessel_1 : decode cX7_ofVessel 1 = .ok (.aload_n 0, 1) := by decide +kernel
theorem dX7_ofVessel_2 : decode cX7_ofVessel 2 = .ok (.iload_n 1, 1) := by decide +kernel
theorem dX7_ofVessel_3 : decode cX7_ofVessel 3 = .ok (.invokevirtual 92, 3) := by decide +kernel
theorem dX7_ofVessel_6 : decode cX7_ofVessel 6 = .ok (.ifCond .eq 16, 3) := by decide +kernel
theorem dX7_ofVessel_9 : decode cX7_ofVessel 9 = .ok (.iload_n 2, 1) := by decide +kernel
theorem dX7_ofVessel_10 : decode cX7_ofVessel 10 = .ok (.iconst 0, 1) := by decide +kernel
theorem dX7_ofVessel_11 : decode cX7_ofVessel 11 = .ok (.iconst 4, 1) := by decide +kernel
theorem dX7_ofVessel_12 : decode cX7_ofVessel 12 = .ok (.invokestatic 62, 3) := by decide +kernel
theorem dX7_ofVessel_15 : decode cX7_ofVessel 15 = .ok (.ifCond .eq 7, 3) := by decide +kernel
theorem dX7_ofVessel_18 : decode cX7_ofVessel 18 = .ok (.iconst 0, 1) := by decide +kernel
theorem dX7_ofVessel_19 : decode cX7_ofVessel 19 = .ok (.goto 4, 3) := by decide +kernel
theorem dX7_ofVessel_22 : decode cX7_ofVessel 22 = .ok (.iconst 1, 1) := by decide +kernel
theorem dX7_ofVessel_23 : decode cX7_ofVessel 23 = .ok (.putfield 56, 3) := by decide +kernel
theorem dX7_ofVessel_26 : decode cX7_ofVessel 26 = .ok (.aload_n 0, 1) := by decide +kernel
theorem dX7_ofVessel_27 : decode cX7_ofVessel 27 = .ok (.getfield 56, 3) := by decide +kernel
theorem dX7_ofVessel_30 : decode cX7_ofVessel 30 = .ok (.ifCond .le 5, 3) := by decide +kernel
theorem dX7_ofVessel_33 : decode cX7_ofVessel 33 = .ok (.iconst 0, 1) := by decide +kernel
theorem dX7_ofVessel_34 : decode cX7_ofVessel 34 = .ok (.ireturn, 1) := by decide +kernel
theorem dX7_ofVessel_35 : decode cX7_ofVessel 35 = .ok (.iload_n 2, 1) := by decide +kernel
theorem dX7_ofVessel_36 : decode cX7_ofVessel 36 = .ok (.tableswitch 69 0 3 #[32, 39, 46, 62], 32) := by decide +kernel
theorem dX7_ofVessel_68 : decode cX7_ofVessel 68 = .ok (.aload_n 0, 1) := by decide +kernel
theorem dX7_ofVessel_69 : decode cX7_ofVessel 69 = .ok (.getfield 16, 3) := by decide +kernel
theorem dX7_ofVessel_72 : decode cX7_ofVessel 72 = .ok (.iload_n 1, 1) := by decide +kernel
theorem dX7_ofVessel_73 : decode cX7_ofVessel 73 = .ok (.iaload, 1) := by decide +kernel
theorem dX7_ofVessel_74 : decode cX7_ofVessel 74 = .ok (.ireturn, 1) := by decide +kernel
theorem dX7_ofVessel_75 : decode cX7_ofVessel 75 = .ok (.aload_n 0, 1) := by decide +kernel
theorem dX7_ofVessel_76 : decode cX7_ofVessel 76 = .ok (.getfield 19, 3) := by decide +kernel
theorem dX7_ofVessel_79 : decode cX7_ofVessel 79 = .ok (.iload_n 1, 1) := by decide +kernel
theorem dX7_ofVessel_80 : decode cX7_ofVessel 80 = .ok (.iaload, 1) := by decide +kernel
theorem dX7_ofVessel_81 : decode cX7_ofVessel 81 = .ok (.ireturn, 1) := by decide +kernel
theorem dX7_ofVessel_82 : decode cX7_ofVessel 82 = .ok (.aload_n 0, 1) := by decide +kernel
theorem dX7_ofVessel_83 : decode cX7_ofVessel 83 = .ok (.getfield 19, 3) := by decide +kernel
theorem dX7_ofVessel_86 : decode cX7_ofVessel 86 = .ok (.iload_n 1, 1) := by decide +kernel
theorem dX7_ofVessel_87 : decode cX7_ofVessel 87 = .ok (.iaload, 1) := by decide +kernel
theorem dX7_ofVessel_88 : decode cX7_ofVessel 88 = .ok (.aload_n 0, 1) := by decide +kernel
theorem dX7_ofVessel_89 : decode cX7_ofVessel 89 = .ok (.getfield 16, 3) := by decide +kernel
theorem dX7_ofVessel_92 : decode cX7_ofVessel 92 = .ok (.iload_n 1, 1) := by decide +kernel
theorem dX7_ofVessel_93 : decode cX7_ofVessel 93 = .ok (.iaload, 1) := by decide +kernel
theorem dX7_ofVessel_94 : decode cX7_ofVessel 94 = .ok (.invokestatic 66, 3) := by decide +kernel
theorem dX7_ofVessel_97 : decode cX7_ofVessel 97 = .ok (.ireturn, 1) := by decide +kernel
theorem dX7_ofVessel_98 : decode cX7_ofVessel 98 = .ok (.aload_n 0, 1) := by decide +kernel
theorem dX7_ofVessel_99 : decode cX7_ofVessel 99 = .ok (.getfield 7, 3) := by decide +kernel
theorem dX7_ofVessel_102 : decode cX7_ofVessel 102 = .ok (.iload_n 1, 1) := by decide +kernel
theorem dX7_ofVessel_103 : decode cX7_ofVessel 103 = .ok (.iaload, 1) := by decide +kernel
theorem dX7_ofVessel_104 : decode cX7_ofVessel 104 = .ok (.ireturn, 1) := by decide +kernel
theorem dX7_ofVessel_105 : decode cX7_ofVessel 105 = .ok (.aload_n 0, 1) := by decide +kernel
theorem dX7_ofVessel_106 : decode cX7_ofVessel 106 = .ok (.getfield 13, 3) := by decide +kernel
theorem dX7_ofVessel_109 : decode cX7_ofVessel 109 = .ok (.iload_n 1, 1) := by decide +kernel
theorem dX7_ofVessel_110 : decode cX7_ofVessel 110 = .ok (.iaload, 1) := by decide +kernel
theorem dX7_ofVessel_111 : decode cX7_ofVessel 111 = .ok (.aload_n 0, 1) := by decide +kernel
theorem dX7_ofVessel_112 : decode cX7_ofVessel 112 = .ok (.getfield 16, 3) := by decide +kernel
theorem dX7_ofVessel_115 : decode cX7_ofVessel 115 = .ok (.iload_n 1, 1) := by decide +kernel
theorem dX7_ofVessel_116 : decode cX7_ofVessel 116 = .ok (.iaload, 1) := by decide +kernel
theorem dX7_ofVessel_117 : decode cX7_ofVessel 117 = .ok (.isub, 1) := by decide +kernel
theorem dX7_ofVessel_118 : decode cX7_ofVessel 118 = .ok (.ireturn, 1) := by decide +kernel
set_option maxRecDepth 20000 in
theorem ggX7_dropsAnew_X7_isVessel : GoodIn wsX7_dropsAnew wsX7_isVessel := goodIn_r _ [7, 8, 9, 10, 6, 11, 12, 13, 14, 15, 16, 17, 18, 19, 20, 21, 22, 23, 24, 25, 26, 27, 28, 29, 30, 31, 32, 33, 34, 35, 36, 37, 38, 39] (by decide +kernel) (by decide +kernel)
set_option maxRecDepth 20000 in
theorem gX7_dropsAnew_X7_isVessel : GoodIn wsX7_dropsAnew (wsV RX7 92 RX7 yX7_isVessel wsX7_isVessel) := goodIn_app (goodIn_of _ (by decide +kernel)) ggX7_dropsAnew_X7_isVessel
theorem dX7_dropsAnew_0 : decode cX7_dropsAnew 0 = .ok (.aload_n 0, 1) := by decide +kernel
theorem dX7_dropsAnew_1 : decode cX7_dropsAnew 1 = .ok (.aload_n 0, 1) := by decide +kernel
theorem dX7_dropsAnew_2 : decode cX7_dropsAnew 2 = .ok (.iload_n 1, 1) := by decide +kernel
theorem dX7_dropsAnew_3 : decode cX7_dropsAnew 3 = .ok (.invokevirtual 92, 3) := by decide +kernel
theorem dX7_dropsAnew_6 : decode cX7_dropsAnew 6 = .ok (.ifCond .eq 7, 3) := by decide +kernel
theorem dX7_dropsAnew_9 : decode cX7_dropsAnew 9 = .ok (.iconst 0, 1) := by decide +kernel
theorem dX7_dropsAnew_10 : decode cX7_dropsAnew 10 = .ok (.goto 4, 3) := by decide +kernel
theorem dX7_dropsAnew_13 : decode cX7_dropsAnew 13 = .ok (.iconst 1, 1) := by decide +kernel
theorem dX7_dropsAnew_14 : decode cX7_dropsAnew 14 = .ok (.putfield 56, 3) := by decide +kernel
theorem dX7_dropsAnew_17 : decode cX7_dropsAnew 17 = .ok (.aload_n 0, 1) := by decide +kernel
theorem dX7_dropsAnew_18 : decode cX7_dropsAnew 18 = .ok (.getfield 56, 3) := by decide +kernel
theorem dX7_dropsAnew_21 : decode cX7_dropsAnew 21 = .ok (.ifCond .le 7, 3) := by decide +kernel
theorem dX7_dropsAnew_24 : decode cX7_dropsAnew 24 = .ok (.iconst 0, 1) := by decide +kernel
theorem dX7_dropsAnew_25 : decode cX7_dropsAnew 25 = .ok (.goto 9, 3) := by decide +kernel
theorem dX7_dropsAnew_28 : decode cX7_dropsAnew 28 = .ok (.aload_n 0, 1) := by decide +kernel
theorem dX7_dropsAnew_29 : decode cX7_dropsAnew 29 = .ok (.getfield 19, 3) := by decide +kernel
theorem dX7_dropsAnew_32 : decode cX7_dropsAnew 32 = .ok (.iload_n 1, 1) := by decide +kernel
theorem dX7_dropsAnew_33 : decode cX7_dropsAnew 33 = .ok (.iaload, 1) := by decide +kernel
theorem dX7_dropsAnew_34 : decode cX7_dropsAnew 34 = .ok (.ireturn, 1) := by decide +kernel
set_option maxRecDepth 20000 in
theorem ggX7_ofMovement_X7_in : GoodIn wsX7_ofMovement wsX7_in := goodIn_r _ [10] (by decide +kernel) (by decide +kernel)
set_option maxRecDepth 20000 in
theorem gX7_ofMovement_X7_in : GoodIn wsX7_ofMovement (va_wsS RX7 62 yX7_in wsX7_in) := goodIn_app (goodIn_of _ (by decide +kernel)) ggX7_ofMovement_X7_in
theorem dX7_ofMovement_0 : decode cX7_ofMovement 0 = .ok (.aload_n 0, 1) := by decide +kernel
theorem dX7_ofMovement_1 : decode cX7_ofMovement 1 = .ok (.iload_n 1, 1) := by decide +kernel
theorem dX7_ofMovement_2 : decode cX7_ofMovement 2 = .ok (.iconst 0, 1) := by decide +kernel
theorem dX7_ofMovement_3 : decode cX7_ofMovement 3 = .ok (.aload_n 0, 1) := by decide +kernel
theorem dX7_ofMovement_4 : decode cX7_ofMovement 4 = .ok (.getfield 147, 3) := by decide +kernel
theorem dX7_ofMovement_7 : decode cX7_ofMovement 7 = .ok (.iconst 1, 1) := by decide +kernel
theorem dX7_ofMovement_8 : decode cX7_ofMovement 8 = .ok (.isub, 1) := by decide +kernel
theorem dX7_ofMovement_9 : decode cX7_ofMovement 9 = .ok (.invokestatic 62, 3) := by decide +kernel
theorem dX7_ofMovement_12 : decode cX7_ofMovement 12 = .ok (.ifCond .eq 16, 3) := by decide +kernel
theorem dX7_ofMovement_15 : decode cX7_ofMovement 15 = .ok (.iload_n 2, 1) := by decide +kernel
theorem dX7_ofMovement_16 : decode cX7_ofMovement 16 = .ok (.iconst 0, 1) := by decide +kernel
theorem dX7_ofMovement_17 : decode cX7_ofMovement 17 = .ok (.iconst 3, 1) := by decide +kernel
theorem dX7_ofMovement_18 : decode cX7_ofMovement 18 = .ok (.invokestatic 62, 3) := by decide +kernel
theorem dX7_ofMovement_21 : decode cX7_ofMovement 21 = .ok (.ifCond .eq 7, 3) := by decide +kernel
theorem dX7_ofMovement_24 : decode cX7_ofMovement 24 = .ok (.iconst 0, 1) := by decide +kernel
theorem dX7_ofMovement_25 : decode cX7_ofMovement 25 = .ok (.goto 4, 3) := by decide +kernel
theorem dX7_ofMovement_28 : decode cX7_ofMovement 28 = .ok (.iconst 1, 1) := by decide +kernel
theorem dX7_ofMovement_29 : decode cX7_ofMovement 29 = .ok (.putfield 56, 3) := by decide +kernel
theorem dX7_ofMovement_32 : decode cX7_ofMovement 32 = .ok (.aload_n 0, 1) := by decide +kernel
theorem dX7_ofMovement_33 : decode cX7_ofMovement 33 = .ok (.getfield 56, 3) := by decide +kernel
theorem dX7_ofMovement_36 : decode cX7_ofMovement 36 = .ok (.ifCond .le 5, 3) := by decide +kernel
theorem dX7_ofMovement_39 : decode cX7_ofMovement 39 = .ok (.iconst 0, 1) := by decide +kernel
theorem dX7_ofMovement_40 : decode cX7_ofMovement 40 = .ok (.ireturn, 1) := by decide +kernel
theorem dX7_ofMovement_41 : decode cX7_ofMovement 41 = .ok (.iload_n 2, 1) := by decide +kernel
theorem dX7_ofMovement_42 : decode cX7_ofMovement 42 = .ok (.ifCond .ne 12, 3) := by decide +kernel
theorem dX7_ofMovement_45 : decode cX7_ofMovement 45 = .ok (.aload_n 0, 1) := by decide +kernel
theorem dX7_ofMovement_46 : decode cX7_ofMovement 46 = .ok (.getfield 41, 3) := by decide +kernel
theorem dX7_ofMovement_49 : decode cX7_ofMovement 49 = .ok (.iload_n 1, 1) := by decide +kernel
theorem dX7_ofMovement_50 : decode cX7_ofMovement 50 = .ok (.iaload, 1) := by decide +kernel
theorem dX7_ofMovement_51 : decode cX7_ofMovement 51 = .ok (.goto 37, 3) := by decide +kernel
theorem dX7_ofMovement_54 : decode cX7_ofMovement 54 = .ok (.iload_n 2, 1) := by decide +kernel
theorem dX7_ofMovement_55 : decode cX7_ofMovement 55 = .ok (.iconst 1, 1) := by decide +kernel
theorem dX7_ofMovement_56 : decode cX7_ofMovement 56 = .ok (.if_icmp .ne 12, 3) := by decide +kernel
theorem dX7_ofMovement_59 : decode cX7_ofMovement 59 = .ok (.aload_n 0, 1) := by decide +kernel
theorem dX7_ofMovement_60 : decode cX7_ofMovement 60 = .ok (.getfield 47, 3) := by decide +kernel
theorem dX7_ofMovement_63 : decode cX7_ofMovement 63 = .ok (.iload_n 1, 1) := by decide +kernel
theorem dX7_ofMovement_64 : decode cX7_ofMovement 64 = .ok (.iaload, 1) := by decide +kernel
theorem dX7_ofMovement_65 : decode cX7_ofMovement 65 = .ok (.goto 23, 3) := by decide +kernel
theorem dX7_ofMovement_68 : decode cX7_ofMovement 68 = .ok (.iload_n 2, 1) := by decide +kernel
theorem dX7_ofMovement_69 : decode cX7_ofMovement 69 = .ok (.iconst 2, 1) := by decide +kernel
theorem dX7_ofMovement_70 : decode cX7_ofMovement 70 = .ok (.if_icmp .ne 12, 3) := by decide +kernel
theorem dX7_ofMovement_73 : decode cX7_ofMovement 73 = .ok (.aload_n 0, 1) := by decide +kernel
theorem dX7_ofMovement_74 : decode cX7_ofMovement 74 = .ok (.getfield 50, 3) := by decide +kernel
theorem dX7_ofMovement_77 : decode cX7_ofMovement 77 = .ok (.iload_n 1, 1) := by decide +kernel
theorem dX7_ofMovement_78 : decode cX7_ofMovement 78 = .ok (.iaload, 1) := by decide +kernel
theorem dX7_ofMovement_79 : decode cX7_ofMovement 79 = .ok (.goto 9, 3) := by decide +kernel
theorem dX7_ofMovement_82 : decode cX7_ofMovement 82 = .ok (.aload_n 0, 1) := by decide +kernel
theorem dX7_ofMovement_83 : decode cX7_ofMovement 83 = .ok (.getfield 53, 3) := by decide +kernel
theorem dX7_ofMovement_86 : decode cX7_ofMovement 86 = .ok (.iload_n 1, 1) := by decide +kernel
theorem dX7_ofMovement_87 : decode cX7_ofMovement 87 = .ok (.iaload, 1) := by decide +kernel
theorem dX7_ofMovement_88 : decode cX7_ofMovement 88 = .ok (.ireturn, 1) := by decide +kernel
theorem dX7_inVessels_0 : decode cX7_inVessels 0 = .ok (.iconst 0, 1) := by decide +kernel
theorem dX7_inVessels_1 : decode cX7_inVessels 1 = .ok (.istore_n 1, 1) := by decide +kernel
theorem dX7_inVessels_2 : decode cX7_inVessels 2 = .ok (.iconst 0, 1) := by decide +kernel
theorem dX7_inVessels_3 : decode cX7_inVessels 3 = .ok (.istore_n 2, 1) := by decide +kernel
theorem dX7_inVessels_4 : decode cX7_inVessels 4 = .ok (.iload_n 2, 1) := by decide +kernel
theorem dX7_inVessels_5 : decode cX7_inVessels 5 = .ok (.aload_n 0, 1) := by decide +kernel
theorem dX7_inVessels_6 : decode cX7_inVessels 6 = .ok (.getfield 59, 3) := by decide +kernel
theorem dX7_inVessels_9 : decode cX7_inVessels 9 = .ok (.if_icmp .ge 18, 3) := by decide +kernel
theorem dX7_inVessels_12 : decode cX7_inVessels 12 = .ok (.iload_n 1, 1) := by decide +kernel
theorem dX7_inVessels_13 : decode cX7_inVessels 13 = .ok (.aload_n 0, 1) := by decide +kernel
theorem dX7_inVessels_14 : decode cX7_inVessels 14 = .ok (.getfield 19, 3) := by decide +kernel
theorem dX7_inVessels_17 : decode cX7_inVessels 17 = .ok (.iload_n 2, 1) := by decide +kernel
theorem dX7_inVessels_18 : decode cX7_inVessels 18 = .ok (.iaload, 1) := by decide +kernel
theorem dX7_inVessels_19 : decode cX7_inVessels 19 = .ok (.iadd, 1) := by decide +kernel
theorem dX7_inVessels_20 : decode cX7_inVessels 20 = .ok (.istore_n 1, 1) := by decide +kernel
theorem dX7_inVessels_21 : decode cX7_inVessels 21 = .ok (.iinc 2 1, 3) := by decide +kernel
theorem dX7_inVessels_24 : decode cX7_inVessels 24 = .ok (.goto (-20), 3) := by decide +kernel
theorem dX7_inVessels_27 : decode cX7_inVessels 27 = .ok (.iload_n 1, 1) := by decide +kernel
theorem dX7_inVessels_28 : decode cX7_inVessels 28 = .ok (.ireturn, 1) := by decide +kernel
set_option maxRecDepth 20000 in
theorem ggX7_ledger_X7_in : GoodIn wsX7_ledger wsX7_in := goodIn_r _ [6] (by decide +kernel) (by decide +kernel)
set_option maxRecDepth 20000 in
theorem gX7_ledger_X7_in : GoodIn wsX7_ledger (va_wsS RX7 62 yX7_in wsX7_in) := goodIn_app (goodIn_of _ (by decide +kernel)) ggX7_ledger_X7_in
set_option maxRecDepth 20000 in
theorem ggX7_ledger_X7_inVessels : GoodIn wsX7_ledger wsX7_inVessels := goodIn_r _ [10, 11, 12, 26, 27, 28, 29, 30, 31, 32, 33, 34, 35, 36, 37, 38, 39, 40, 41, 42, 43, 44, 45, 46, 47, 48, 49, 50, 51, 52, 53] (by decide +kernel) (by decide +kernel)
set_option maxRecDepth 20000 in
theorem gX7_ledger_X7_inVessels : GoodIn wsX7_ledger (wsV RX7 160 RX7 yX7_inVessels wsX7_inVessels) := goodIn_app (goodIn_of _ (by decide +kernel)) ggX7_ledger_X7_inVessels
set_option maxRecDepth 20000 in
theorem ggX7_ledger_X7_moving : GoodIn wsX7_ledger wsX7_moving := goodIn_r _ [16, 17, 18, 19, 26, 27, 28, 29, 30, 31, 32, 33, 34, 35, 36, 37, 38, 39, 40, 41, 42, 43, 44, 45, 46, 47, 48, 49, 50, 51, 52, 53] (by decide +kernel) (by decide +kernel)
set_option maxRecDepth 20000 in
theorem gX7_ledger_X7_moving : GoodIn wsX7_ledger (wsV RX7 150 RX7 yX7_moving wsX7_moving) := goodIn_app (goodIn_of _ (by decide +kernel)) ggX7_ledger_X7_moving
set_option maxRecDepth 20000 in
theorem ggX7_ledger_X7_inLots : GoodIn wsX7_ledger wsX7_inLots := goodIn_r _ [23, 24, 25, 26, 27, 28, 29, 30, 31, 32, 33, 34, 35, 36, 37, 38, 39, 40, 41, 42, 43, 44, 45, 46, 47, 48, 49, 50, 51, 52, 53] (by decide +kernel) (by decide +kernel)
set_option maxRecDepth 20000 in
theorem gX7_ledger_X7_inLots : GoodIn wsX7_ledger (wsV RX7 136 RX7 yX7_inLots wsX7_inLots) := goodIn_app (goodIn_of _ (by decide +kernel)) ggX7_ledger_X7_inLots
theorem dX7_ledger_0 : decode cX7_ledger 0 = .ok (.aload_n 0, 1) := by decide +kernel
theorem dX7_ledger_1 : decode cX7_ledger 1 = .ok (.iload_n 1, 1) := by decide +kernel
theorem dX7_ledger_2 : decode cX7_ledger 2 = .ok (.iconst 0, 1) := by decide +kernel
theorem dX7_ledger_3 : decode cX7_ledger 3 = .ok (.bipush 7, 2) := by decide +kernel
theorem dX7_ledger_5 : decode cX7_ledger 5 = .ok (.invokestatic 62, 3) := by decide +kernel
theorem dX7_ledger_8 : decode cX7_ledger 8 = .ok (.ifCond .eq 7, 3) := by decide +kernel
theorem dX7_ledger_11 : decode cX7_ledger 11 = .ok (.iconst 0, 1) := by decide +kernel
theorem dX7_ledger_12 : decode cX7_ledger 12 = .ok (.goto 4, 3) := by decide +kernel
theorem dX7_ledger_15 : decode cX7_ledger 15 = .ok (.iconst 1, 1) := by decide +kernel
theorem dX7_ledger_16 : decode cX7_ledger 16 = .ok (.putfield 56, 3) := by decide +kernel
theorem dX7_ledger_19 : decode cX7_ledger 19 = .ok (.aload_n 0, 1) := by decide +kernel
theorem dX7_ledger_20 : decode cX7_ledger 20 = .ok (.getfield 56, 3) := by decide +kernel
theorem dX7_ledger_23 : decode cX7_ledger 23 = .ok (.ifCond .le 5, 3) := by decide +kernel
theorem dX7_ledger_26 : decode cX7_ledger 26 = .ok (.iconst 0, 1) := by decide +kernel
theorem dX7_ledger_27 : decode cX7_ledger 27 = .ok (.ireturn, 1) := by decide +kernel
theorem dX7_ledger_28 : decode cX7_ledger 28 = .ok (.iload_n 1, 1) := by decide +kernel
theorem dX7_ledger_29 : decode cX7_ledger 29 = .ok (.iconst 1, 1) := by decide +kernel
theorem dX7_ledger_30 : decode cX7_ledger 30 = .ok (.if_icmp .ne 10, 3) := by decide +kernel
theorem dX7_ledger_33 : decode cX7_ledger 33 = .ok (.aload_n 0, 1) := by decide +kernel
theorem dX7_ledger_34 : decode cX7_ledger 34 = .ok (.invokevirtual 160, 3) := by decide +kernel
theorem dX7_ledger_37 : decode cX7_ledger 37 = .ok (.goto 33, 3) := by decide +kernel
theorem dX7_ledger_40 : decode cX7_ledger 40 = .ok (.iload_n 1, 1) := by decide +kernel
theorem dX7_ledger_41 : decode cX7_ledger 41 = .ok (.iconst 2, 1) := by decide +kernel
theorem dX7_ledger_42 : decode cX7_ledger 42 = .ok (.if_icmp .ne 10, 3) := by decide +kernel
theorem dX7_ledger_45 : decode cX7_ledger 45 = .ok (.aload_n 0, 1) := by decide +kernel
theorem dX7_ledger_46 : decode cX7_ledger 46 = .ok (.invokevirtual 150, 3) := by decide +kernel
theorem dX7_ledger_49 : decode cX7_ledger 49 = .ok (.goto 21, 3) := by decide +kernel
theorem dX7_ledger_52 : decode cX7_ledger 52 = .ok (.iload_n 1, 1) := by decide +kernel
theorem dX7_ledger_53 : decode cX7_ledger 53 = .ok (.iconst 3, 1) := by decide +kernel
theorem dX7_ledger_54 : decode cX7_ledger 54 = .ok (.if_icmp .ne 10, 3) := by decide +kernel
theorem dX7_ledger_57 : decode cX7_ledger 57 = .ok (.aload_n 0, 1) := by decide +kernel
theorem dX7_ledger_58 : decode cX7_ledger 58 = .ok (.invokevirtual 136, 3) := by decide +kernel
theorem dX7_ledger_61 : decode cX7_ledger 61 = .ok (.goto 9, 3) := by decide +kernel
theorem dX7_ledger_64 : decode cX7_ledger 64 = .ok (.aload_n 0, 1) := by decide +kernel
theorem dX7_ledger_65 : decode cX7_ledger 65 = .ok (.getfield 25, 3) := by decide +kernel
theorem dX7_ledger_68 : decode cX7_ledger 68 = .ok (.iload_n 1, 1) := by decide +kernel
theorem dX7_ledger_69 : decode cX7_ledger 69 = .ok (.iaload, 1) := by decide +kernel
theorem dX7_ledger_70 : decode cX7_ledger 70 = .ok (.ireturn, 1) := by decide +kernel
set_option maxRecDepth 20000 in
theorem ggX7_duty_X7_in : GoodIn wsX7_duty wsX7_in := goodIn_r _ [13] (by decide +kernel) (by decide +kernel)
set_option maxRecDepth 20000 in
theorem gX7_duty_X7_in : GoodIn wsX7_duty (va_wsS RX7 62 yX7_in wsX7_in) := goodIn_app (goodIn_of _ (by decide +kernel)) ggX7_duty_X7_in
set_option maxRecDepth 20000 in
theorem ggX7_duty_X7_moving : GoodIn wsX7_duty wsX7_moving := goodIn_r _ [17, 18, 19, 20, 26, 27, 28, 29, 30, 31, 32, 33, 34, 35, 36, 37, 38, 39, 40, 41, 42, 43, 44, 45, 46, 47, 48, 49, 50, 51, 52, 53] (by decide +kernel) (by decide +kernel)
set_option maxRecDepth 20000 in
theorem gX7_duty_X7_moving : GoodIn wsX7_duty (wsV RX7 150 RX7 yX7_moving wsX7_moving) := goodIn_app (goodIn_of _ (by decide +kernel)) ggX7_duty_X7_moving
set_option maxRecDepth 20000 in
theorem ggX7_duty_X7_dutyFor : GoodIn wsX7_duty wsX7_dutyFor := goodIn_r _ [24, 25] (by decide +kernel) (by decide +kernel)
set_option maxRecDepth 20000 in
theorem gX7_duty_X7_dutyFor : GoodIn wsX7_duty (wsV RX7 82 RX7 yX7_dutyFor wsX7_dutyFor) := goodIn_app (goodIn_of _ (by decide +kernel)) ggX7_duty_X7_dutyFor
theorem dX7_duty_0 : decode cX7_duty 0 = .ok (.aload_n 0, 1) := by decide +kernel
theorem dX7_duty_1 : decode cX7_duty 1 = .ok (.iload_n 1, 1) := by decide +kernel
theorem dX7_duty_2 : decode cX7_duty 2 = .ok (.iconst 0, 1) := by decide +kernel
theorem dX7_duty_3 : decode cX7_duty 3 = .ok (.iconst 5, 1) := by decide +kernel
theorem dX7_duty_4 : decode cX7_duty 4 = .ok (.invokestatic 62, 3) := by decide +kernel
theorem dX7_duty_7 : decode cX7_duty 7 = .ok (.ifCond .eq 7, 3) := by decide +kernel
theorem dX7_duty_10 : decode cX7_duty 10 = .ok (.iconst 0, 1) := by decide +kernel
theorem dX7_duty_11 : decode cX7_duty 11 = .ok (.goto 4, 3) := by decide +kernel
theorem dX7_duty_14 : decode cX7_duty 14 = .ok (.iconst 1, 1) := by decide +kernel
theorem dX7_duty_15 : decode cX7_duty 15 = .ok (.putfield 56, 3) := by decide +kernel
theorem dX7_duty_18 : decode cX7_duty 18 = .ok (.aload_n 0, 1) := by decide +kernel
theorem dX7_duty_19 : decode cX7_duty 19 = .ok (.getfield 56, 3) := by decide +kernel
theorem dX7_duty_22 : decode cX7_duty 22 = .ok (.ifCond .le 5, 3) := by decide +kernel
theorem dX7_duty_25 : decode cX7_duty 25 = .ok (.iconst 0, 1) := by decide +kernel
theorem dX7_duty_26 : decode cX7_duty 26 = .ok (.ireturn, 1) := by decide +kernel
theorem dX7_duty_27 : decode cX7_duty 27 = .ok (.iload_n 1, 1) := by decide +kernel
theorem dX7_duty_28 : decode cX7_duty 28 = .ok (.tableswitch 76 0 4 #[36, 41, 46, 63, 71], 36) := by decide +kernel
theorem dX7_duty_64 : decode cX7_duty 64 = .ok (.aload_n 0, 1) := by decide +kernel
theorem dX7_duty_65 : decode cX7_duty 65 = .ok (.getfield 85, 3) := by decide +kernel
theorem dX7_duty_68 : decode cX7_duty 68 = .ok (.ireturn, 1) := by decide +kernel
theorem dX7_duty_69 : decode cX7_duty 69 = .ok (.aload_n 0, 1) := by decide +kernel
theorem dX7_duty_70 : decode cX7_duty 70 = .ok (.getfield 28, 3) := by decide +kernel
theorem dX7_duty_73 : decode cX7_duty 73 = .ok (.ireturn, 1) := by decide +kernel
theorem dX7_duty_74 : decode cX7_duty 74 = .ok (.aload_n 0, 1) := by decide +kernel
theorem dX7_duty_75 : decode cX7_duty 75 = .ok (.getfield 32, 3) := by decide +kernel
theorem dX7_duty_78 : decode cX7_duty 78 = .ok (.iconst (-1), 1) := by decide +kernel
theorem dX7_duty_79 : decode cX7_duty 79 = .ok (.if_icmp .ne 7, 3) := by decide +kernel
theorem dX7_duty_82 : decode cX7_duty 82 = .ok (.iconst (-1), 1) := by decide +kernel
theorem dX7_duty_83 : decode cX7_duty 83 = .ok (.goto 7, 3) := by decide +kernel
theorem dX7_duty_86 : decode cX7_duty 86 = .ok (.aload_n 0, 1) := by decide +kernel
theorem dX7_duty_87 : decode cX7_duty 87 = .ok (.getfield 122, 3) := by decide +kernel
theorem dX7_duty_90 : decode cX7_duty 90 = .ok (.ireturn, 1) := by decide +kernel
theorem dX7_duty_91 : decode cX7_duty 91 = .ok (.ldc 128, 2) := by decide +kernel
theorem dX7_duty_93 : decode cX7_duty 93 = .ok (.aload_n 0, 1) := by decide +kernel
theorem dX7_duty_94 : decode cX7_duty 94 = .ok (.getfield 129, 3) := by decide +kernel
theorem dX7_duty_97 : decode cX7_duty 97 = .ok (.isub, 1) := by decide +kernel
theorem dX7_duty_98 : decode cX7_duty 98 = .ok (.ireturn, 1) := by decide +kernel
theorem dX7_duty_99 : decode cX7_duty 99 = .ok (.aload_n 0, 1) := by decide +kernel
theorem dX7_duty_100 : decode cX7_duty 100 = .ok (.getfield 133, 3) := by decide +kernel
theorem dX7_duty_103 : decode cX7_duty 103 = .ok (.ireturn, 1) := by decide +kernel
theorem dX7_duty_104 : decode cX7_duty 104 = .ok (.aload_n 0, 1) := by decide +kernel
theorem dX7_duty_105 : decode cX7_duty 105 = .ok (.getfield 153, 3) := by decide +kernel
theorem dX7_duty_108 : decode cX7_duty 108 = .ok (.aload_n 0, 1) := by decide +kernel
theorem dX7_duty_109 : decode cX7_duty 109 = .ok (.aload_n 0, 1) := by decide +kernel
theorem dX7_duty_110 : decode cX7_duty 110 = .ok (.invokevirtual 150, 3) := by decide +kernel
theorem dX7_duty_113 : decode cX7_duty 113 = .ok (.aload_n 0, 1) := by decide +kernel
theorem dX7_duty_114 : decode cX7_duty 114 = .ok (.getfield 28, 3) := by decide +kernel
theorem dX7_duty_117 : decode cX7_duty 117 = .ok (.invokevirtual 82, 3) := by decide +kernel
theorem dX7_duty_120 : decode cX7_duty 120 = .ok (.isub, 1) := by decide +kernel
theorem dX7_duty_121 : decode cX7_duty 121 = .ok (.ireturn, 1) := by decide +kernel
