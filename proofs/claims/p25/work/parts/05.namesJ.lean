theorem dJ9_abs_0f7a4_0 : decode cJ9_abs_0f7a4 0 = .ok (.iload_n 0, 1) := by decide +kernel
theorem dJ9_abs_0f7a4_1 : decode cJ9_abs_0f7a4 1 = .ok (.ifCond .ge 8, 3) := by decide +kernel
theorem dJ9_abs_0f7a4_4 : decode cJ9_abs_0f7a4 4 = .ok (.iload_n 0, 1) := by decide +kernel
theorem dJ9_abs_0f7a4_5 : decode cJ9_abs_0f7a4 5 = .ok (.ineg, 1) := by decide +kernel
theorem dJ9_abs_0f7a4_6 : decode cJ9_abs_0f7a4 6 = .ok (.goto 4, 3) := by decide +kernel
theorem dJ9_abs_0f7a4_9 : decode cJ9_abs_0f7a4 9 = .ok (.iload_n 0, 1) := by decide +kernel
theorem dJ9_abs_0f7a4_10 : decode cJ9_abs_0f7a4 10 = .ok (.ireturn, 1) := by decide +kernel
theorem dJ9_max_7cf53_0 : decode cJ9_max_7cf53 0 = .ok (.iload_n 0, 1) := by decide +kernel
theorem dJ9_max_7cf53_1 : decode cJ9_max_7cf53 1 = .ok (.iload_n 1, 1) := by decide +kernel
theorem dJ9_max_7cf53_2 : decode cJ9_max_7cf53 2 = .ok (.if_icmp .lt 7, 3) := by decide +kernel
theorem dJ9_max_7cf53_5 : decode cJ9_max_7cf53 5 = .ok (.iload_n 0, 1) := by decide +kernel
theorem dJ9_max_7cf53_6 : decode cJ9_max_7cf53 6 = .ok (.goto 4, 3) := by decide +kernel
theorem dJ9_max_7cf53_9 : decode cJ9_max_7cf53 9 = .ok (.iload_n 1, 1) := by decide +kernel
theorem dJ9_max_7cf53_10 : decode cJ9_max_7cf53 10 = .ok (.ireturn, 1) := by decide +kernel
theorem dJ9_min_7cf53_0 : decode cJ9_min_7cf53 0 = .ok (.iload_n 0, 1) := by decide +kernel
theorem dJ9_min_7cf53_1 : decode cJ9_min_7cf53 1 = .ok (.iload_n 1, 1) := by decide +kernel
theorem dJ9_min_7cf53_2 : decode cJ9_min_7cf53 2 = .ok (.if_icmp .gt 7, 3) := by decide +kernel
theorem dJ9_min_7cf53_5 : decode cJ9_min_7cf53 5 = .ok (.iload_n 0, 1) := by decide +kernel
theorem dJ9_min_7cf53_6 : decode cJ9_min_7cf53 6 = .ok (.goto 4, 3) := by decide +kernel
theorem dJ9_min_7cf53_9 : decode cJ9_min_7cf53 9 = .ok (.iload_n 1, 1) := by decide +kernel
theorem dJ9_min_7cf53_10 : decode cJ9_min_7cf53 10 = .ok (.ireturn, 1) := by decide +kernel
theorem dJxa1e45_init_da8c8_0 : decode cJxa1e45_init_da8c8 0 = .ok (.aload_n 0, 1) := by decide +kernel
theorem dJxa1e45_init_da8c8_1 : decode cJxa1e45_init_da8c8 1 = .ok (.invokespecial 1, 3) := by decide +kernel
theorem dJxa1e45_init_da8c8_4 : decode cJxa1e45_init_da8c8 4 = .ok (.return_, 1) := by decide +kernel
set_option maxRecDepth 20000 in
theorem ggJxc12de_init_da8c8_Jxa1e45_init_da8c8 : GoodIn wsJxc12de_init_da8c8 wsJxa1e45_init_da8c8 := goodIn_r _ [5, 6, 7, 8] (by decide +kernel) (by decide +kernel)
set_option maxRecDepth 20000 in
theorem gJxc12de_init_da8c8_Jxa1e45_init_da8c8 : GoodIn wsJxc12de_init_da8c8 (wsJxa1e45_init_da8c8) := ggJxc12de_init_da8c8_Jxa1e45_init_da8c8
theorem dJxc12de_init_da8c8_0 : decode cJxc12de_init_da8c8 0 = .ok (.aload_n 0, 1) := by decide +kernel
theorem dJxc12de_init_da8c8_1 : decode cJxc12de_init_da8c8 1 = .ok (.invokespecial 1, 3) := by decide +kernel
theorem dJxc12de_init_da8c8_4 : decode cJxc12de_init_da8c8 4 = .ok (.aload_n 0, 1) := by decide +kernel
theorem dJxc12de_init_da8c8_5 : decode cJxc12de_init_da8c8 5 = .ok (.iconst 0, 1) := by decide +kernel
theorem dJxc12de_init_da8c8_6 : decode cJxc12de_init_da8c8 6 = .ok (.putfield 7, 3) := by decide +kernel
theorem dJxc12de_init_da8c8_9 : decode cJxc12de_init_da8c8 9 = .ok (.return_, 1) := by decide +kernel
set_option maxRecDepth 20000 in
theorem ggJx4a65c_init_da8c8_Jxc12de_init_da8c8 : GoodIn wsJx4a65c_init_da8c8 wsJxc12de_init_da8c8 := goodIn_r _ [6, 7, 8, 9, 10, 11, 12, 13, 14, 15, 16, 17] (by decide +kernel) (by decide +kernel)
set_option maxRecDepth 20000 in
theorem gJx4a65c_init_da8c8_Jxc12de_init_da8c8 : GoodIn wsJx4a65c_init_da8c8 (wsJxc12de_init_da8c8) := ggJx4a65c_init_da8c8_Jxc12de_init_da8c8
theorem dJx4a65c_init_da8c8_0 : decode cJx4a65c_init_da8c8 0 = .ok (.aload_n 0, 1) := by decide +kernel
theorem dJx4a65c_init_da8c8_1 : decode cJx4a65c_init_da8c8 1 = .ok (.invokespecial 1, 3) := by decide +kernel
theorem dJx4a65c_init_da8c8_4 : decode cJx4a65c_init_da8c8 4 = .ok (.aload_n 0, 1) := by decide +kernel
theorem dJx4a65c_init_da8c8_5 : decode cJx4a65c_init_da8c8 5 = .ok (.getstatic 39, 3) := by decide +kernel
theorem dJx4a65c_init_da8c8_8 : decode cJx4a65c_init_da8c8 8 = .ok (.putfield 9, 3) := by decide +kernel
theorem dJx4a65c_init_da8c8_11 : decode cJx4a65c_init_da8c8 11 = .ok (.return_, 1) := by decide +kernel
set_option maxRecDepth 20000 in
theorem ggJx4a65c_grow_92f84_J8_newLength_cabcc : GoodIn wsJx4a65c_grow_92f84 wsJ8_newLength_cabcc := goodIn_r _ [11, 12, 4, 5, 6, 13, 14, 15, 10, 16] (by decide +kernel) (by decide +kernel)
set_option maxRecDepth 20000 in
theorem gJx4a65c_grow_92f84_J8_newLength_cabcc : GoodIn wsJx4a65c_grow_92f84 (va_wsS RJx4a65c 73 yJ8_newLength_cabcc wsJ8_newLength_cabcc) := goodIn_app (goodIn_of _ (by decide +kernel)) ggJx4a65c_grow_92f84_J8_newLength_cabcc
set_option maxRecDepth 20000 in
theorem ggJx4a65c_grow_92f84_J7_copyOf_1904c : GoodIn wsJx4a65c_grow_92f84 wsJ7_copyOf_1904c := goodIn_r _ [20, 21, 22, 23, 24, 25, 26, 19, 27, 28, 29, 30, 31, 5, 32, 33, 34, 35, 36] (by decide +kernel) (by decide +kernel)
set_option maxRecDepth 20000 in
theorem gJx4a65c_grow_92f84_J7_copyOf_1904c : GoodIn wsJx4a65c_grow_92f84 (va_wsS RJx4a65c 66 yJ7_copyOf_1904c wsJ7_copyOf_1904c) := goodIn_app (goodIn_of _ (by decide +kernel)) ggJx4a65c_grow_92f84_J7_copyOf_1904c
theorem dJx4a65c_grow_92f84_0 : decode cJx4a65c_grow_92f84 0 = .ok (.aload_n 0, 1) := by decide +kernel
theorem dJx4a65c_grow_92f84_1 : decode cJx4a65c_grow_92f84 1 = .ok (.getfield 9, 3) := by decide +kernel
theorem dJx4a65c_grow_92f84_4 : decode cJx4a65c_grow_92f84 4 = .ok (.arraylength, 1) := by decide +kernel
theorem dJx4a65c_grow_92f84_5 : decode cJx4a65c_grow_92f84 5 = .ok (.istore_n 2, 1) := by decide +kernel
theorem dJx4a65c_grow_92f84_6 : decode cJx4a65c_grow_92f84 6 = .ok (.iload_n 2, 1) := by decide +kernel
theorem dJx4a65c_grow_92f84_7 : decode cJx4a65c_grow_92f84 7 = .ok (.ifCond .gt 13, 3) := by decide +kernel
theorem dJx4a65c_grow_92f84_10 : decode cJx4a65c_grow_92f84 10 = .ok (.aload_n 0, 1) := by decide +kernel
theorem dJx4a65c_grow_92f84_11 : decode cJx4a65c_grow_92f84 11 = .ok (.getfield 9, 3) := by decide +kernel
theorem dJx4a65c_grow_92f84_14 : decode cJx4a65c_grow_92f84 14 = .ok (.getstatic 39, 3) := by decide +kernel
theorem dJx4a65c_grow_92f84_17 : decode cJx4a65c_grow_92f84 17 = .ok (.if_acmp .eq 28, 3) := by decide +kernel
theorem dJx4a65c_grow_92f84_20 : decode cJx4a65c_grow_92f84 20 = .ok (.iload_n 2, 1) := by decide +kernel
theorem dJx4a65c_grow_92f84_21 : decode cJx4a65c_grow_92f84 21 = .ok (.iload_n 1, 1) := by decide +kernel
theorem dJx4a65c_grow_92f84_22 : decode cJx4a65c_grow_92f84 22 = .ok (.iload_n 2, 1) := by decide +kernel
theorem dJx4a65c_grow_92f84_23 : decode cJx4a65c_grow_92f84 23 = .ok (.isub, 1) := by decide +kernel
theorem dJx4a65c_grow_92f84_24 : decode cJx4a65c_grow_92f84 24 = .ok (.iload_n 2, 1) := by decide +kernel
theorem dJx4a65c_grow_92f84_25 : decode cJx4a65c_grow_92f84 25 = .ok (.iconst 1, 1) := by decide +kernel
theorem dJx4a65c_grow_92f84_26 : decode cJx4a65c_grow_92f84 26 = .ok (.ishr, 1) := by decide +kernel
theorem dJx4a65c_grow_92f84_27 : decode cJx4a65c_grow_92f84 27 = .ok (.invokestatic 73, 3) := by decide +kernel
theorem dJx4a65c_grow_92f84_30 : decode cJx4a65c_grow_92f84 30 = .ok (.istore_n 3, 1) := by decide +kernel
theorem dJx4a65c_grow_92f84_31 : decode cJx4a65c_grow_92f84 31 = .ok (.aload_n 0, 1) := by decide +kernel
theorem dJx4a65c_grow_92f84_32 : decode cJx4a65c_grow_92f84 32 = .ok (.aload_n 0, 1) := by decide +kernel
theorem dJx4a65c_grow_92f84_33 : decode cJx4a65c_grow_92f84 33 = .ok (.getfield 9, 3) := by decide +kernel
theorem dJx4a65c_grow_92f84_36 : decode cJx4a65c_grow_92f84 36 = .ok (.iload_n 3, 1) := by decide +kernel
theorem dJx4a65c_grow_92f84_37 : decode cJx4a65c_grow_92f84 37 = .ok (.invokestatic 66, 3) := by decide +kernel
theorem dJx4a65c_grow_92f84_40 : decode cJx4a65c_grow_92f84 40 = .ok (.dup_x1, 1) := by decide +kernel
theorem dJx4a65c_grow_92f84_41 : decode cJx4a65c_grow_92f84 41 = .ok (.putfield 9, 3) := by decide +kernel
theorem dJx4a65c_grow_92f84_44 : decode cJx4a65c_grow_92f84 44 = .ok (.areturn, 1) := by decide +kernel
theorem dJx4a65c_grow_92f84_45 : decode cJx4a65c_grow_92f84 45 = .ok (.aload_n 0, 1) := by decide +kernel
theorem dJx4a65c_grow_92f84_46 : decode cJx4a65c_grow_92f84 46 = .ok (.bipush 10, 2) := by decide +kernel
theorem dJx4a65c_grow_92f84_48 : decode cJx4a65c_grow_92f84 48 = .ok (.iload_n 1, 1) := by decide +kernel
theorem dJx4a65c_grow_92f84_49 : decode cJx4a65c_grow_92f84 49 = .ok (.invokestatic 79, 3) := by decide +kernel
theorem dJx4a65c_grow_92f84_52 : decode cJx4a65c_grow_92f84 52 = .ok (.anewarray 7, 3) := by decide +kernel
theorem dJx4a65c_grow_92f84_55 : decode cJx4a65c_grow_92f84 55 = .ok (.dup_x1, 1) := by decide +kernel
theorem dJx4a65c_grow_92f84_56 : decode cJx4a65c_grow_92f84 56 = .ok (.putfield 9, 3) := by decide +kernel
theorem dJx4a65c_grow_92f84_59 : decode cJx4a65c_grow_92f84 59 = .ok (.areturn, 1) := by decide +kernel
set_option maxRecDepth 20000 in
theorem ggJx4a65c_grow_d5877_Jx4a65c_grow_92f84 : GoodIn wsJx4a65c_grow_d5877 wsJx4a65c_grow_92f84 := goodIn_r _ [6, 7, 8, 9, 10, 11, 12, 13, 14, 15, 16, 17, 18, 19, 20, 21, 22, 23, 24, 25, 26, 27, 28, 29, 30, 31, 32, 33, 34, 35, 36, 37, 38, 39, 40, 41, 42, 43, 44, 45] (by decide +kernel) (by decide +kernel)
set_option maxRecDepth 20000 in
theorem gJx4a65c_grow_d5877_Jx4a65c_grow_92f84 : GoodIn wsJx4a65c_grow_d5877 (wsV RJx4a65c 69 RJx4a65c yJx4a65c_grow_92f84 wsJx4a65c_grow_92f84) := goodIn_app (goodIn_of _ (by decide +kernel)) ggJx4a65c_grow_d5877_Jx4a65c_grow_92f84
theorem dJx4a65c_grow_d5877_0 : decode cJx4a65c_grow_d5877 0 = .ok (.aload_n 0, 1) := by decide +kernel
theorem dJx4a65c_grow_d5877_1 : decode cJx4a65c_grow_d5877 1 = .ok (.aload_n 0, 1) := by decide +kernel
theorem dJx4a65c_grow_d5877_2 : decode cJx4a65c_grow_d5877 2 = .ok (.getfield 48, 3) := by decide +kernel
theorem dJx4a65c_grow_d5877_5 : decode cJx4a65c_grow_d5877 5 = .ok (.iconst 1, 1) := by decide +kernel
theorem dJx4a65c_grow_d5877_6 : decode cJx4a65c_grow_d5877 6 = .ok (.iadd, 1) := by decide +kernel
theorem dJx4a65c_grow_d5877_7 : decode cJx4a65c_grow_d5877 7 = .ok (.invokevirtual 69, 3) := by decide +kernel
theorem dJx4a65c_grow_d5877_10 : decode cJx4a65c_grow_d5877 10 = .ok (.areturn, 1) := by decide +kernel
theorem dJx4a65c_size_8abf5_0 : decode cJx4a65c_size_8abf5 0 = .ok (.aload_n 0, 1) := by decide +kernel
theorem dJx4a65c_size_8abf5_1 : decode cJx4a65c_size_8abf5 1 = .ok (.getfield 48, 3) := by decide +kernel
theorem dJx4a65c_size_8abf5_4 : decode cJx4a65c_size_8abf5 4 = .ok (.ireturn, 1) := by decide +kernel
theorem dJx4a65c_elementData_915e3_0 : decode cJx4a65c_elementData_915e3 0 = .ok (.aload_n 0, 1) := by decide +kernel
theorem dJx4a65c_elementData_915e3_1 : decode cJx4a65c_elementData_915e3 1 = .ok (.getfield 9, 3) := by decide +kernel
theorem dJx4a65c_elementData_915e3_4 : decode cJx4a65c_elementData_915e3 4 = .ok (.iload_n 1, 1) := by decide +kernel
theorem dJx4a65c_elementData_915e3_5 : decode cJx4a65c_elementData_915e3 5 = .ok (.aaload, 1) := by decide +kernel
theorem dJx4a65c_elementData_915e3_6 : decode cJx4a65c_elementData_915e3 6 = .ok (.areturn, 1) := by decide +kernel
set_option maxRecDepth 20000 in
theorem ggJx4a65c_get_915e3_J15_checkIndex_7cf53 : GoodIn wsJx4a65c_get_915e3 wsJ15_checkIndex_7cf53 := goodIn_r _ [5, 6, 7, 8, 9] (by decide +kernel) (by decide +kernel)
set_option maxRecDepth 20000 in
theorem gJx4a65c_get_915e3_J15_checkIndex_7cf53 : GoodIn wsJx4a65c_get_915e3 (va_wsS RJx4a65c 118 yJ15_checkIndex_7cf53 wsJ15_checkIndex_7cf53) := goodIn_app (goodIn_of _ (by decide +kernel)) ggJx4a65c_get_915e3_J15_checkIndex_7cf53
set_option maxRecDepth 20000 in
theorem ggJx4a65c_get_915e3_Jx4a65c_elementData_915e3 : GoodIn wsJx4a65c_get_915e3 wsJx4a65c_elementData_915e3 := goodIn_r _ [14, 15, 16, 17, 18] (by decide +kernel) (by decide +kernel)
set_option maxRecDepth 20000 in
theorem gJx4a65c_get_915e3_Jx4a65c_elementData_915e3 : GoodIn wsJx4a65c_get_915e3 (wsV RJx4a65c 123 RJx4a65c yJx4a65c_elementData_915e3 wsJx4a65c_elementData_915e3) := goodIn_app (goodIn_of _ (by decide +kernel)) ggJx4a65c_get_915e3_Jx4a65c_elementData_915e3
theorem dJx4a65c_get_915e3_0 : decode cJx4a65c_get_915e3 0 = .ok (.iload_n 1, 1) := by decide +kernel
theorem dJx4a65c_get_915e3_1 : decode cJx4a65c_get_915e3 1 = .ok (.aload_n 0, 1) := by decide +kernel
theorem dJx4a65c_get_915e3_2 : decode cJx4a65c_get_915e3 2 = .ok (.getfield 48, 3) := by decide +kernel
theorem dJx4a65c_get_915e3_5 : decode cJx4a65c_get_915e3 5 = .ok (.invokestatic 118, 3) := by decide +kernel
theorem dJx4a65c_get_915e3_8 : decode cJx4a65c_get_915e3 8 = .ok (.pop, 1) := by decide +kernel
theorem dJx4a65c_get_915e3_9 : decode cJx4a65c_get_915e3 9 = .ok (.aload_n 0, 1) := by decide +kernel
theorem dJx4a65c_get_915e3_10 : decode cJx4a65c_get_915e3 10 = .ok (.iload_n 1, 1) := by decide +kernel
theorem dJx4a65c_get_915e3_11 : decode cJx4a65c_get_915e3 11 = .ok (.invokevirtual 123, 3) := by decide +kernel
theorem dJx4a65c_get_915e3_14 : decode cJx4a65c_get_915e3 14 = .ok (.areturn, 1) := by decide +kernel
set_option maxRecDepth 20000 in
theorem ggJx4a65c_add_72be8_Jx4a65c_grow_d5877 : GoodIn wsJx4a65c_add_72be8 wsJx4a65c_grow_d5877 := goodIn_r _ [6, 1, 7, 8, 9, 5, 10, 11, 12, 13, 14, 15, 16, 17, 18, 19, 20, 21, 22, 23, 24, 25, 26, 27, 28, 29, 30, 31, 32, 33, 34, 35, 36, 37, 38, 39, 40, 41, 42, 43, 44, 45, 46, 47, 48, 49] (by decide +kernel) (by decide +kernel)
set_option maxRecDepth 20000 in
theorem gJx4a65c_add_72be8_Jx4a65c_grow_d5877 : GoodIn wsJx4a65c_add_72be8 (wsV RJx4a65c 129 RJx4a65c yJx4a65c_grow_d5877 wsJx4a65c_grow_d5877) := goodIn_app (goodIn_of _ (by decide +kernel)) ggJx4a65c_add_72be8_Jx4a65c_grow_d5877
theorem dJx4a65c_add_72be8_0 : decode cJx4a65c_add_72be8 0 = .ok (.iload_n 3, 1) := by decide +kernel
theorem dJx4a65c_add_72be8_1 : decode cJx4a65c_add_72be8 1 = .ok (.aload_n 2, 1) := by decide +kernel
theorem dJx4a65c_add_72be8_2 : decode cJx4a65c_add_72be8 2 = .ok (.arraylength, 1) := by decide +kernel
theorem dJx4a65c_add_72be8_3 : decode cJx4a65c_add_72be8 3 = .ok (.if_icmp .ne 8, 3) := by decide +kernel
theorem dJx4a65c_add_72be8_6 : decode cJx4a65c_add_72be8 6 = .ok (.aload_n 0, 1) := by decide +kernel
theorem dJx4a65c_add_72be8_7 : decode cJx4a65c_add_72be8 7 = .ok (.invokevirtual 129, 3) := by decide +kernel
theorem dJx4a65c_add_72be8_10 : decode cJx4a65c_add_72be8 10 = .ok (.astore_n 2, 1) := by decide +kernel
theorem dJx4a65c_add_72be8_11 : decode cJx4a65c_add_72be8 11 = .ok (.aload_n 2, 1) := by decide +kernel
theorem dJx4a65c_add_72be8_12 : decode cJx4a65c_add_72be8 12 = .ok (.iload_n 3, 1) := by decide +kernel
theorem dJx4a65c_add_72be8_13 : decode cJx4a65c_add_72be8 13 = .ok (.aload_n 1, 1) := by decide +kernel
theorem dJx4a65c_add_72be8_14 : decode cJx4a65c_add_72be8 14 = .ok (.aastore, 1) := by decide +kernel
theorem dJx4a65c_add_72be8_15 : decode cJx4a65c_add_72be8 15 = .ok (.aload_n 0, 1) := by decide +kernel
theorem dJx4a65c_add_72be8_16 : decode cJx4a65c_add_72be8 16 = .ok (.iload_n 3, 1) := by decide +kernel
theorem dJx4a65c_add_72be8_17 : decode cJx4a65c_add_72be8 17 = .ok (.iconst 1, 1) := by decide +kernel
theorem dJx4a65c_add_72be8_18 : decode cJx4a65c_add_72be8 18 = .ok (.iadd, 1) := by decide +kernel
theorem dJx4a65c_add_72be8_19 : decode cJx4a65c_add_72be8 19 = .ok (.putfield 48, 3) := by decide +kernel
theorem dJx4a65c_add_72be8_22 : decode cJx4a65c_add_72be8 22 = .ok (.return_, 1) := by decide +kernel
set_option maxRecDepth 20000 in
theorem ggJx4a65c_add_9ea2d_Jx4a65c_add_72be8 : GoodIn wsJx4a65c_add_9ea2d wsJx4a65c_add_72be8 := goodIn_r _ [9, 4, 10, 11, 12, 8, 13, 14, 15, 16, 17, 3, 18, 19, 20, 21, 22, 23, 24, 25, 26, 27, 28, 29, 30, 31, 32, 33, 34, 35, 36, 37, 38, 39, 40, 41, 42, 43, 44, 45, 46, 47, 48, 49, 50, 51, 52, 53, 54, 55] (by decide +kernel) (by decide +kernel)
set_option maxRecDepth 20000 in
theorem gJx4a65c_add_9ea2d_Jx4a65c_add_72be8 : GoodIn wsJx4a65c_add_9ea2d (wsV RJx4a65c 131 RJx4a65c yJx4a65c_add_72be8 wsJx4a65c_add_72be8) := goodIn_app (goodIn_of _ (by decide +kernel)) ggJx4a65c_add_9ea2d_Jx4a65c_add_72be8
theorem dJx4a65c_add_9ea2d_0 : decode cJx4a65c_add_9ea2d 0 = .ok (.aload_n 0, 1) := by decide +kernel
theorem dJx4a65c_add_9ea2d_1 : decode cJx4a65c_add_9ea2d 1 = .ok (.dup, 1) := by decide +kernel
theorem dJx4a65c_add_9ea2d_2 : decode cJx4a65c_add_9ea2d 2 = .ok (.getfield 63, 3) := by decide +kernel
theorem dJx4a65c_add_9ea2d_5 : decode cJx4a65c_add_9ea2d 5 = .ok (.iconst 1, 1) := by decide +kernel
theorem dJx4a65c_add_9ea2d_6 : decode cJx4a65c_add_9ea2d 6 = .ok (.iadd, 1) := by decide +kernel
theorem dJx4a65c_add_9ea2d_7 : decode cJx4a65c_add_9ea2d 7 = .ok (.putfield 63, 3) := by decide +kernel
theorem dJx4a65c_add_9ea2d_10 : decode cJx4a65c_add_9ea2d 10 = .ok (.aload_n 0, 1) := by decide +kernel
theorem dJx4a65c_add_9ea2d_11 : decode cJx4a65c_add_9ea2d 11 = .ok (.aload_n 1, 1) := by decide +kernel
theorem dJx4a65c_add_9ea2d_12 : decode cJx4a65c_add_9ea2d 12 = .ok (.aload_n 0, 1) := by decide +kernel
theorem dJx4a65c_add_9ea2d_13 : decode cJx4a65c_add_9ea2d 13 = .ok (.getfield 9, 3) := by decide +kernel
theorem dJx4a65c_add_9ea2d_16 : decode cJx4a65c_add_9ea2d 16 = .ok (.aload_n 0, 1) := by decide +kernel
theorem dJx4a65c_add_9ea2d_17 : decode cJx4a65c_add_9ea2d 17 = .ok (.getfield 48, 3) := by decide +kernel
theorem dJx4a65c_add_9ea2d_20 : decode cJx4a65c_add_9ea2d 20 = .ok (.invokevirtual 131, 3) := by decide +kernel
theorem dJx4a65c_add_9ea2d_23 : decode cJx4a65c_add_9ea2d 23 = .ok (.iconst 1, 1) := by decide +kernel
theorem dJx4a65c_add_9ea2d_24 : decode cJx4a65c_add_9ea2d 24 = .ok (.ireturn, 1) := by decide +kernel
set_option maxRecDepth 20000 in
theorem ggJ7_copyOf_1904c_J7_copyOf_6403c : GoodIn wsJ7_copyOf_1904c wsJ7_copyOf_6403c := goodIn_r _ [8, 9, 10, 11, 12, 13, 14, 15, 16, 17, 18] (by decide +kernel) (by decide +kernel)
set_option maxRecDepth 20000 in
theorem gJ7_copyOf_1904c_J7_copyOf_6403c : GoodIn wsJ7_copyOf_1904c (va_wsS RJ7 300 yJ7_copyOf_6403c wsJ7_copyOf_6403c) := goodIn_app (goodIn_of _ (by decide +kernel)) ggJ7_copyOf_1904c_J7_copyOf_6403c
theorem dJ7_copyOf_1904c_0 : decode cJ7_copyOf_1904c 0 = .ok (.aload_n 0, 1) := by decide +kernel
theorem dJ7_copyOf_1904c_1 : decode cJ7_copyOf_1904c 1 = .ok (.iload_n 1, 1) := by decide +kernel
theorem dJ7_copyOf_1904c_2 : decode cJ7_copyOf_1904c 2 = .ok (.aload_n 0, 1) := by decide +kernel
theorem dJ7_copyOf_1904c_3 : decode cJ7_copyOf_1904c 3 = .ok (.invokevirtual 86, 3) := by decide +kernel
theorem dJ7_copyOf_1904c_6 : decode cJ7_copyOf_1904c 6 = .ok (.invokestatic 300, 3) := by decide +kernel
theorem dJ7_copyOf_1904c_9 : decode cJ7_copyOf_1904c 9 = .ok (.areturn, 1) := by decide +kernel
theorem dJ7_copyOf_6403c_0 : decode cJ7_copyOf_6403c 0 = .ok (.aload_n 2, 1) := by decide +kernel
theorem dJ7_copyOf_6403c_1 : decode cJ7_copyOf_6403c 1 = .ok (.ldc 110, 2) := by decide +kernel
theorem dJ7_copyOf_6403c_3 : decode cJ7_copyOf_6403c 3 = .ok (.if_acmp .ne 10, 3) := by decide +kernel
theorem dJ7_copyOf_6403c_6 : decode cJ7_copyOf_6403c 6 = .ok (.iload_n 1, 1) := by decide +kernel
theorem dJ7_copyOf_6403c_7 : decode cJ7_copyOf_6403c 7 = .ok (.anewarray 2, 3) := by decide +kernel
theorem dJ7_copyOf_6403c_10 : decode cJ7_copyOf_6403c 10 = .ok (.goto 14, 3) := by decide +kernel
theorem dJ7_copyOf_6403c_13 : decode cJ7_copyOf_6403c 13 = .ok (.aload_n 2, 1) := by decide +kernel
theorem dJ7_copyOf_6403c_14 : decode cJ7_copyOf_6403c 14 = .ok (.invokevirtual 90, 3) := by decide +kernel
theorem dJ7_copyOf_6403c_17 : decode cJ7_copyOf_6403c 17 = .ok (.iload_n 1, 1) := by decide +kernel
theorem dJ7_copyOf_6403c_18 : decode cJ7_copyOf_6403c 18 = .ok (.invokestatic 95, 3) := by decide +kernel
theorem dJ7_copyOf_6403c_21 : decode cJ7_copyOf_6403c 21 = .ok (.checkcast 110, 3) := by decide +kernel
theorem dJ7_copyOf_6403c_24 : decode cJ7_copyOf_6403c 24 = .ok (.astore_n 3, 1) := by decide +kernel
theorem dJ7_copyOf_6403c_25 : decode cJ7_copyOf_6403c 25 = .ok (.aload_n 0, 1) := by decide +kernel
theorem dJ7_copyOf_6403c_26 : decode cJ7_copyOf_6403c 26 = .ok (.iconst 0, 1) := by decide +kernel
theorem dJ7_copyOf_6403c_27 : decode cJ7_copyOf_6403c 27 = .ok (.aload_n 3, 1) := by decide +kernel
theorem dJ7_copyOf_6403c_28 : decode cJ7_copyOf_6403c 28 = .ok (.iconst 0, 1) := by decide +kernel
theorem dJ7_copyOf_6403c_29 : decode cJ7_copyOf_6403c 29 = .ok (.aload_n 0, 1) := by decide +kernel
theorem dJ7_copyOf_6403c_30 : decode cJ7_copyOf_6403c 30 = .ok (.arraylength, 1) := by decide +kernel
theorem dJ7_copyOf_6403c_31 : decode cJ7_copyOf_6403c 31 = .ok (.iload_n 1, 1) := by decide +kernel
theorem dJ7_copyOf_6403c_32 : decode cJ7_copyOf_6403c 32 = .ok (.invokestatic 304, 3) := by decide +kernel
theorem dJ7_copyOf_6403c_35 : decode cJ7_copyOf_6403c 35 = .ok (.invokestatic 150, 3) := by decide +kernel
theorem dJ7_copyOf_6403c_38 : decode cJ7_copyOf_6403c 38 = .ok (.aload_n 3, 1) := by decide +kernel
theorem dJ7_copyOf_6403c_39 : decode cJ7_copyOf_6403c 39 = .ok (.areturn, 1) := by decide +kernel
set_option maxRecDepth 20000 in
theorem ggJ15_checkIndex_7cf53_J3_checkIndex_8e157 : GoodIn wsJ15_checkIndex_7cf53 wsJ3_checkIndex_8e157 := goodIn_r _ [4] (by decide +kernel) (by decide +kernel)
set_option maxRecDepth 20000 in
theorem gJ15_checkIndex_7cf53_J3_checkIndex_8e157 : GoodIn wsJ15_checkIndex_7cf53 (va_wsS RJ15 105 yJ3_checkIndex_8e157 wsJ3_checkIndex_8e157) := goodIn_app (goodIn_of _ (by decide +kernel)) ggJ15_checkIndex_7cf53_J3_checkIndex_8e157
theorem dJ15_checkIndex_7cf53_0 : decode cJ15_checkIndex_7cf53 0 = .ok (.iload_n 0, 1) := by decide +kernel
theorem dJ15_checkIndex_7cf53_1 : decode cJ15_checkIndex_7cf53 1 = .ok (.iload_n 1, 1) := by decide +kernel
theorem dJ15_checkIndex_7cf53_2 : decode cJ15_checkIndex_7cf53 2 = .ok (.aconst_null, 1) := by decide +kernel
theorem dJ15_checkIndex_7cf53_3 : decode cJ15_checkIndex_7cf53 3 = .ok (.invokestatic 105, 3) := by decide +kernel
theorem dJ15_checkIndex_7cf53_6 : decode cJ15_checkIndex_7cf53 6 = .ok (.ireturn, 1) := by decide +kernel
set_option maxRecDepth 20000 in
theorem ggJ8_newLength_cabcc_J8_hugeLength_7cf53 : GoodIn wsJ8_newLength_cabcc wsJ8_hugeLength_7cf53 := goodIn_r _ [9, 5] (by decide +kernel) (by decide +kernel)
set_option maxRecDepth 20000 in
theorem gJ8_newLength_cabcc_J8_hugeLength_7cf53 : GoodIn wsJ8_newLength_cabcc (va_wsS RJ8 201 yJ8_hugeLength_7cf53 wsJ8_hugeLength_7cf53) := goodIn_app (goodIn_of _ (by decide +kernel)) ggJ8_newLength_cabcc_J8_hugeLength_7cf53
theorem dJ8_newLength_cabcc_0 : decode cJ8_newLength_cabcc 0 = .ok (.iload_n 0, 1) := by decide +kernel
theorem dJ8_newLength_cabcc_1 : decode cJ8_newLength_cabcc 1 = .ok (.iload_n 1, 1) := by decide +kernel
theorem dJ8_newLength_cabcc_2 : decode cJ8_newLength_cabcc 2 = .ok (.iload_n 2, 1) := by decide +kernel
theorem dJ8_newLength_cabcc_3 : decode cJ8_newLength_cabcc 3 = .ok (.invokestatic 194, 3) := by decide +kernel
theorem dJ8_newLength_cabcc_6 : decode cJ8_newLength_cabcc 6 = .ok (.iadd, 1) := by decide +kernel
theorem dJ8_newLength_cabcc_7 : decode cJ8_newLength_cabcc 7 = .ok (.istore_n 3, 1) := by decide +kernel
theorem dJ8_newLength_cabcc_8 : decode cJ8_newLength_cabcc 8 = .ok (.iconst 0, 1) := by decide +kernel
theorem dJ8_newLength_cabcc_9 : decode cJ8_newLength_cabcc 9 = .ok (.iload_n 3, 1) := by decide +kernel
theorem dJ8_newLength_cabcc_10 : decode cJ8_newLength_cabcc 10 = .ok (.if_icmp .ge 11, 3) := by decide +kernel
theorem dJ8_newLength_cabcc_13 : decode cJ8_newLength_cabcc 13 = .ok (.iload_n 3, 1) := by decide +kernel
theorem dJ8_newLength_cabcc_14 : decode cJ8_newLength_cabcc 14 = .ok (.ldc 200, 2) := by decide +kernel
theorem dJ8_newLength_cabcc_16 : decode cJ8_newLength_cabcc 16 = .ok (.if_icmp .gt 5, 3) := by decide +kernel
theorem dJ8_newLength_cabcc_19 : decode cJ8_newLength_cabcc 19 = .ok (.iload_n 3, 1) := by decide +kernel
theorem dJ8_newLength_cabcc_20 : decode cJ8_newLength_cabcc 20 = .ok (.ireturn, 1) := by decide +kernel
theorem dJ8_newLength_cabcc_21 : decode cJ8_newLength_cabcc 21 = .ok (.iload_n 0, 1) := by decide +kernel
theorem dJ8_newLength_cabcc_22 : decode cJ8_newLength_cabcc 22 = .ok (.iload_n 1, 1) := by decide +kernel
theorem dJ8_newLength_cabcc_23 : decode cJ8_newLength_cabcc 23 = .ok (.invokestatic 201, 3) := by decide +kernel
theorem dJ8_newLength_cabcc_26 : decode cJ8_newLength_cabcc 26 = .ok (.ireturn, 1) := by decide +kernel
theorem dJ8_hugeLength_7cf53_0 : decode cJ8_hugeLength_7cf53 0 = .ok (.iload_n 0, 1) := by decide +kernel
theorem dJ8_hugeLength_7cf53_1 : decode cJ8_hugeLength_7cf53 1 = .ok (.iload_n 1, 1) := by decide +kernel
theorem dJ8_hugeLength_7cf53_2 : decode cJ8_hugeLength_7cf53 2 = .ok (.iadd, 1) := by decide +kernel
theorem dJ8_hugeLength_7cf53_3 : decode cJ8_hugeLength_7cf53 3 = .ok (.istore_n 2, 1) := by decide +kernel
theorem dJ8_hugeLength_7cf53_4 : decode cJ8_hugeLength_7cf53 4 = .ok (.iload_n 2, 1) := by decide +kernel
theorem dJ8_hugeLength_7cf53_5 : decode cJ8_hugeLength_7cf53 5 = .ok (.ifCond .ge 44, 3) := by decide +kernel
theorem dJ8_hugeLength_7cf53_8 : decode cJ8_hugeLength_7cf53 8 = .ok (.new 204, 3) := by decide +kernel
theorem dJ8_hugeLength_7cf53_11 : decode cJ8_hugeLength_7cf53 11 = .ok (.dup, 1) := by decide +kernel
theorem dJ8_hugeLength_7cf53_12 : decode cJ8_hugeLength_7cf53 12 = .ok (.new 89, 3) := by decide +kernel
theorem dJ8_hugeLength_7cf53_15 : decode cJ8_hugeLength_7cf53 15 = .ok (.dup, 1) := by decide +kernel
theorem dJ8_hugeLength_7cf53_16 : decode cJ8_hugeLength_7cf53 16 = .ok (.invokespecial 91, 3) := by decide +kernel
theorem dJ8_hugeLength_7cf53_19 : decode cJ8_hugeLength_7cf53 19 = .ok (.ldc 206, 2) := by decide +kernel
theorem dJ8_hugeLength_7cf53_21 : decode cJ8_hugeLength_7cf53 21 = .ok (.invokevirtual 94, 3) := by decide +kernel
theorem dJ8_hugeLength_7cf53_24 : decode cJ8_hugeLength_7cf53 24 = .ok (.iload_n 0, 1) := by decide +kernel
theorem dJ8_hugeLength_7cf53_25 : decode cJ8_hugeLength_7cf53 25 = .ok (.invokevirtual 98, 3) := by decide +kernel
theorem dJ8_hugeLength_7cf53_28 : decode cJ8_hugeLength_7cf53 28 = .ok (.ldc 208, 2) := by decide +kernel
theorem dJ8_hugeLength_7cf53_30 : decode cJ8_hugeLength_7cf53 30 = .ok (.invokevirtual 94, 3) := by decide +kernel
theorem dJ8_hugeLength_7cf53_33 : decode cJ8_hugeLength_7cf53 33 = .ok (.iload_n 1, 1) := by decide +kernel
theorem dJ8_hugeLength_7cf53_34 : decode cJ8_hugeLength_7cf53 34 = .ok (.invokevirtual 98, 3) := by decide +kernel
theorem dJ8_hugeLength_7cf53_37 : decode cJ8_hugeLength_7cf53 37 = .ok (.ldc 210, 2) := by decide +kernel
theorem dJ8_hugeLength_7cf53_39 : decode cJ8_hugeLength_7cf53 39 = .ok (.invokevirtual 94, 3) := by decide +kernel
theorem dJ8_hugeLength_7cf53_42 : decode cJ8_hugeLength_7cf53 42 = .ok (.invokevirtual 101, 3) := by decide +kernel
theorem dJ8_hugeLength_7cf53_45 : decode cJ8_hugeLength_7cf53 45 = .ok (.invokespecial 212, 3) := by decide +kernel
theorem dJ8_hugeLength_7cf53_48 : decode cJ8_hugeLength_7cf53 48 = .ok (.athrow, 1) := by decide +kernel
theorem dJ8_hugeLength_7cf53_49 : decode cJ8_hugeLength_7cf53 49 = .ok (.iload_n 2, 1) := by decide +kernel
theorem dJ8_hugeLength_7cf53_50 : decode cJ8_hugeLength_7cf53 50 = .ok (.ldc 200, 2) := by decide +kernel
theorem dJ8_hugeLength_7cf53_52 : decode cJ8_hugeLength_7cf53 52 = .ok (.if_icmp .gt 6, 3) := by decide +kernel
theorem dJ8_hugeLength_7cf53_55 : decode cJ8_hugeLength_7cf53 55 = .ok (.ldc 200, 2) := by decide +kernel
theorem dJ8_hugeLength_7cf53_57 : decode cJ8_hugeLength_7cf53 57 = .ok (.ireturn, 1) := by decide +kernel
theorem dJ8_hugeLength_7cf53_58 : decode cJ8_hugeLength_7cf53 58 = .ok (.iload_n 2, 1) := by decide +kernel
theorem dJ8_hugeLength_7cf53_59 : decode cJ8_hugeLength_7cf53 59 = .ok (.ireturn, 1) := by decide +kernel
theorem dJ3_checkIndex_8e157_0 : decode cJ3_checkIndex_8e157 0 = .ok (.iload_n 0, 1) := by decide +kernel
theorem dJ3_checkIndex_8e157_1 : decode cJ3_checkIndex_8e157 1 = .ok (.ifCond .lt 8, 3) := by decide +kernel
theorem dJ3_checkIndex_8e157_4 : decode cJ3_checkIndex_8e157 4 = .ok (.iload_n 0, 1) := by decide +kernel
theorem dJ3_checkIndex_8e157_5 : decode cJ3_checkIndex_8e157 5 = .ok (.iload_n 1, 1) := by decide +kernel
theorem dJ3_checkIndex_8e157_6 : decode cJ3_checkIndex_8e157 6 = .ok (.if_icmp .lt 10, 3) := by decide +kernel
theorem dJ3_checkIndex_8e157_9 : decode cJ3_checkIndex_8e157 9 = .ok (.aload_n 2, 1) := by decide +kernel
theorem dJ3_checkIndex_8e157_10 : decode cJ3_checkIndex_8e157 10 = .ok (.iload_n 0, 1) := by decide +kernel
theorem dJ3_checkIndex_8e157_11 : decode cJ3_checkIndex_8e157 11 = .ok (.iload_n 1, 1) := by decide +kernel
theorem dJ3_checkIndex_8e157_12 : decode cJ3_checkIndex_8e157 12 = .ok (.invokestatic 95, 3) := by decide +kernel
theorem dJ3_checkIndex_8e157_15 : decode cJ3_checkIndex_8e157 15 = .ok (.athrow, 1) := by decide +kernel
theorem dJ3_checkIndex_8e157_16 : decode cJ3_checkIndex_8e157 16 = .ok (.iload_n 0, 1) := by decide +kernel
theorem dJ3_checkIndex_8e157_17 : decode cJ3_checkIndex_8e157 17 = .ok (.ireturn, 1) := by decide +kernel
theorem dL_cell_0 : decode cL_cell 0 = .ok (.iload_n 1, 1) := by decide +kernel
theorem dL_cell_1 : decode cL_cell 1 = .ok (.aload_n 0, 1) := by decide +kernel
theorem dL_cell_2 : decode cL_cell 2 = .ok (.arraylength, 1) := by decide +kernel
theorem dL_cell_3 : decode cL_cell 3 = .ok (.if_icmp .ge 9, 3) := by decide +kernel
theorem dL_cell_6 : decode cL_cell 6 = .ok (.aload_n 0, 1) := by decide +kernel
theorem dL_cell_7 : decode cL_cell 7 = .ok (.iload_n 1, 1) := by decide +kernel
theorem dL_cell_8 : decode cL_cell 8 = .ok (.iaload, 1) := by decide +kernel
theorem dL_cell_9 : decode cL_cell 9 = .ok (.goto 10, 3) := by decide +kernel
theorem dL_cell_12 : decode cL_cell 12 = .ok (.ldc 7, 2) := by decide +kernel
theorem dL_cell_14 : decode cL_cell 14 = .ok (.iload_n 1, 1) := by decide +kernel
theorem dL_cell_15 : decode cL_cell 15 = .ok (.bipush 11, 2) := by decide +kernel
theorem dL_cell_17 : decode cL_cell 17 = .ok (.iadd, 1) := by decide +kernel
theorem dL_cell_18 : decode cL_cell 18 = .ok (.imul, 1) := by decide +kernel
theorem dL_cell_19 : decode cL_cell 19 = .ok (.ireturn, 1) := by decide +kernel
theorem dL_low_0 : decode cL_low 0 = .ok (.iload_n 0, 1) := by decide +kernel
theorem dL_low_1 : decode cL_low 1 = .ok (.iconst 1, 1) := by decide +kernel
theorem dL_low_2 : decode cL_low 2 = .ok (.iushr, 1) := by decide +kernel
theorem dL_low_3 : decode cL_low 3 = .ok (.iload_n 1, 1) := by decide +kernel
theorem dL_low_4 : decode cL_low 4 = .ok (.irem, 1) := by decide +kernel
theorem dL_low_5 : decode cL_low 5 = .ok (.ireturn, 1) := by decide +kernel
set_option maxRecDepth 20000 in
theorem ggL_vessel_X6_vessel : GoodIn wsL_vessel wsX6_vessel := goodIn_ca (goodIn_ca (goodIn_ca (goodIn_r _ [9, 10, 11, 12, 13, 14, 15, 16, 17, 18, 19, 20, 21, 22, 8, 23, 24, 25, 26, 27, 28, 29, 30, 31, 32, 33, 34, 35, 36, 37, 38, 39, 40, 41, 42, 43, 44, 45, 46, 47, 48, 49, 50, 51, 52, 53, 54, 55, 56, 57, 58, 59, 60, 61, 62, 63, 64, 65, 66, 67, 68, 69, 70, 71, 72, 73, 74, 75, 76, 77, 78, 79, 80, 81, 82, 83, 84, 85, 86, 87, 88, 89, 90, 91, 92, 93, 94, 95, 96, 97, 98, 99, 100, 101, 102, 103, 104, 105, 106, 107, 108, 109, 110, 111, 112, 113, 114] (by decide +kernel) (by decide +kernel)) (goodIn_sub (fun _ h => List.mem_cons_of_mem _ (List.mem_append_left _ (List.mem_append_left _ (List.mem_append_right _ h)))) (by decide +kernel))) (goodIn_sub (fun _ h => List.mem_cons_of_mem _ (List.mem_append_left _ (List.mem_append_right _ h))) (by decide +kernel))) (goodIn_sub (fun _ h => List.mem_cons_of_mem _ (List.mem_append_right _ h)) (by decide +kernel))
set_option maxRecDepth 20000 in
theorem gL_vessel_X6_vessel : GoodIn wsL_vessel (wsV RL 8 RX6 yX6_vessel wsX6_vessel) := goodIn_app (goodIn_of _ (by decide +kernel)) ggL_vessel_X6_vessel
theorem dL_vessel_0 : decode cL_vessel 0 = .ok (.aload_n 0, 1) := by decide +kernel
theorem dL_vessel_1 : decode cL_vessel 1 = .ok (.iload_n 1, 1) := by decide +kernel
theorem dL_vessel_2 : decode cL_vessel 2 = .ok (.iload_n 2, 1) := by decide +kernel
theorem dL_vessel_3 : decode cL_vessel 3 = .ok (.invokevirtual 8, 3) := by decide +kernel
theorem dL_vessel_6 : decode cL_vessel 6 = .ok (.istore_n 3, 1) := by decide +kernel
theorem dL_vessel_7 : decode cL_vessel 7 = .ok (.goto 18, 3) := by decide +kernel
theorem dL_vessel_10 : decode cL_vessel 10 = .ok (.astore 4, 2) := by decide +kernel
theorem dL_vessel_12 : decode cL_vessel 12 = .ok (.ldc 16, 2) := by decide +kernel
theorem dL_vessel_14 : decode cL_vessel 14 = .ok (.ireturn, 1) := by decide +kernel
theorem dL_vessel_15 : decode cL_vessel 15 = .ok (.astore 4, 2) := by decide +kernel
theorem dL_vessel_17 : decode cL_vessel 17 = .ok (.ldc 19, 2) := by decide +kernel
theorem dL_vessel_19 : decode cL_vessel 19 = .ok (.ireturn, 1) := by decide +kernel
theorem dL_vessel_20 : decode cL_vessel 20 = .ok (.astore 4, 2) := by decide +kernel
theorem dL_vessel_22 : decode cL_vessel 22 = .ok (.ldc 22, 2) := by decide +kernel
theorem dL_vessel_24 : decode cL_vessel 24 = .ok (.ireturn, 1) := by decide +kernel
theorem dL_vessel_25 : decode cL_vessel 25 = .ok (.iload_n 3, 1) := by decide +kernel
theorem dL_vessel_26 : decode cL_vessel 26 = .ok (.ireturn, 1) := by decide +kernel
set_option maxRecDepth 20000 in
theorem ggL_shares_X6_shares : GoodIn wsL_shares wsX6_shares := goodIn_ca (goodIn_ca (goodIn_r _ [8, 9, 10, 11, 12, 13, 14, 15, 16, 7, 17, 18, 19, 20, 21, 22, 23, 24, 25, 26, 27, 28, 29, 30, 31, 32] (by decide +kernel) (by decide +kernel)) (goodIn_sub (fun _ h => List.mem_cons_of_mem _ (List.mem_append_left _ (List.mem_append_right _ h))) (by decide +kernel))) (goodIn_sub (fun _ h => List.mem_cons_of_mem _ (List.mem_append_right _ h)) (by decide +kernel))
set_option maxRecDepth 20000 in
theorem gL_shares_X6_shares : GoodIn wsL_shares (wsV RL 23 RX6 yX6_shares wsX6_shares) := goodIn_app (goodIn_of _ (by decide +kernel)) ggL_shares_X6_shares
theorem dL_shares_0 : decode cL_shares 0 = .ok (.aload_n 0, 1) := by decide +kernel
theorem dL_shares_1 : decode cL_shares 1 = .ok (.iload_n 1, 1) := by decide +kernel
theorem dL_shares_2 : decode cL_shares 2 = .ok (.iload_n 2, 1) := by decide +kernel
theorem dL_shares_3 : decode cL_shares 3 = .ok (.invokevirtual 23, 3) := by decide +kernel
theorem dL_shares_6 : decode cL_shares 6 = .ok (.istore_n 3, 1) := by decide +kernel
theorem dL_shares_7 : decode cL_shares 7 = .ok (.goto 13, 3) := by decide +kernel
theorem dL_shares_10 : decode cL_shares 10 = .ok (.astore 4, 2) := by decide +kernel
theorem dL_shares_12 : decode cL_shares 12 = .ok (.ldc 16, 2) := by decide +kernel
theorem dL_shares_14 : decode cL_shares 14 = .ok (.ireturn, 1) := by decide +kernel
theorem dL_shares_15 : decode cL_shares 15 = .ok (.astore 4, 2) := by decide +kernel
theorem dL_shares_17 : decode cL_shares 17 = .ok (.ldc 19, 2) := by decide +kernel
theorem dL_shares_19 : decode cL_shares 19 = .ok (.ireturn, 1) := by decide +kernel
theorem dL_shares_20 : decode cL_shares 20 = .ok (.iload_n 3, 1) := by decide +kernel
theorem dL_shares_21 : decode cL_shares 21 = .ok (.ireturn, 1) := by decide +kernel
set_option maxRecDepth 20000 in
theorem ggL_run_X6_run : GoodIn wsL_run wsX6_run := goodIn_ca (goodIn_ca (goodIn_ca (goodIn_r _ [9, 10, 11, 12, 13, 14, 15, 16, 17, 18, 19, 20, 21, 22, 23, 8, 24, 25, 26, 27, 28, 29, 30, 31, 32, 33, 34, 35, 36, 37, 38, 39, 40, 41, 42, 43, 44, 45, 46, 47, 48, 49, 50, 51, 52, 53, 54, 55, 56, 57, 58, 59, 60, 61, 62, 63, 64, 65, 66, 67, 68, 69, 70, 71, 72, 73, 74, 75, 76, 77, 78, 79, 80, 81, 82, 83, 84, 85, 86, 87, 88, 89, 90, 91, 92, 93, 94, 95, 96, 97, 98, 99, 100, 101, 102, 103, 104, 105, 106, 107, 108, 109, 110, 111, 112, 113] (by decide +kernel) (by decide +kernel)) (goodIn_sub (fun _ h => List.mem_cons_of_mem _ (List.mem_append_left _ (List.mem_append_left _ (List.mem_append_right _ h)))) (by decide +kernel))) (goodIn_sub (fun _ h => List.mem_cons_of_mem _ (List.mem_append_left _ (List.mem_append_right _ h))) (by decide +kernel))) (goodIn_sub (fun _ h => List.mem_cons_of_mem _ (List.mem_append_right _ h)) (by decide +kernel))
set_option maxRecDepth 20000 in
theorem gL_run_X6_run : GoodIn wsL_run (wsV RL 26 RX6 yX6_run wsX6_run) := goodIn_app (goodIn_of _ (by decide +kernel)) ggL_run_X6_run
theorem dL_run_0 : decode cL_run 0 = .ok (.aload_n 0, 1) := by decide +kernel
theorem dL_run_1 : decode cL_run 1 = .ok (.iload_n 1, 1) := by decide +kernel
theorem dL_run_2 : decode cL_run 2 = .ok (.iload_n 2, 1) := by decide +kernel
theorem dL_run_3 : decode cL_run 3 = .ok (.iload_n 3, 1) := by decide +kernel
theorem dL_run_4 : decode cL_run 4 = .ok (.iload 4, 2) := by decide +kernel
theorem dL_run_6 : decode cL_run 6 = .ok (.iload 5, 2) := by decide +kernel
theorem dL_run_8 : decode cL_run 8 = .ok (.invokevirtual 26, 3) := by decide +kernel
theorem dL_run_11 : decode cL_run 11 = .ok (.istore 6, 2) := by decide +kernel
theorem dL_run_13 : decode cL_run 13 = .ok (.goto 18, 3) := by decide +kernel
theorem dL_run_16 : decode cL_run 16 = .ok (.astore 7, 2) := by decide +kernel
theorem dL_run_18 : decode cL_run 18 = .ok (.ldc 16, 2) := by decide +kernel
theorem dL_run_20 : decode cL_run 20 = .ok (.ireturn, 1) := by decide +kernel
theorem dL_run_21 : decode cL_run 21 = .ok (.astore 7, 2) := by decide +kernel
theorem dL_run_23 : decode cL_run 23 = .ok (.ldc 19, 2) := by decide +kernel
theorem dL_run_25 : decode cL_run 25 = .ok (.ireturn, 1) := by decide +kernel
theorem dL_run_26 : decode cL_run 26 = .ok (.astore 7, 2) := by decide +kernel
theorem dL_run_28 : decode cL_run 28 = .ok (.ldc 22, 2) := by decide +kernel
theorem dL_run_30 : decode cL_run 30 = .ok (.ireturn, 1) := by decide +kernel
theorem dL_run_31 : decode cL_run 31 = .ok (.iload 6, 2) := by decide +kernel
theorem dL_run_33 : decode cL_run 33 = .ok (.ireturn, 1) := by decide +kernel
set_option maxRecDepth 20000 in
theorem ggL_move_X6_move : GoodIn wsL_move wsX6_move := goodIn_ca (goodIn_ca (goodIn_ca (goodIn_r _ [9, 10, 11, 12, 13, 14, 15, 16, 8, 17, 18, 19, 20, 21, 22, 23, 24, 25, 26, 27, 28, 29, 30, 31, 32, 33, 34, 35, 36, 37, 38, 39, 40, 41, 42, 43, 44, 45, 46, 47, 48, 49, 50, 51, 52, 53, 54, 55, 56, 57, 58, 59, 60, 61, 62, 63, 64, 65, 66, 67, 68, 69, 70, 71, 72, 73, 74, 75, 76, 77, 78, 79, 80, 81, 82, 83, 84, 85, 86, 87, 88, 89, 90, 91, 92, 93, 94, 95, 96] (by decide +kernel) (by decide +kernel)) (goodIn_sub (fun _ h => List.mem_cons_of_mem _ (List.mem_append_left _ (List.mem_append_left _ (List.mem_append_right _ h)))) (by decide +kernel))) (goodIn_sub (fun _ h => List.mem_cons_of_mem _ (List.mem_append_left _ (List.mem_append_right _ h))) (by decide +kernel))) (goodIn_sub (fun _ h => List.mem_cons_of_mem _ (List.mem_append_right _ h)) (by decide +kernel))
set_option maxRecDepth 20000 in
theorem gL_move_X6_move : GoodIn wsL_move (wsV RL 30 RX6 yX6_move wsX6_move) := goodIn_app (goodIn_of _ (by decide +kernel)) ggL_move_X6_move
theorem dL_move_0 : decode cL_move 0 = .ok (.aload_n 0, 1) := by decide +kernel
theorem dL_move_1 : decode cL_move 1 = .ok (.iload_n 1, 1) := by decide +kernel
theorem dL_move_2 : decode cL_move 2 = .ok (.iload_n 2, 1) := by decide +kernel
theorem dL_move_3 : decode cL_move 3 = .ok (.iload_n 3, 1) := by decide +kernel
theorem dL_move_4 : decode cL_move 4 = .ok (.invokevirtual 30, 3) := by decide +kernel
theorem dL_move_7 : decode cL_move 7 = .ok (.istore 4, 2) := by decide +kernel
theorem dL_move_9 : decode cL_move 9 = .ok (.goto 18, 3) := by decide +kernel
theorem dL_move_12 : decode cL_move 12 = .ok (.astore 5, 2) := by decide +kernel
theorem dL_move_14 : decode cL_move 14 = .ok (.ldc 16, 2) := by decide +kernel
theorem dL_move_16 : decode cL_move 16 = .ok (.ireturn, 1) := by decide +kernel
theorem dL_move_17 : decode cL_move 17 = .ok (.astore 5, 2) := by decide +kernel
theorem dL_move_19 : decode cL_move 19 = .ok (.ldc 19, 2) := by decide +kernel
theorem dL_move_21 : decode cL_move 21 = .ok (.ireturn, 1) := by decide +kernel
theorem dL_move_22 : decode cL_move 22 = .ok (.astore 5, 2) := by decide +kernel
theorem dL_move_24 : decode cL_move 24 = .ok (.ldc 22, 2) := by decide +kernel
theorem dL_move_26 : decode cL_move 26 = .ok (.ireturn, 1) := by decide +kernel
theorem dL_move_27 : decode cL_move 27 = .ok (.iload 4, 2) := by decide +kernel
theorem dL_move_29 : decode cL_move 29 = .ok (.ireturn, 1) := by decide +kernel
set_option maxRecDepth 20000 in
theorem ggL_dip_X6_dip : GoodIn wsL_dip wsX6_dip := goodIn_ca (goodIn_ca (goodIn_ca (goodIn_r _ [9, 10, 11, 12, 13, 14, 15, 16, 17, 18, 8, 19, 20, 21, 22, 23, 24, 25, 26, 27, 28, 29, 30, 31, 32, 33, 34, 35, 36, 37, 38, 39, 40, 41, 42, 43, 44, 45, 46, 47, 48, 49, 50, 51, 52, 53, 54, 55, 56, 57, 58, 59, 60, 61, 62, 63, 64, 65, 66, 67, 68, 69, 70, 71, 72, 73, 74, 75, 76, 77, 78, 79, 80, 81, 82, 83, 84, 85, 86, 87, 88, 89, 90, 91, 92, 93, 94] (by decide +kernel) (by decide +kernel)) (goodIn_sub (fun _ h => List.mem_cons_of_mem _ (List.mem_append_left _ (List.mem_append_left _ (List.mem_append_right _ h)))) (by decide +kernel))) (goodIn_sub (fun _ h => List.mem_cons_of_mem _ (List.mem_append_left _ (List.mem_append_right _ h))) (by decide +kernel))) (goodIn_sub (fun _ h => List.mem_cons_of_mem _ (List.mem_append_right _ h)) (by decide +kernel))
set_option maxRecDepth 20000 in
theorem gL_dip_X6_dip : GoodIn wsL_dip (wsV RL 34 RX6 yX6_dip wsX6_dip) := goodIn_app (goodIn_of _ (by decide +kernel)) ggL_dip_X6_dip
theorem dL_dip_0 : decode cL_dip 0 = .ok (.aload_n 0, 1) := by decide +kernel
theorem dL_dip_1 : decode cL_dip 1 = .ok (.iload_n 1, 1) := by decide +kernel
theorem dL_dip_2 : decode cL_dip 2 = .ok (.iload_n 2, 1) := by decide +kernel
theorem dL_dip_3 : decode cL_dip 3 = .ok (.iload_n 3, 1) := by decide +kernel
theorem dL_dip_4 : decode cL_dip 4 = .ok (.invokevirtual 34, 3) := by decide +kernel
theorem dL_dip_7 : decode cL_dip 7 = .ok (.istore 4, 2) := by decide +kernel
theorem dL_dip_9 : decode cL_dip 9 = .ok (.goto 18, 3) := by decide +kernel
theorem dL_dip_12 : decode cL_dip 12 = .ok (.astore 5, 2) := by decide +kernel
theorem dL_dip_14 : decode cL_dip 14 = .ok (.ldc 16, 2) := by decide +kernel
theorem dL_dip_16 : decode cL_dip 16 = .ok (.ireturn, 1) := by decide +kernel
theorem dL_dip_17 : decode cL_dip 17 = .ok (.astore 5, 2) := by decide +kernel
theorem dL_dip_19 : decode cL_dip 19 = .ok (.ldc 19, 2) := by decide +kernel
theorem dL_dip_21 : decode cL_dip 21 = .ok (.ireturn, 1) := by decide +kernel
theorem dL_dip_22 : decode cL_dip 22 = .ok (.astore 5, 2) := by decide +kernel
theorem dL_dip_24 : decode cL_dip 24 = .ok (.ldc 22, 2) := by decide +kernel
theorem dL_dip_26 : decode cL_dip 26 = .ok (.ireturn, 1) := by decide +kernel
theorem dL_dip_27 : decode cL_dip 27 = .ok (.iload 4, 2) := by decide +kernel
theorem dL_dip_29 : decode cL_dip 29 = .ok (.ireturn, 1) := by decide +kernel
set_option maxRecDepth 20000 in
theorem ggL_lose_X6_lose : GoodIn wsL_lose wsX6_lose := goodIn_ca (goodIn_ca (goodIn_ca (goodIn_r _ [9, 10, 11, 12, 13, 14, 15, 16, 17, 8, 18, 19, 20, 21, 22, 23, 24, 25, 26, 27, 28, 29, 30, 31, 32, 33, 34, 35, 36, 37, 38, 39, 40, 41, 42, 43, 44, 45, 46, 47, 48, 49, 50, 51, 52, 53, 54, 55, 56, 57, 58, 59, 60, 61, 62, 63, 64, 65, 66, 67, 68, 69, 70, 71, 72, 73, 74, 75, 76, 77, 78, 79, 80, 81, 82, 83, 84, 85, 86, 87, 88, 89, 90, 91, 92, 93, 94, 95, 96, 97, 98, 99, 100, 101, 102, 103, 104, 105] (by decide +kernel) (by decide +kernel)) (goodIn_sub (fun _ h => List.mem_cons_of_mem _ (List.mem_append_left _ (List.mem_append_left _ (List.mem_append_right _ h)))) (by decide +kernel))) (goodIn_sub (fun _ h => List.mem_cons_of_mem _ (List.mem_append_left _ (List.mem_append_right _ h))) (by decide +kernel))) (goodIn_sub (fun _ h => List.mem_cons_of_mem _ (List.mem_append_right _ h)) (by decide +kernel))
set_option maxRecDepth 20000 in
theorem gL_lose_X6_lose : GoodIn wsL_lose (wsV RL 37 RX6 yX6_lose wsX6_lose) := goodIn_app (goodIn_of _ (by decide +kernel)) ggL_lose_X6_lose
theorem dL_lose_0 : decode cL_lose 0 = .ok (.aload_n 0, 1) := by decide +kernel
theorem dL_lose_1 : decode cL_lose 1 = .ok (.iload_n 1, 1) := by decide +kernel
theorem dL_lose_2 : decode cL_lose 2 = .ok (.iload_n 2, 1) := by decide +kernel
theorem dL_lose_3 : decode cL_lose 3 = .ok (.iload_n 3, 1) := by decide +kernel
theorem dL_lose_4 : decode cL_lose 4 = .ok (.invokevirtual 37, 3) := by decide +kernel
theorem dL_lose_7 : decode cL_lose 7 = .ok (.istore 4, 2) := by decide +kernel
theorem dL_lose_9 : decode cL_lose 9 = .ok (.goto 18, 3) := by decide +kernel
theorem dL_lose_12 : decode cL_lose 12 = .ok (.astore 5, 2) := by decide +kernel
theorem dL_lose_14 : decode cL_lose 14 = .ok (.ldc 16, 2) := by decide +kernel
theorem dL_lose_16 : decode cL_lose 16 = .ok (.ireturn, 1) := by decide +kernel
theorem dL_lose_17 : decode cL_lose 17 = .ok (.astore 5, 2) := by decide +kernel
theorem dL_lose_19 : decode cL_lose 19 = .ok (.ldc 19, 2) := by decide +kernel
theorem dL_lose_21 : decode cL_lose 21 = .ok (.ireturn, 1) := by decide +kernel
theorem dL_lose_22 : decode cL_lose 22 = .ok (.astore 5, 2) := by decide +kernel
theorem dL_lose_24 : decode cL_lose 24 = .ok (.ldc 22, 2) := by decide +kernel
theorem dL_lose_26 : decode cL_lose 26 = .ok (.ireturn, 1) := by decide +kernel
theorem dL_lose_27 : decode cL_lose 27 = .ok (.iload 4, 2) := by decide +kernel
theorem dL_lose_29 : decode cL_lose 29 = .ok (.ireturn, 1) := by decide +kernel
set_option maxRecDepth 20000 in
theorem ggL_release_X6_release : GoodIn wsL_release wsX6_release := goodIn_ca (goodIn_ca (goodIn_ca (goodIn_r _ [9, 10, 11, 12, 13, 14, 15, 16, 17, 18, 19, 20, 21, 22, 8, 23, 24, 25, 26, 27, 28, 29, 30, 31, 32, 33, 34, 35, 36, 37, 38, 39, 40, 41, 42, 43, 44, 45, 46, 47, 48, 49, 50, 51, 52, 53, 54, 55, 56, 57, 58, 59, 60, 61, 62, 63, 64, 65, 66, 67, 68, 69, 70, 71, 72, 73, 74, 75, 76, 77, 78, 79, 80, 81, 82, 83, 84, 85, 86, 87, 88, 89, 90, 91, 92, 93, 94, 95, 96, 97, 98, 99, 100, 101, 102, 103, 104, 105, 106, 107, 108, 109, 110, 111, 112, 113, 114, 115, 116, 117, 118, 119, 120, 121, 122, 123, 124, 125, 126, 127, 128, 129, 130, 131, 132, 133, 134, 135, 136, 137, 138, 139, 140, 141, 142, 143, 144, 145, 146, 147, 148, 149, 150, 151, 152, 153, 154, 155, 156, 157, 158, 159, 160, 161, 162, 163, 164, 165, 166, 167, 168, 169] (by decide +kernel) (by decide +kernel)) (goodIn_sub (fun _ h => List.mem_cons_of_mem _ (List.mem_append_left _ (List.mem_append_left _ (List.mem_append_right _ h)))) (by decide +kernel))) (goodIn_sub (fun _ h => List.mem_cons_of_mem _ (List.mem_append_left _ (List.mem_append_right _ h))) (by decide +kernel))) (goodIn_sub (fun _ h => List.mem_cons_of_mem _ (List.mem_append_right _ h)) (by decide +kernel))
set_option maxRecDepth 20000 in
theorem gL_release_X6_release : GoodIn wsL_release (wsV RL 41 RX6 yX6_release wsX6_release) := goodIn_app (goodIn_of _ (by decide +kernel)) ggL_release_X6_release
theorem dL_release_0 : decode cL_release 0 = .ok (.aload_n 0, 1) := by decide +kernel
theorem dL_release_1 : decode cL_release 1 = .ok (.iload_n 1, 1) := by decide +kernel
theorem dL_release_2 : decode cL_release 2 = .ok (.iload_n 2, 1) := by decide +kernel
theorem dL_release_3 : decode cL_release 3 = .ok (.invokevirtual 41, 3) := by decide +kernel
theorem dL_release_6 : decode cL_release 6 = .ok (.istore_n 3, 1) := by decide +kernel
theorem dL_release_7 : decode cL_release 7 = .ok (.goto 18, 3) := by decide +kernel
theorem dL_release_10 : decode cL_release 10 = .ok (.astore 4, 2) := by decide +kernel
theorem dL_release_12 : decode cL_release 12 = .ok (.ldc 16, 2) := by decide +kernel
theorem dL_release_14 : decode cL_release 14 = .ok (.ireturn, 1) := by decide +kernel
theorem dL_release_15 : decode cL_release 15 = .ok (.astore 4, 2) := by decide +kernel
theorem dL_release_17 : decode cL_release 17 = .ok (.ldc 19, 2) := by decide +kernel
theorem dL_release_19 : decode cL_release 19 = .ok (.ireturn, 1) := by decide +kernel
theorem dL_release_20 : decode cL_release 20 = .ok (.astore 4, 2) := by decide +kernel
theorem dL_release_22 : decode cL_release 22 = .ok (.ldc 22, 2) := by decide +kernel
theorem dL_release_24 : decode cL_release 24 = .ok (.ireturn, 1) := by decide +kernel
theorem dL_release_25 : decode cL_release 25 = .ok (.iload_n 3, 1) := by decide +kernel
theorem dL_release_26 : decode cL_release 26 = .ok (.ireturn, 1) := by decide +kernel
set_option maxRecDepth 20000 in
theorem ggL_permit_X6_permit : GoodIn wsL_permit wsX6_permit := goodIn_ca (goodIn_r _ [7, 8, 9, 10, 11, 12, 13, 6, 14, 15, 16, 17, 18, 19, 20, 21, 22, 23, 24, 25, 26] (by decide +kernel) (by decide +kernel)) (goodIn_sub (fun _ h => List.mem_cons_of_mem _ (List.mem_append_right _ h)) (by decide +kernel))
set_option maxRecDepth 20000 in
theorem gL_permit_X6_permit : GoodIn wsL_permit (wsV RL 44 RX6 yX6_permit wsX6_permit) := goodIn_app (goodIn_of _ (by decide +kernel)) ggL_permit_X6_permit
theorem dL_permit_0 : decode cL_permit 0 = .ok (.aload_n 0, 1) := by decide +kernel
theorem dL_permit_1 : decode cL_permit 1 = .ok (.iload_n 1, 1) := by decide +kernel
theorem dL_permit_2 : decode cL_permit 2 = .ok (.invokevirtual 44, 3) := by decide +kernel
theorem dL_permit_5 : decode cL_permit 5 = .ok (.istore_n 2, 1) := by decide +kernel
theorem dL_permit_6 : decode cL_permit 6 = .ok (.goto 7, 3) := by decide +kernel
theorem dL_permit_9 : decode cL_permit 9 = .ok (.astore_n 3, 1) := by decide +kernel
theorem dL_permit_10 : decode cL_permit 10 = .ok (.ldc 19, 2) := by decide +kernel
theorem dL_permit_12 : decode cL_permit 12 = .ok (.ireturn, 1) := by decide +kernel
theorem dL_permit_13 : decode cL_permit 13 = .ok (.iload_n 2, 1) := by decide +kernel
theorem dL_permit_14 : decode cL_permit 14 = .ok (.ireturn, 1) := by decide +kernel
set_option maxRecDepth 20000 in
theorem ggL_denature_X6_denature : GoodIn wsL_denature wsX6_denature := goodIn_ca (goodIn_ca (goodIn_ca (goodIn_r _ [9, 10, 11, 12, 13, 14, 15, 16, 17, 18, 8, 19, 20, 21, 22, 23, 24, 25, 26, 27, 28, 29, 30, 31, 32, 33, 34, 35, 36, 37, 38, 39, 40, 41, 42, 43, 44, 45, 46, 47, 48, 49, 50, 51, 52, 53, 54, 55, 56, 57, 58, 59, 60, 61, 62, 63, 64, 65, 66, 67, 68, 69, 70, 71, 72, 73, 74, 75, 76, 77, 78, 79, 80, 81, 82, 83, 84, 85, 86, 87, 88] (by decide +kernel) (by decide +kernel)) (goodIn_sub (fun _ h => List.mem_cons_of_mem _ (List.mem_append_left _ (List.mem_append_left _ (List.mem_append_right _ h)))) (by decide +kernel))) (goodIn_sub (fun _ h => List.mem_cons_of_mem _ (List.mem_append_left _ (List.mem_append_right _ h))) (by decide +kernel))) (goodIn_sub (fun _ h => List.mem_cons_of_mem _ (List.mem_append_right _ h)) (by decide +kernel))
set_option maxRecDepth 20000 in
theorem gL_denature_X6_denature : GoodIn wsL_denature (wsV RL 48 RX6 yX6_denature wsX6_denature) := goodIn_app (goodIn_of _ (by decide +kernel)) ggL_denature_X6_denature
theorem dL_denature_0 : decode cL_denature 0 = .ok (.aload_n 0, 1) := by decide +kernel
theorem dL_denature_1 : decode cL_denature 1 = .ok (.iload_n 1, 1) := by decide +kernel
theorem dL_denature_2 : decode cL_denature 2 = .ok (.iload_n 2, 1) := by decide +kernel
theorem dL_denature_3 : decode cL_denature 3 = .ok (.invokevirtual 48, 3) := by decide +kernel
theorem dL_denature_6 : decode cL_denature 6 = .ok (.istore_n 3, 1) := by decide +kernel
theorem dL_denature_7 : decode cL_denature 7 = .ok (.goto 18, 3) := by decide +kernel
theorem dL_denature_10 : decode cL_denature 10 = .ok (.astore 4, 2) := by decide +kernel
theorem dL_denature_12 : decode cL_denature 12 = .ok (.ldc 16, 2) := by decide +kernel
theorem dL_denature_14 : decode cL_denature 14 = .ok (.ireturn, 1) := by decide +kernel
theorem dL_denature_15 : decode cL_denature 15 = .ok (.astore 4, 2) := by decide +kernel
theorem dL_denature_17 : decode cL_denature 17 = .ok (.ldc 19, 2) := by decide +kernel
theorem dL_denature_19 : decode cL_denature 19 = .ok (.ireturn, 1) := by decide +kernel
theorem dL_denature_20 : decode cL_denature 20 = .ok (.astore 4, 2) := by decide +kernel
theorem dL_denature_22 : decode cL_denature 22 = .ok (.ldc 22, 2) := by decide +kernel
theorem dL_denature_24 : decode cL_denature 24 = .ok (.ireturn, 1) := by decide +kernel
theorem dL_denature_25 : decode cL_denature 25 = .ok (.iload_n 3, 1) := by decide +kernel
theorem dL_denature_26 : decode cL_denature 26 = .ok (.ireturn, 1) := by decide +kernel
set_option maxRecDepth 20000 in
theorem ggL_export_X6_export : GoodIn wsL_export wsX6_export := goodIn_ca (goodIn_ca (goodIn_r _ [8, 9, 10, 11, 12, 13, 14, 15, 16, 17, 18, 19, 20, 21, 22, 23, 7, 24, 25, 26, 27, 28, 29, 30, 31, 32, 33, 34, 35, 36, 37, 38, 39, 40, 41, 42, 43, 44, 45, 46, 47, 48, 49, 50, 51, 52, 53, 54, 55, 56, 57, 58, 59, 60, 61, 62, 63, 64, 65, 66, 67, 68, 69, 70, 71, 72, 73, 74, 75, 76, 77, 78, 79, 80, 81] (by decide +kernel) (by decide +kernel)) (goodIn_sub (fun _ h => List.mem_cons_of_mem _ (List.mem_append_left _ (List.mem_append_right _ h))) (by decide +kernel))) (goodIn_sub (fun _ h => List.mem_cons_of_mem _ (List.mem_append_right _ h)) (by decide +kernel))
set_option maxRecDepth 20000 in
theorem gL_export_X6_export : GoodIn wsL_export (wsV RL 51 RX6 yX6_export wsX6_export) := goodIn_app (goodIn_of _ (by decide +kernel)) ggL_export_X6_export
theorem dL_export_0 : decode cL_export 0 = .ok (.aload_n 0, 1) := by decide +kernel
theorem dL_export_1 : decode cL_export 1 = .ok (.iload_n 1, 1) := by decide +kernel
theorem dL_export_2 : decode cL_export 2 = .ok (.invokevirtual 51, 3) := by decide +kernel
theorem dL_export_5 : decode cL_export 5 = .ok (.istore_n 2, 1) := by decide +kernel
theorem dL_export_6 : decode cL_export 6 = .ok (.goto 11, 3) := by decide +kernel
theorem dL_export_9 : decode cL_export 9 = .ok (.astore_n 3, 1) := by decide +kernel
theorem dL_export_10 : decode cL_export 10 = .ok (.ldc 19, 2) := by decide +kernel
theorem dL_export_12 : decode cL_export 12 = .ok (.ireturn, 1) := by decide +kernel
theorem dL_export_13 : decode cL_export 13 = .ok (.astore_n 3, 1) := by decide +kernel
theorem dL_export_14 : decode cL_export 14 = .ok (.ldc 22, 2) := by decide +kernel
theorem dL_export_16 : decode cL_export 16 = .ok (.ireturn, 1) := by decide +kernel
theorem dL_export_17 : decode cL_export 17 = .ok (.iload_n 2, 1) := by decide +kernel
theorem dL_export_18 : decode cL_export 18 = .ok (.ireturn, 1) := by decide +kernel
set_option maxRecDepth 20000 in
theorem ggL_pay_X6_pay : GoodIn wsL_pay wsX6_pay := goodIn_ca (goodIn_ca (goodIn_r _ [8, 9, 10, 11, 12, 13, 14, 15, 16, 7, 17, 18, 19, 20, 21, 22, 23, 24, 25, 26, 27, 28, 29, 30, 31, 32] (by decide +kernel) (by decide +kernel)) (goodIn_sub (fun _ h => List.mem_cons_of_mem _ (List.mem_append_left _ (List.mem_append_right _ h))) (by decide +kernel))) (goodIn_sub (fun _ h => List.mem_cons_of_mem _ (List.mem_append_right _ h)) (by decide +kernel))
set_option maxRecDepth 20000 in
theorem gL_pay_X6_pay : GoodIn wsL_pay (wsV RL 54 RX6 yX6_pay wsX6_pay) := goodIn_app (goodIn_of _ (by decide +kernel)) ggL_pay_X6_pay
theorem dL_pay_0 : decode cL_pay 0 = .ok (.aload_n 0, 1) := by decide +kernel
theorem dL_pay_1 : decode cL_pay 1 = .ok (.iload_n 1, 1) := by decide +kernel
theorem dL_pay_2 : decode cL_pay 2 = .ok (.invokevirtual 54, 3) := by decide +kernel
theorem dL_pay_5 : decode cL_pay 5 = .ok (.istore_n 2, 1) := by decide +kernel
theorem dL_pay_6 : decode cL_pay 6 = .ok (.goto 11, 3) := by decide +kernel
theorem dL_pay_9 : decode cL_pay 9 = .ok (.astore_n 3, 1) := by decide +kernel
theorem dL_pay_10 : decode cL_pay 10 = .ok (.ldc 19, 2) := by decide +kernel
theorem dL_pay_12 : decode cL_pay 12 = .ok (.ireturn, 1) := by decide +kernel
theorem dL_pay_13 : decode cL_pay 13 = .ok (.astore_n 3, 1) := by decide +kernel
theorem dL_pay_14 : decode cL_pay 14 = .ok (.ldc 22, 2) := by decide +kernel
theorem dL_pay_16 : decode cL_pay 16 = .ok (.ireturn, 1) := by decide +kernel
theorem dL_pay_17 : decode cL_pay 17 = .ok (.iload_n 2, 1) := by decide +kernel
theorem dL_pay_18 : decode cL_pay 18 = .ok (.ireturn, 1) := by decide +kernel
set_option maxRecDepth 20000 in
theorem ggL_budget_X6_budget : GoodIn wsL_budget wsX6_budget := goodIn_ca (goodIn_ca (goodIn_r _ [8, 9, 10, 11, 12, 13, 14, 15, 16, 17, 18, 19, 20, 7, 21, 22, 23, 24, 25, 26, 27, 28, 29, 30, 31, 32, 33, 34, 35, 36, 37, 38, 39, 40, 41, 42, 43, 44, 45] (by decide +kernel) (by decide +kernel)) (goodIn_sub (fun _ h => List.mem_cons_of_mem _ (List.mem_append_left _ (List.mem_append_right _ h))) (by decide +kernel))) (goodIn_sub (fun _ h => List.mem_cons_of_mem _ (List.mem_append_right _ h)) (by decide +kernel))
set_option maxRecDepth 20000 in
theorem gL_budget_X6_budget : GoodIn wsL_budget (wsV RL 57 RX6 yX6_budget wsX6_budget) := goodIn_app (goodIn_of _ (by decide +kernel)) ggL_budget_X6_budget
theorem dL_budget_0 : decode cL_budget 0 = .ok (.aload_n 0, 1) := by decide +kernel
theorem dL_budget_1 : decode cL_budget 1 = .ok (.iload_n 1, 1) := by decide +kernel
theorem dL_budget_2 : decode cL_budget 2 = .ok (.iload_n 2, 1) := by decide +kernel
theorem dL_budget_3 : decode cL_budget 3 = .ok (.iload_n 3, 1) := by decide +kernel
theorem dL_budget_4 : decode cL_budget 4 = .ok (.invokevirtual 57, 3) := by decide +kernel
theorem dL_budget_7 : decode cL_budget 7 = .ok (.goto 13, 3) := by decide +kernel
theorem dL_budget_10 : decode cL_budget 10 = .ok (.astore 4, 2) := by decide +kernel
theorem dL_budget_12 : decode cL_budget 12 = .ok (.ldc 19, 2) := by decide +kernel
theorem dL_budget_14 : decode cL_budget 14 = .ok (.ireturn, 1) := by decide +kernel
theorem dL_budget_15 : decode cL_budget 15 = .ok (.astore 4, 2) := by decide +kernel
theorem dL_budget_17 : decode cL_budget 17 = .ok (.ldc 22, 2) := by decide +kernel
theorem dL_budget_19 : decode cL_budget 19 = .ok (.ireturn, 1) := by decide +kernel
theorem dL_budget_20 : decode cL_budget 20 = .ok (.iconst 0, 1) := by decide +kernel
theorem dL_budget_21 : decode cL_budget 21 = .ok (.ireturn, 1) := by decide +kernel
set_option maxRecDepth 20000 in
theorem ggL_guarantee_X6_guarantee : GoodIn wsL_guarantee wsX6_guarantee := goodIn_ca (goodIn_ca (goodIn_r _ [8, 9, 10, 11, 12, 13, 14, 15, 16, 17, 7, 18, 19, 20, 21, 22, 23, 24, 25, 26, 27, 28, 29, 30, 31, 32, 33, 34, 35, 36, 37, 38, 39, 40, 41, 42, 43, 44, 45, 46, 47, 48, 49, 50, 51, 52, 53, 54, 55, 56, 57, 58, 59, 60, 61, 62, 63, 64, 65, 66, 67, 68, 69, 70, 71, 72, 73, 74, 75, 76, 77, 78] (by decide +kernel) (by decide +kernel)) (goodIn_sub (fun _ h => List.mem_cons_of_mem _ (List.mem_append_left _ (List.mem_append_right _ h))) (by decide +kernel))) (goodIn_sub (fun _ h => List.mem_cons_of_mem _ (List.mem_append_right _ h)) (by decide +kernel))
set_option maxRecDepth 20000 in
theorem gL_guarantee_X6_guarantee : GoodIn wsL_guarantee (wsV RL 61 RX6 yX6_guarantee wsX6_guarantee) := goodIn_app (goodIn_of _ (by decide +kernel)) ggL_guarantee_X6_guarantee
theorem dL_guarantee_0 : decode cL_guarantee 0 = .ok (.aload_n 0, 1) := by decide +kernel
theorem dL_guarantee_1 : decode cL_guarantee 1 = .ok (.iload_n 1, 1) := by decide +kernel
theorem dL_guarantee_2 : decode cL_guarantee 2 = .ok (.invokevirtual 61, 3) := by decide +kernel
theorem dL_guarantee_5 : decode cL_guarantee 5 = .ok (.istore_n 2, 1) := by decide +kernel
theorem dL_guarantee_6 : decode cL_guarantee 6 = .ok (.goto 11, 3) := by decide +kernel
theorem dL_guarantee_9 : decode cL_guarantee 9 = .ok (.astore_n 3, 1) := by decide +kernel
theorem dL_guarantee_10 : decode cL_guarantee 10 = .ok (.ldc 19, 2) := by decide +kernel
theorem dL_guarantee_12 : decode cL_guarantee 12 = .ok (.ireturn, 1) := by decide +kernel
theorem dL_guarantee_13 : decode cL_guarantee 13 = .ok (.astore_n 3, 1) := by decide +kernel
theorem dL_guarantee_14 : decode cL_guarantee 14 = .ok (.ldc 22, 2) := by decide +kernel
theorem dL_guarantee_16 : decode cL_guarantee 16 = .ok (.ireturn, 1) := by decide +kernel
theorem dL_guarantee_17 : decode cL_guarantee 17 = .ok (.iload_n 2, 1) := by decide +kernel
theorem dL_guarantee_18 : decode cL_guarantee 18 = .ok (.ireturn, 1) := by decide +kernel
set_option maxRecDepth 20000 in
theorem ggL_ship_X6_ship : GoodIn wsL_ship wsX6_ship := goodIn_ca (goodIn_ca (goodIn_ca (goodIn_r _ [9, 10, 11, 12, 13, 14, 15, 16, 17, 18, 19, 20, 21, 22, 23, 8, 24, 25, 26, 27, 28, 29, 30, 31, 32, 33, 34, 35, 36, 37, 38, 39, 40, 41, 42, 43, 44, 45, 46, 47, 48, 49, 50, 51, 52, 53, 54, 55, 56, 57, 58, 59, 60, 61, 62, 63, 64, 65, 66, 67, 68, 69, 70, 71, 72, 73, 74, 75, 76, 77, 78, 79, 80, 81, 82, 83, 84, 85, 86, 87, 88, 89, 90, 91, 92, 93, 94, 95, 96, 97, 98, 99, 100, 101, 102, 103, 104, 105, 106, 107, 108, 109, 110, 111, 112, 113, 114, 115, 116, 117, 118, 119, 120, 121, 122, 123, 124, 125, 126, 127, 128, 129, 130, 131, 132, 133, 134, 135, 136, 137, 138, 139, 140, 141, 142, 143, 144, 145, 146, 147, 148, 149, 150, 151, 152, 153, 154, 155, 156, 157, 158, 159, 160, 161, 162, 163, 164, 165, 166, 167, 168, 169, 170, 171, 172, 173, 174] (by decide +kernel) (by decide +kernel)) (goodIn_sub (fun _ h => List.mem_cons_of_mem _ (List.mem_append_left _ (List.mem_append_left _ (List.mem_append_right _ h)))) (by decide +kernel))) (goodIn_sub (fun _ h => List.mem_cons_of_mem _ (List.mem_append_left _ (List.mem_append_right _ h))) (by decide +kernel))) (goodIn_sub (fun _ h => List.mem_cons_of_mem _ (List.mem_append_right _ h)) (by decide +kernel))
set_option maxRecDepth 20000 in
theorem gL_ship_X6_ship : GoodIn wsL_ship (wsV RL 64 RX6 yX6_ship wsX6_ship) := goodIn_app (goodIn_of _ (by decide +kernel)) ggL_ship_X6_ship
theorem dL_ship_0 : decode cL_ship 0 = .ok (.aload_n 0, 1) := by decide +kernel
theorem dL_ship_1 : decode cL_ship 1 = .ok (.iload_n 1, 1) := by decide +kernel
theorem dL_ship_2 : decode cL_ship 2 = .ok (.iload_n 2, 1) := by decide +kernel
theorem dL_ship_3 : decode cL_ship 3 = .ok (.iload_n 3, 1) := by decide +kernel
theorem dL_ship_4 : decode cL_ship 4 = .ok (.iload 4, 2) := by decide +kernel
theorem dL_ship_6 : decode cL_ship 6 = .ok (.invokevirtual 64, 3) := by decide +kernel
theorem dL_ship_9 : decode cL_ship 9 = .ok (.istore 5, 2) := by decide +kernel
theorem dL_ship_11 : decode cL_ship 11 = .ok (.goto 18, 3) := by decide +kernel
theorem dL_ship_14 : decode cL_ship 14 = .ok (.astore 6, 2) := by decide +kernel
theorem dL_ship_16 : decode cL_ship 16 = .ok (.ldc 16, 2) := by decide +kernel
theorem dL_ship_18 : decode cL_ship 18 = .ok (.ireturn, 1) := by decide +kernel
theorem dL_ship_19 : decode cL_ship 19 = .ok (.astore 6, 2) := by decide +kernel
theorem dL_ship_21 : decode cL_ship 21 = .ok (.ldc 19, 2) := by decide +kernel
theorem dL_ship_23 : decode cL_ship 23 = .ok (.ireturn, 1) := by decide +kernel
theorem dL_ship_24 : decode cL_ship 24 = .ok (.astore 6, 2) := by decide +kernel
theorem dL_ship_26 : decode cL_ship 26 = .ok (.ldc 22, 2) := by decide +kernel
theorem dL_ship_28 : decode cL_ship 28 = .ok (.ireturn, 1) := by decide +kernel
theorem dL_ship_29 : decode cL_ship 29 = .ok (.iload 5, 2) := by decide +kernel
theorem dL_ship_31 : decode cL_ship 31 = .ok (.ireturn, 1) := by decide +kernel
set_option maxRecDepth 20000 in
theorem ggL_arrive_X6_arrive : GoodIn wsL_arrive wsX6_arrive := goodIn_ca (goodIn_ca (goodIn_ca (goodIn_r _ [9, 10, 11, 12, 13, 14, 15, 16, 17, 8, 18, 19, 20, 21, 22, 23, 24, 25, 26, 27, 28, 29, 30, 31, 32, 33, 34, 35, 36, 37, 38, 39, 40, 41, 42, 43, 44, 45, 46, 47, 48, 49, 50, 51, 52, 53, 54, 55, 56, 57, 58, 59, 60, 61, 62, 63, 64, 65, 66, 67, 68, 69, 70, 71, 72, 73, 74, 75, 76, 77, 78, 79, 80, 81, 82, 83, 84, 85, 86, 87, 88, 89, 90, 91, 92, 93, 94, 95, 96, 97, 98, 99, 100, 101, 102, 103, 104, 105, 106, 107, 108, 109, 110, 111, 112, 113, 114, 115, 116, 117, 118] (by decide +kernel) (by decide +kernel)) (goodIn_sub (fun _ h => List.mem_cons_of_mem _ (List.mem_append_left _ (List.mem_append_left _ (List.mem_append_right _ h)))) (by decide +kernel))) (goodIn_sub (fun _ h => List.mem_cons_of_mem _ (List.mem_append_left _ (List.mem_append_right _ h))) (by decide +kernel))) (goodIn_sub (fun _ h => List.mem_cons_of_mem _ (List.mem_append_right _ h)) (by decide +kernel))
set_option maxRecDepth 20000 in
theorem gL_arrive_X6_arrive : GoodIn wsL_arrive (wsV RL 68 RX6 yX6_arrive wsX6_arrive) := goodIn_app (goodIn_of _ (by decide +kernel)) ggL_arrive_X6_arrive
theorem dL_arrive_0 : decode cL_arrive 0 = .ok (.aload_n 0, 1) := by decide +kernel
theorem dL_arrive_1 : decode cL_arrive 1 = .ok (.iload_n 1, 1) := by decide +kernel
theorem dL_arrive_2 : decode cL_arrive 2 = .ok (.iload_n 2, 1) := by decide +kernel
theorem dL_arrive_3 : decode cL_arrive 3 = .ok (.invokevirtual 68, 3) := by decide +kernel
theorem dL_arrive_6 : decode cL_arrive 6 = .ok (.istore_n 3, 1) := by decide +kernel
theorem dL_arrive_7 : decode cL_arrive 7 = .ok (.goto 18, 3) := by decide +kernel
theorem dL_arrive_10 : decode cL_arrive 10 = .ok (.astore 4, 2) := by decide +kernel
theorem dL_arrive_12 : decode cL_arrive 12 = .ok (.ldc 16, 2) := by decide +kernel
theorem dL_arrive_14 : decode cL_arrive 14 = .ok (.ireturn, 1) := by decide +kernel
theorem dL_arrive_15 : decode cL_arrive 15 = .ok (.astore 4, 2) := by decide +kernel
theorem dL_arrive_17 : decode cL_arrive 17 = .ok (.ldc 19, 2) := by decide +kernel
theorem dL_arrive_19 : decode cL_arrive 19 = .ok (.ireturn, 1) := by decide +kernel
theorem dL_arrive_20 : decode cL_arrive 20 = .ok (.astore 4, 2) := by decide +kernel
theorem dL_arrive_22 : decode cL_arrive 22 = .ok (.ldc 22, 2) := by decide +kernel
theorem dL_arrive_24 : decode cL_arrive 24 = .ok (.ireturn, 1) := by decide +kernel
theorem dL_arrive_25 : decode cL_arrive 25 = .ok (.iload_n 3, 1) := by decide +kernel
theorem dL_arrive_26 : decode cL_arrive 26 = .ok (.ireturn, 1) := by decide +kernel
set_option maxRecDepth 20000 in
theorem ggL_pass_X6_pass : GoodIn wsL_pass wsX6_pass := goodIn_ca (goodIn_ca (goodIn_r _ [8, 9, 10, 11, 12, 13, 14, 15, 16, 7, 17, 18, 19, 20, 21, 22, 23, 24, 25, 26, 27, 28, 29, 30, 31, 32, 33, 34, 35, 36, 37, 38, 39, 40, 41, 42, 43, 44, 45, 46, 47, 48, 49, 50, 51, 52, 53, 54, 55, 56, 57, 58, 59, 60, 61, 62, 63, 64, 65, 66, 67, 68, 69, 70, 71, 72, 73, 74, 75, 76, 77, 78, 79, 80, 81, 82, 83, 84, 85, 86, 87, 88, 89, 90, 91, 92, 93, 94, 95, 96, 97, 98, 99, 100, 101, 102, 103, 104, 105, 106, 107, 108, 109, 110, 111, 112, 113, 114, 115, 116, 117, 118, 119, 120, 121, 122, 123, 124, 125, 126, 127, 128, 129, 130, 131, 132, 133] (by decide +kernel) (by decide +kernel)) (goodIn_sub (fun _ h => List.mem_cons_of_mem _ (List.mem_append_left _ (List.mem_append_right _ h))) (by decide +kernel))) (goodIn_sub (fun _ h => List.mem_cons_of_mem _ (List.mem_append_right _ h)) (by decide +kernel))
set_option maxRecDepth 20000 in
theorem gL_pass_X6_pass : GoodIn wsL_pass (wsV RL 71 RX6 yX6_pass wsX6_pass) := goodIn_app (goodIn_of _ (by decide +kernel)) ggL_pass_X6_pass
theorem dL_pass_0 : decode cL_pass 0 = .ok (.aload_n 0, 1) := by decide +kernel
theorem dL_pass_1 : decode cL_pass 1 = .ok (.iload_n 1, 1) := by decide +kernel
theorem dL_pass_2 : decode cL_pass 2 = .ok (.invokevirtual 71, 3) := by decide +kernel
theorem dL_pass_5 : decode cL_pass 5 = .ok (.istore_n 2, 1) := by decide +kernel
theorem dL_pass_6 : decode cL_pass 6 = .ok (.goto 11, 3) := by decide +kernel
theorem dL_pass_9 : decode cL_pass 9 = .ok (.astore_n 3, 1) := by decide +kernel
theorem dL_pass_10 : decode cL_pass 10 = .ok (.ldc 19, 2) := by decide +kernel
theorem dL_pass_12 : decode cL_pass 12 = .ok (.ireturn, 1) := by decide +kernel
theorem dL_pass_13 : decode cL_pass 13 = .ok (.astore_n 3, 1) := by decide +kernel
theorem dL_pass_14 : decode cL_pass 14 = .ok (.ldc 22, 2) := by decide +kernel
theorem dL_pass_16 : decode cL_pass 16 = .ok (.ireturn, 1) := by decide +kernel
theorem dL_pass_17 : decode cL_pass 17 = .ok (.iload_n 2, 1) := by decide +kernel
theorem dL_pass_18 : decode cL_pass 18 = .ok (.ireturn, 1) := by decide +kernel
set_option maxRecDepth 20000 in
theorem ggL_ofVessel_X6_ofVessel : GoodIn wsL_ofVessel wsX6_ofVessel := goodIn_ca (goodIn_r _ [7, 8, 9, 10, 11, 12, 6, 13, 14, 15, 16, 17, 18, 19, 20, 21, 22, 23, 24, 25, 26, 27, 28, 29, 30, 31, 32, 33, 34, 35, 36, 37, 38, 39, 40, 41, 42, 43, 44, 45, 46, 47, 48, 49, 50, 51, 52, 53, 54, 55, 56, 57, 58, 59, 60] (by decide +kernel) (by decide +kernel)) (goodIn_sub (fun _ h => List.mem_cons_of_mem _ (List.mem_append_right _ h)) (by decide +kernel))
set_option maxRecDepth 20000 in
theorem gL_ofVessel_X6_ofVessel : GoodIn wsL_ofVessel (wsV RL 74 RX6 yX6_ofVessel wsX6_ofVessel) := goodIn_app (goodIn_of _ (by decide +kernel)) ggL_ofVessel_X6_ofVessel
theorem dL_ofVessel_0 : decode cL_ofVessel 0 = .ok (.aload_n 0, 1) := by decide +kernel
theorem dL_ofVessel_1 : decode cL_ofVessel 1 = .ok (.iload_n 1, 1) := by decide +kernel
theorem dL_ofVessel_2 : decode cL_ofVessel 2 = .ok (.iload_n 2, 1) := by decide +kernel
theorem dL_ofVessel_3 : decode cL_ofVessel 3 = .ok (.invokevirtual 74, 3) := by decide +kernel
theorem dL_ofVessel_6 : decode cL_ofVessel 6 = .ok (.istore_n 3, 1) := by decide +kernel
theorem dL_ofVessel_7 : decode cL_ofVessel 7 = .ok (.goto 8, 3) := by decide +kernel
theorem dL_ofVessel_10 : decode cL_ofVessel 10 = .ok (.astore 4, 2) := by decide +kernel
theorem dL_ofVessel_12 : decode cL_ofVessel 12 = .ok (.ldc 16, 2) := by decide +kernel
theorem dL_ofVessel_14 : decode cL_ofVessel 14 = .ok (.ireturn, 1) := by decide +kernel
theorem dL_ofVessel_15 : decode cL_ofVessel 15 = .ok (.iload_n 3, 1) := by decide +kernel
theorem dL_ofVessel_16 : decode cL_ofVessel 16 = .ok (.ireturn, 1) := by decide +kernel
set_option maxRecDepth 20000 in
theorem ggL_dropsAnew_X6_dropsAnew : GoodIn wsL_dropsAnew wsX6_dropsAnew := goodIn_ca (goodIn_r _ [7, 8, 9, 10, 6, 11, 12, 13, 14, 15, 16, 17, 18, 19, 20, 21, 22, 23, 24, 25, 26, 27, 28, 29, 30, 31, 32, 33, 34, 35, 36, 37, 38, 39, 40, 41, 42, 43, 44, 45, 46, 47, 48, 49, 50, 51, 52, 53, 54, 55, 56, 57] (by decide +kernel) (by decide +kernel)) (goodIn_sub (fun _ h => List.mem_cons_of_mem _ (List.mem_append_right _ h)) (by decide +kernel))
set_option maxRecDepth 20000 in
theorem gL_dropsAnew_X6_dropsAnew : GoodIn wsL_dropsAnew (wsV RL 77 RX6 yX6_dropsAnew wsX6_dropsAnew) := goodIn_app (goodIn_of _ (by decide +kernel)) ggL_dropsAnew_X6_dropsAnew
theorem dL_dropsAnew_0 : decode cL_dropsAnew 0 = .ok (.aload_n 0, 1) := by decide +kernel
theorem dL_dropsAnew_1 : decode cL_dropsAnew 1 = .ok (.iload_n 1, 1) := by decide +kernel
theorem dL_dropsAnew_2 : decode cL_dropsAnew 2 = .ok (.invokevirtual 77, 3) := by decide +kernel
theorem dL_dropsAnew_5 : decode cL_dropsAnew 5 = .ok (.istore_n 2, 1) := by decide +kernel
theorem dL_dropsAnew_6 : decode cL_dropsAnew 6 = .ok (.goto 7, 3) := by decide +kernel
theorem dL_dropsAnew_9 : decode cL_dropsAnew 9 = .ok (.astore_n 3, 1) := by decide +kernel
theorem dL_dropsAnew_10 : decode cL_dropsAnew 10 = .ok (.ldc 16, 2) := by decide +kernel
theorem dL_dropsAnew_12 : decode cL_dropsAnew 12 = .ok (.ireturn, 1) := by decide +kernel
theorem dL_dropsAnew_13 : decode cL_dropsAnew 13 = .ok (.iload_n 2, 1) := by decide +kernel
theorem dL_dropsAnew_14 : decode cL_dropsAnew 14 = .ok (.ireturn, 1) := by decide +kernel
set_option maxRecDepth 20000 in
theorem ggL_ofMovement_X6_ofMovement : GoodIn wsL_ofMovement wsX6_ofMovement := goodIn_ca (goodIn_r _ [7, 8, 9, 10, 11, 12, 6, 13, 14, 15, 16, 17, 18, 19, 20, 21, 22, 23, 24, 25, 26, 27, 28, 29, 30, 31, 32, 33, 34, 35, 36, 37, 38, 39, 40, 41, 42, 43, 44, 45, 46, 47, 48, 49, 50, 51, 52, 53, 54, 55, 56, 57, 58] (by decide +kernel) (by decide +kernel)) (goodIn_sub (fun _ h => List.mem_cons_of_mem _ (List.mem_append_right _ h)) (by decide +kernel))
set_option maxRecDepth 20000 in
theorem gL_ofMovement_X6_ofMovement : GoodIn wsL_ofMovement (wsV RL 80 RX6 yX6_ofMovement wsX6_ofMovement) := goodIn_app (goodIn_of _ (by decide +kernel)) ggL_ofMovement_X6_ofMovement
theorem dL_ofMovement_0 : decode cL_ofMovement 0 = .ok (.aload_n 0, 1) := by decide +kernel
theorem dL_ofMovement_1 : decode cL_ofMovement 1 = .ok (.iload_n 1, 1) := by decide +kernel
theorem dL_ofMovement_2 : decode cL_ofMovement 2 = .ok (.iload_n 2, 1) := by decide +kernel
theorem dL_ofMovement_3 : decode cL_ofMovement 3 = .ok (.invokevirtual 80, 3) := by decide +kernel
theorem dL_ofMovement_6 : decode cL_ofMovement 6 = .ok (.istore_n 3, 1) := by decide +kernel
theorem dL_ofMovement_7 : decode cL_ofMovement 7 = .ok (.goto 8, 3) := by decide +kernel
theorem dL_ofMovement_10 : decode cL_ofMovement 10 = .ok (.astore 4, 2) := by decide +kernel
theorem dL_ofMovement_12 : decode cL_ofMovement 12 = .ok (.ldc 16, 2) := by decide +kernel
theorem dL_ofMovement_14 : decode cL_ofMovement 14 = .ok (.ireturn, 1) := by decide +kernel
theorem dL_ofMovement_15 : decode cL_ofMovement 15 = .ok (.iload_n 3, 1) := by decide +kernel
theorem dL_ofMovement_16 : decode cL_ofMovement 16 = .ok (.ireturn, 1) := by decide +kernel
set_option maxRecDepth 20000 in
theorem ggL_ledger_X6_ledger : GoodIn wsL_ledger wsX6_ledger := goodIn_ca (goodIn_r _ [7, 8, 9, 10, 11, 12, 13, 6, 14, 15, 16, 17, 18, 19, 20, 21, 22, 23, 24, 25, 26, 27, 28, 29, 30, 31, 32, 33, 34, 35, 36, 37, 38, 39, 40, 41, 42, 43, 44, 45, 46, 47, 48, 49, 50, 51, 52, 53, 54, 55, 56, 57, 58, 59, 60, 61, 62, 63, 64, 65, 66, 67, 68, 69, 70, 71, 72, 73, 74, 75, 76, 77, 78, 79, 80, 81, 82] (by decide +kernel) (by decide +kernel)) (goodIn_sub (fun _ h => List.mem_cons_of_mem _ (List.mem_append_right _ h)) (by decide +kernel))
set_option maxRecDepth 20000 in
theorem gL_ledger_X6_ledger : GoodIn wsL_ledger (wsV RL 83 RX6 yX6_ledger wsX6_ledger) := goodIn_app (goodIn_of _ (by decide +kernel)) ggL_ledger_X6_ledger
theorem dL_ledger_0 : decode cL_ledger 0 = .ok (.aload_n 0, 1) := by decide +kernel
theorem dL_ledger_1 : decode cL_ledger 1 = .ok (.iload_n 1, 1) := by decide +kernel
theorem dL_ledger_2 : decode cL_ledger 2 = .ok (.invokevirtual 83, 3) := by decide +kernel
theorem dL_ledger_5 : decode cL_ledger 5 = .ok (.istore_n 2, 1) := by decide +kernel
theorem dL_ledger_6 : decode cL_ledger 6 = .ok (.goto 7, 3) := by decide +kernel
theorem dL_ledger_9 : decode cL_ledger 9 = .ok (.astore_n 3, 1) := by decide +kernel
theorem dL_ledger_10 : decode cL_ledger 10 = .ok (.ldc 19, 2) := by decide +kernel
theorem dL_ledger_12 : decode cL_ledger 12 = .ok (.ireturn, 1) := by decide +kernel
theorem dL_ledger_13 : decode cL_ledger 13 = .ok (.iload_n 2, 1) := by decide +kernel
theorem dL_ledger_14 : decode cL_ledger 14 = .ok (.ireturn, 1) := by decide +kernel
set_option maxRecDepth 20000 in
theorem ggL_duty_X6_duty : GoodIn wsL_duty wsX6_duty := goodIn_ca (goodIn_r _ [7, 8, 9, 10, 11, 12, 13, 14, 15, 16, 6, 17, 18, 19, 20, 21, 22, 23, 24, 25, 26, 27, 28, 29, 30, 31, 32, 33, 34, 35, 36, 37, 38, 39, 40, 41, 42, 43, 44, 45, 46, 47, 48, 49, 50, 51, 52, 53, 54, 55, 56, 57, 58, 59, 60, 61, 62, 63, 64, 65, 66, 67, 68, 69, 70, 71, 72, 73, 74, 75, 76] (by decide +kernel) (by decide +kernel)) (goodIn_sub (fun _ h => List.mem_cons_of_mem _ (List.mem_append_right _ h)) (by decide +kernel))
set_option maxRecDepth 20000 in
theorem gL_duty_X6_duty : GoodIn wsL_duty (wsV RL 86 RX6 yX6_duty wsX6_duty) := goodIn_app (goodIn_of _ (by decide +kernel)) ggL_duty_X6_duty
theorem dL_duty_0 : decode cL_duty 0 = .ok (.aload_n 0, 1) := by decide +kernel
theorem dL_duty_1 : decode cL_duty 1 = .ok (.iload_n 1, 1) := by decide +kernel
theorem dL_duty_2 : decode cL_duty 2 = .ok (.invokevirtual 86, 3) := by decide +kernel
theorem dL_duty_5 : decode cL_duty 5 = .ok (.istore_n 2, 1) := by decide +kernel
theorem dL_duty_6 : decode cL_duty 6 = .ok (.goto 7, 3) := by decide +kernel
theorem dL_duty_9 : decode cL_duty 9 = .ok (.astore_n 3, 1) := by decide +kernel
theorem dL_duty_10 : decode cL_duty 10 = .ok (.ldc 19, 2) := by decide +kernel
theorem dL_duty_12 : decode cL_duty 12 = .ok (.ireturn, 1) := by decide +kernel
theorem dL_duty_13 : decode cL_duty 13 = .ok (.iload_n 2, 1) := by decide +kernel
theorem dL_duty_14 : decode cL_duty 14 = .ok (.ireturn, 1) := by decide +kernel
theorem dL_times_0 : decode cL_times 0 = .ok (.iload_n 0, 1) := by decide +kernel
theorem dL_times_1 : decode cL_times 1 = .ok (.i2l, 1) := by decide +kernel
theorem dL_times_2 : decode cL_times 2 = .ok (.iload_n 1, 1) := by decide +kernel
theorem dL_times_3 : decode cL_times 3 = .ok (.i2l, 1) := by decide +kernel
theorem dL_times_4 : decode cL_times 4 = .ok (.lmul, 1) := by decide +kernel
theorem dL_times_5 : decode cL_times 5 = .ok (.iload_n 2, 1) := by decide +kernel
theorem dL_times_6 : decode cL_times 6 = .ok (.i2l, 1) := by decide +kernel
theorem dL_times_7 : decode cL_times 7 = .ok (.ldiv, 1) := by decide +kernel
theorem dL_times_8 : decode cL_times 8 = .ok (.l2i, 1) := by decide +kernel
theorem dL_times_9 : decode cL_times 9 = .ok (.ireturn, 1) := by decide +kernel
theorem dL_strength_0 : decode cL_strength 0 = .ok (.iload_n 1, 1) := by decide +kernel
theorem dL_strength_1 : decode cL_strength 1 = .ok (.ifCond .ne 7, 3) := by decide +kernel
theorem dL_strength_4 : decode cL_strength 4 = .ok (.iconst 0, 1) := by decide +kernel
theorem dL_strength_5 : decode cL_strength 5 = .ok (.goto 6, 3) := by decide +kernel
theorem dL_strength_8 : decode cL_strength 8 = .ok (.iload_n 0, 1) := by decide +kernel
theorem dL_strength_9 : decode cL_strength 9 = .ok (.iload_n 1, 1) := by decide +kernel
theorem dL_strength_10 : decode cL_strength 10 = .ok (.idiv, 1) := by decide +kernel
theorem dL_strength_11 : decode cL_strength 11 = .ok (.ireturn, 1) := by decide +kernel
set_option maxRecDepth 20000 in
theorem ggL_pours_L_strength : GoodIn wsL_pours wsL_strength := goodIn_r _ [4] (by decide +kernel) (by decide +kernel)
set_option maxRecDepth 20000 in
theorem gL_pours_L_strength : GoodIn wsL_pours (va_wsS RL 89 yL_strength wsL_strength) := goodIn_app (goodIn_of _ (by decide +kernel)) ggL_pours_L_strength
theorem dL_pours_0 : decode cL_pours 0 = .ok (.aload_n 3, 1) := by decide +kernel
theorem dL_pours_1 : decode cL_pours 1 = .ok (.iload_n 0, 1) := by decide +kernel
theorem dL_pours_2 : decode cL_pours 2 = .ok (.iaload, 1) := by decide +kernel
theorem dL_pours_3 : decode cL_pours 3 = .ok (.istore 5, 2) := by decide +kernel
theorem dL_pours_5 : decode cL_pours 5 = .ok (.aload 4, 2) := by decide +kernel
theorem dL_pours_7 : decode cL_pours 7 = .ok (.iload_n 0, 1) := by decide +kernel
theorem dL_pours_8 : decode cL_pours 8 = .ok (.iaload, 1) := by decide +kernel
theorem dL_pours_9 : decode cL_pours 9 = .ok (.iload 5, 2) := by decide +kernel
theorem dL_pours_11 : decode cL_pours 11 = .ok (.invokestatic 89, 3) := by decide +kernel
theorem dL_pours_14 : decode cL_pours 14 = .ok (.iload_n 2, 1) := by decide +kernel
theorem dL_pours_15 : decode cL_pours 15 = .ok (.iload_n 1, 1) := by decide +kernel
theorem dL_pours_16 : decode cL_pours 16 = .ok (.invokestatic 89, 3) := by decide +kernel
theorem dL_pours_19 : decode cL_pours 19 = .ok (.isub, 1) := by decide +kernel
theorem dL_pours_20 : decode cL_pours 20 = .ok (.istore 6, 2) := by decide +kernel
theorem dL_pours_22 : decode cL_pours 22 = .ok (.iload 5, 2) := by decide +kernel
theorem dL_pours_24 : decode cL_pours 24 = .ok (.iload_n 1, 1) := by decide +kernel
theorem dL_pours_25 : decode cL_pours 25 = .ok (.if_icmp .le 7, 3) := by decide +kernel
theorem dL_pours_28 : decode cL_pours 28 = .ok (.iload_n 1, 1) := by decide +kernel
theorem dL_pours_29 : decode cL_pours 29 = .ok (.goto 5, 3) := by decide +kernel
theorem dL_pours_32 : decode cL_pours 32 = .ok (.iload 5, 2) := by decide +kernel
theorem dL_pours_34 : decode cL_pours 34 = .ok (.istore 7, 2) := by decide +kernel
theorem dL_pours_36 : decode cL_pours 36 = .ok (.aload_n 3, 1) := by decide +kernel
theorem dL_pours_37 : decode cL_pours 37 = .ok (.iload_n 0, 1) := by decide +kernel
theorem dL_pours_38 : decode cL_pours 38 = .ok (.iload 5, 2) := by decide +kernel
theorem dL_pours_40 : decode cL_pours 40 = .ok (.iload_n 1, 1) := by decide +kernel
theorem dL_pours_41 : decode cL_pours 41 = .ok (.iadd, 1) := by decide +kernel
theorem dL_pours_42 : decode cL_pours 42 = .ok (.iload 7, 2) := by decide +kernel
theorem dL_pours_44 : decode cL_pours 44 = .ok (.ifCond .ne 7, 3) := by decide +kernel
theorem dL_pours_47 : decode cL_pours 47 = .ok (.iconst 0, 1) := by decide +kernel
theorem dL_pours_48 : decode cL_pours 48 = .ok (.goto 23, 3) := by decide +kernel
theorem dL_pours_51 : decode cL_pours 51 = .ok (.iload 7, 2) := by decide +kernel
theorem dL_pours_53 : decode cL_pours 53 = .ok (.iload 6, 2) := by decide +kernel
theorem dL_pours_55 : decode cL_pours 55 = .ok (.ifCond .le 8, 3) := by decide +kernel
theorem dL_pours_58 : decode cL_pours 58 = .ok (.iload 6, 2) := by decide +kernel
theorem dL_pours_60 : decode cL_pours 60 = .ok (.goto 6, 3) := by decide +kernel
theorem dL_pours_63 : decode cL_pours 63 = .ok (.iload 6, 2) := by decide +kernel
theorem dL_pours_65 : decode cL_pours 65 = .ok (.ineg, 1) := by decide +kernel
theorem dL_pours_66 : decode cL_pours 66 = .ok (.imul, 1) := by decide +kernel
theorem dL_pours_67 : decode cL_pours 67 = .ok (.sipush 10000, 3) := by decide +kernel
theorem dL_pours_70 : decode cL_pours 70 = .ok (.idiv, 1) := by decide +kernel
theorem dL_pours_71 : decode cL_pours 71 = .ok (.isub, 1) := by decide +kernel
theorem dL_pours_72 : decode cL_pours 72 = .ok (.iastore, 1) := by decide +kernel
theorem dL_pours_73 : decode cL_pours 73 = .ok (.aload 4, 2) := by decide +kernel
theorem dL_pours_75 : decode cL_pours 75 = .ok (.iload_n 0, 1) := by decide +kernel
theorem dL_pours_76 : decode cL_pours 76 = .ok (.dup2, 1) := by decide +kernel
theorem dL_pours_77 : decode cL_pours 77 = .ok (.iaload, 1) := by decide +kernel
theorem dL_pours_78 : decode cL_pours 78 = .ok (.iload_n 2, 1) := by decide +kernel
theorem dL_pours_79 : decode cL_pours 79 = .ok (.iadd, 1) := by decide +kernel
theorem dL_pours_80 : decode cL_pours 80 = .ok (.iastore, 1) := by decide +kernel
theorem dL_pours_81 : decode cL_pours 81 = .ok (.return_, 1) := by decide +kernel
set_option maxRecDepth 20000 in
theorem ggL_draws_L_times : GoodIn wsL_draws wsL_times := goodIn_r _ [4] (by decide +kernel) (by decide +kernel)
set_option maxRecDepth 20000 in
theorem gL_draws_L_times : GoodIn wsL_draws (va_wsS RL 94 yL_times wsL_times) := goodIn_app (goodIn_of _ (by decide +kernel)) ggL_draws_L_times
theorem dL_draws_0 : decode cL_draws 0 = .ok (.aload_n 3, 1) := by decide +kernel
theorem dL_draws_1 : decode cL_draws 1 = .ok (.iload_n 0, 1) := by decide +kernel
theorem dL_draws_2 : decode cL_draws 2 = .ok (.iaload, 1) := by decide +kernel
theorem dL_draws_3 : decode cL_draws 3 = .ok (.iload_n 1, 1) := by decide +kernel
theorem dL_draws_4 : decode cL_draws 4 = .ok (.aload_n 2, 1) := by decide +kernel
theorem dL_draws_5 : decode cL_draws 5 = .ok (.iload_n 0, 1) := by decide +kernel
theorem dL_draws_6 : decode cL_draws 6 = .ok (.iaload, 1) := by decide +kernel
theorem dL_draws_7 : decode cL_draws 7 = .ok (.invokestatic 94, 3) := by decide +kernel
theorem dL_draws_10 : decode cL_draws 10 = .ok (.istore 4, 2) := by decide +kernel
theorem dL_draws_12 : decode cL_draws 12 = .ok (.aload_n 2, 1) := by decide +kernel
theorem dL_draws_13 : decode cL_draws 13 = .ok (.iload_n 0, 1) := by decide +kernel
theorem dL_draws_14 : decode cL_draws 14 = .ok (.dup2, 1) := by decide +kernel
theorem dL_draws_15 : decode cL_draws 15 = .ok (.iaload, 1) := by decide +kernel
theorem dL_draws_16 : decode cL_draws 16 = .ok (.iload_n 1, 1) := by decide +kernel
theorem dL_draws_17 : decode cL_draws 17 = .ok (.isub, 1) := by decide +kernel
theorem dL_draws_18 : decode cL_draws 18 = .ok (.iastore, 1) := by decide +kernel
theorem dL_draws_19 : decode cL_draws 19 = .ok (.aload_n 3, 1) := by decide +kernel
theorem dL_draws_20 : decode cL_draws 20 = .ok (.iload_n 0, 1) := by decide +kernel
theorem dL_draws_21 : decode cL_draws 21 = .ok (.dup2, 1) := by decide +kernel
theorem dL_draws_22 : decode cL_draws 22 = .ok (.iaload, 1) := by decide +kernel
theorem dL_draws_23 : decode cL_draws 23 = .ok (.iload 4, 2) := by decide +kernel
theorem dL_draws_25 : decode cL_draws 25 = .ok (.isub, 1) := by decide +kernel
theorem dL_draws_26 : decode cL_draws 26 = .ok (.iastore, 1) := by decide +kernel
theorem dL_draws_27 : decode cL_draws 27 = .ok (.iload 4, 2) := by decide +kernel
theorem dL_draws_29 : decode cL_draws 29 = .ok (.ireturn, 1) := by decide +kernel
set_option maxRecDepth 20000 in
theorem ggL_misses_L_times : GoodIn wsL_misses wsL_times := goodIn_r _ [4] (by decide +kernel) (by decide +kernel)
set_option maxRecDepth 20000 in
theorem gL_misses_L_times : GoodIn wsL_misses (va_wsS RL 94 yL_times wsL_times) := goodIn_app (goodIn_of _ (by decide +kernel)) ggL_misses_L_times
theorem dL_misses_0 : decode cL_misses 0 = .ok (.aload_n 1, 1) := by decide +kernel
theorem dL_misses_1 : decode cL_misses 1 = .ok (.bipush 13, 2) := by decide +kernel
theorem dL_misses_3 : decode cL_misses 3 = .ok (.dup2, 1) := by decide +kernel
theorem dL_misses_4 : decode cL_misses 4 = .ok (.iaload, 1) := by decide +kernel
theorem dL_misses_5 : decode cL_misses 5 = .ok (.iload_n 0, 1) := by decide +kernel
theorem dL_misses_6 : decode cL_misses 6 = .ok (.iadd, 1) := by decide +kernel
theorem dL_misses_7 : decode cL_misses 7 = .ok (.iastore, 1) := by decide +kernel
theorem dL_misses_8 : decode cL_misses 8 = .ok (.iload_n 0, 1) := by decide +kernel
theorem dL_misses_9 : decode cL_misses 9 = .ok (.aload_n 1, 1) := by decide +kernel
theorem dL_misses_10 : decode cL_misses 10 = .ok (.iconst 1, 1) := by decide +kernel
theorem dL_misses_11 : decode cL_misses 11 = .ok (.iaload, 1) := by decide +kernel
theorem dL_misses_12 : decode cL_misses 12 = .ok (.sipush 1000, 3) := by decide +kernel
theorem dL_misses_15 : decode cL_misses 15 = .ok (.invokestatic 94, 3) := by decide +kernel
theorem dL_misses_18 : decode cL_misses 18 = .ok (.istore_n 2, 1) := by decide +kernel
theorem dL_misses_19 : decode cL_misses 19 = .ok (.aload_n 1, 1) := by decide +kernel
theorem dL_misses_20 : decode cL_misses 20 = .ok (.iconst 2, 1) := by decide +kernel
theorem dL_misses_21 : decode cL_misses 21 = .ok (.dup2, 1) := by decide +kernel
theorem dL_misses_22 : decode cL_misses 22 = .ok (.iaload, 1) := by decide +kernel
theorem dL_misses_23 : decode cL_misses 23 = .ok (.iload_n 2, 1) := by decide +kernel
theorem dL_misses_24 : decode cL_misses 24 = .ok (.iadd, 1) := by decide +kernel
theorem dL_misses_25 : decode cL_misses 25 = .ok (.iastore, 1) := by decide +kernel
theorem dL_misses_26 : decode cL_misses 26 = .ok (.iload_n 2, 1) := by decide +kernel
theorem dL_misses_27 : decode cL_misses 27 = .ok (.ireturn, 1) := by decide +kernel
theorem dL_moving_0 : decode cL_moving 0 = .ok (.iconst 0, 1) := by decide +kernel
theorem dL_moving_1 : decode cL_moving 1 = .ok (.istore_n 3, 1) := by decide +kernel
theorem dL_moving_2 : decode cL_moving 2 = .ok (.iconst 0, 1) := by decide +kernel
theorem dL_moving_3 : decode cL_moving 3 = .ok (.istore 4, 2) := by decide +kernel
theorem dL_moving_5 : decode cL_moving 5 = .ok (.iload 4, 2) := by decide +kernel
theorem dL_moving_7 : decode cL_moving 7 = .ok (.aload_n 2, 1) := by decide +kernel
theorem dL_moving_8 : decode cL_moving 8 = .ok (.bipush 10, 2) := by decide +kernel
theorem dL_moving_10 : decode cL_moving 10 = .ok (.iaload, 1) := by decide +kernel
theorem dL_moving_11 : decode cL_moving 11 = .ok (.if_icmp .ge 33, 3) := by decide +kernel
theorem dL_moving_14 : decode cL_moving 14 = .ok (.iload_n 3, 1) := by decide +kernel
theorem dL_moving_15 : decode cL_moving 15 = .ok (.aload_n 0, 1) := by decide +kernel
theorem dL_moving_16 : decode cL_moving 16 = .ok (.iload 4, 2) := by decide +kernel
theorem dL_moving_18 : decode cL_moving 18 = .ok (.iaload, 1) := by decide +kernel
theorem dL_moving_19 : decode cL_moving 19 = .ok (.bipush 17, 2) := by decide +kernel
theorem dL_moving_21 : decode cL_moving 21 = .ok (.ishr, 1) := by decide +kernel
theorem dL_moving_22 : decode cL_moving 22 = .ok (.bipush 7, 2) := by decide +kernel
theorem dL_moving_24 : decode cL_moving 24 = .ok (.iand, 1) := by decide +kernel
theorem dL_moving_25 : decode cL_moving 25 = .ok (.ifCond .ne 10, 3) := by decide +kernel
theorem dL_moving_28 : decode cL_moving 28 = .ok (.aload_n 1, 1) := by decide +kernel
theorem dL_moving_29 : decode cL_moving 29 = .ok (.iload 4, 2) := by decide +kernel
theorem dL_moving_31 : decode cL_moving 31 = .ok (.iaload, 1) := by decide +kernel
theorem dL_moving_32 : decode cL_moving 32 = .ok (.goto 4, 3) := by decide +kernel
theorem dL_moving_35 : decode cL_moving 35 = .ok (.iconst 0, 1) := by decide +kernel
theorem dL_moving_36 : decode cL_moving 36 = .ok (.iadd, 1) := by decide +kernel
theorem dL_moving_37 : decode cL_moving 37 = .ok (.istore_n 3, 1) := by decide +kernel
theorem dL_moving_38 : decode cL_moving 38 = .ok (.iinc 4 1, 3) := by decide +kernel
theorem dL_moving_41 : decode cL_moving 41 = .ok (.goto (-36), 3) := by decide +kernel
theorem dL_moving_44 : decode cL_moving 44 = .ok (.iload_n 3, 1) := by decide +kernel
theorem dL_moving_45 : decode cL_moving 45 = .ok (.ireturn, 1) := by decide +kernel
set_option maxRecDepth 20000 in
theorem ggL_dawn_L_misses : GoodIn wsL_dawn wsL_misses := goodIn_r _ [6, 7, 8, 5, 9] (by decide +kernel) (by decide +kernel)
set_option maxRecDepth 20000 in
theorem gL_dawn_L_misses : GoodIn wsL_dawn (va_wsS RL 98 yL_misses wsL_misses) := goodIn_app (goodIn_of _ (by decide +kernel)) ggL_dawn_L_misses
set_option maxRecDepth 20000 in
theorem ggL_dawn_L_times : GoodIn wsL_dawn wsL_times := goodIn_r _ [9] (by decide +kernel) (by decide +kernel)
set_option maxRecDepth 20000 in
theorem gL_dawn_L_times : GoodIn wsL_dawn (va_wsS RL 94 yL_times wsL_times) := goodIn_app (goodIn_of _ (by decide +kernel)) ggL_dawn_L_times
theorem dL_dawn_0 : decode cL_dawn 0 = .ok (.aload_n 3, 1) := by decide +kernel
theorem dL_dawn_1 : decode cL_dawn 1 = .ok (.iconst 0, 1) := by decide +kernel
theorem dL_dawn_2 : decode cL_dawn 2 = .ok (.dup2, 1) := by decide +kernel
theorem dL_dawn_3 : decode cL_dawn 3 = .ok (.iaload, 1) := by decide +kernel
theorem dL_dawn_4 : decode cL_dawn 4 = .ok (.iconst 1, 1) := by decide +kernel
theorem dL_dawn_5 : decode cL_dawn 5 = .ok (.iadd, 1) := by decide +kernel
theorem dL_dawn_6 : decode cL_dawn 6 = .ok (.iastore, 1) := by decide +kernel
theorem dL_dawn_7 : decode cL_dawn 7 = .ok (.aload_n 3, 1) := by decide +kernel
theorem dL_dawn_8 : decode cL_dawn 8 = .ok (.iconst 3, 1) := by decide +kernel
theorem dL_dawn_9 : decode cL_dawn 9 = .ok (.iaload, 1) := by decide +kernel
theorem dL_dawn_10 : decode cL_dawn 10 = .ok (.aload_n 3, 1) := by decide +kernel
theorem dL_dawn_11 : decode cL_dawn 11 = .ok (.iconst 0, 1) := by decide +kernel
theorem dL_dawn_12 : decode cL_dawn 12 = .ok (.iaload, 1) := by decide +kernel
theorem dL_dawn_13 : decode cL_dawn 13 = .ok (.if_icmp .ne 13, 3) := by decide +kernel
theorem dL_dawn_16 : decode cL_dawn 16 = .ok (.aload_n 3, 1) := by decide +kernel
theorem dL_dawn_17 : decode cL_dawn 17 = .ok (.iconst 1, 1) := by decide +kernel
theorem dL_dawn_18 : decode cL_dawn 18 = .ok (.aload_n 3, 1) := by decide +kernel
theorem dL_dawn_19 : decode cL_dawn 19 = .ok (.iconst 4, 1) := by decide +kernel
theorem dL_dawn_20 : decode cL_dawn 20 = .ok (.iaload, 1) := by decide +kernel
theorem dL_dawn_21 : decode cL_dawn 21 = .ok (.iastore, 1) := by decide +kernel
theorem dL_dawn_22 : decode cL_dawn 22 = .ok (.aload_n 3, 1) := by decide +kernel
theorem dL_dawn_23 : decode cL_dawn 23 = .ok (.iconst 3, 1) := by decide +kernel
theorem dL_dawn_24 : decode cL_dawn 24 = .ok (.iconst (-1), 1) := by decide +kernel
theorem dL_dawn_25 : decode cL_dawn 25 = .ok (.iastore, 1) := by decide +kernel
theorem dL_dawn_26 : decode cL_dawn 26 = .ok (.aload_n 3, 1) := by decide +kernel
theorem dL_dawn_27 : decode cL_dawn 27 = .ok (.iconst 0, 1) := by decide +kernel
theorem dL_dawn_28 : decode cL_dawn 28 = .ok (.iaload, 1) := by decide +kernel
theorem dL_dawn_29 : decode cL_dawn 29 = .ok (.bipush 100, 2) := by decide +kernel
theorem dL_dawn_31 : decode cL_dawn 31 = .ok (.irem, 1) := by decide +kernel
theorem dL_dawn_32 : decode cL_dawn 32 = .ok (.ifCond .ne 8, 3) := by decide +kernel
theorem dL_dawn_35 : decode cL_dawn 35 = .ok (.aload_n 3, 1) := by decide +kernel
theorem dL_dawn_36 : decode cL_dawn 36 = .ok (.bipush 6, 2) := by decide +kernel
theorem dL_dawn_38 : decode cL_dawn 38 = .ok (.iconst 0, 1) := by decide +kernel
theorem dL_dawn_39 : decode cL_dawn 39 = .ok (.iastore, 1) := by decide +kernel
theorem dL_dawn_40 : decode cL_dawn 40 = .ok (.iconst 0, 1) := by decide +kernel
theorem dL_dawn_41 : decode cL_dawn 41 = .ok (.istore 6, 2) := by decide +kernel
theorem dL_dawn_43 : decode cL_dawn 43 = .ok (.iload 6, 2) := by decide +kernel
theorem dL_dawn_45 : decode cL_dawn 45 = .ok (.aload_n 3, 1) := by decide +kernel
theorem dL_dawn_46 : decode cL_dawn 46 = .ok (.bipush 10, 2) := by decide +kernel
theorem dL_dawn_48 : decode cL_dawn 48 = .ok (.iaload, 1) := by decide +kernel
theorem dL_dawn_49 : decode cL_dawn 49 = .ok (.if_icmp .ge 60, 3) := by decide +kernel
theorem dL_dawn_52 : decode cL_dawn 52 = .ok (.aload 4, 2) := by decide +kernel
theorem dL_dawn_54 : decode cL_dawn 54 = .ok (.iload 6, 2) := by decide +kernel
theorem dL_dawn_56 : decode cL_dawn 56 = .ok (.iaload, 1) := by decide +kernel
theorem dL_dawn_57 : decode cL_dawn 57 = .ok (.bipush 17, 2) := by decide +kernel
theorem dL_dawn_59 : decode cL_dawn 59 = .ok (.ishr, 1) := by decide +kernel
theorem dL_dawn_60 : decode cL_dawn 60 = .ok (.bipush 7, 2) := by decide +kernel
theorem dL_dawn_62 : decode cL_dawn 62 = .ok (.iand, 1) := by decide +kernel
theorem dL_dawn_63 : decode cL_dawn 63 = .ok (.ifCond .ne 40, 3) := by decide +kernel
theorem dL_dawn_66 : decode cL_dawn 66 = .ok (.aload 4, 2) := by decide +kernel
theorem dL_dawn_68 : decode cL_dawn 68 = .ok (.iload 6, 2) := by decide +kernel
theorem dL_dawn_70 : decode cL_dawn 70 = .ok (.iaload, 1) := by decide +kernel
theorem dL_dawn_71 : decode cL_dawn 71 = .ok (.bipush 20, 2) := by decide +kernel
theorem dL_dawn_73 : decode cL_dawn 73 = .ok (.ishr, 1) := by decide +kernel
theorem dL_dawn_74 : decode cL_dawn 74 = .ok (.aload_n 3, 1) := by decide +kernel
theorem dL_dawn_75 : decode cL_dawn 75 = .ok (.iconst 0, 1) := by decide +kernel
theorem dL_dawn_76 : decode cL_dawn 76 = .ok (.iaload, 1) := by decide +kernel
theorem dL_dawn_77 : decode cL_dawn 77 = .ok (.if_icmp .lt 6, 3) := by decide +kernel
theorem dL_dawn_80 : decode cL_dawn 80 = .ok (.goto 23, 3) := by decide +kernel
theorem dL_dawn_83 : decode cL_dawn 83 = .ok (.aload 4, 2) := by decide +kernel
theorem dL_dawn_85 : decode cL_dawn 85 = .ok (.iload 6, 2) := by decide +kernel
theorem dL_dawn_87 : decode cL_dawn 87 = .ok (.dup2, 1) := by decide +kernel
theorem dL_dawn_88 : decode cL_dawn 88 = .ok (.iaload, 1) := by decide +kernel
theorem dL_dawn_89 : decode cL_dawn 89 = .ok (.ldc 97, 2) := by decide +kernel
theorem dL_dawn_91 : decode cL_dawn 91 = .ok (.ior, 1) := by decide +kernel
theorem dL_dawn_92 : decode cL_dawn 92 = .ok (.iastore, 1) := by decide +kernel
theorem dL_dawn_93 : decode cL_dawn 93 = .ok (.aload 5, 2) := by decide +kernel
theorem dL_dawn_95 : decode cL_dawn 95 = .ok (.iload 6, 2) := by decide +kernel
theorem dL_dawn_97 : decode cL_dawn 97 = .ok (.iaload, 1) := by decide +kernel
theorem dL_dawn_98 : decode cL_dawn 98 = .ok (.aload_n 3, 1) := by decide +kernel
theorem dL_dawn_99 : decode cL_dawn 99 = .ok (.invokestatic 98, 3) := by decide +kernel
theorem dL_dawn_102 : decode cL_dawn 102 = .ok (.pop, 1) := by decide +kernel
theorem dL_dawn_103 : decode cL_dawn 103 = .ok (.iinc 6 1, 3) := by decide +kernel
theorem dL_dawn_106 : decode cL_dawn 106 = .ok (.goto (-63), 3) := by decide +kernel
theorem dL_dawn_109 : decode cL_dawn 109 = .ok (.iconst 0, 1) := by decide +kernel
theorem dL_dawn_110 : decode cL_dawn 110 = .ok (.istore 6, 2) := by decide +kernel
theorem dL_dawn_112 : decode cL_dawn 112 = .ok (.iload 6, 2) := by decide +kernel
theorem dL_dawn_114 : decode cL_dawn 114 = .ok (.iconst 5, 1) := by decide +kernel
theorem dL_dawn_115 : decode cL_dawn 115 = .ok (.if_icmp .ge 65, 3) := by decide +kernel
theorem dL_dawn_118 : decode cL_dawn 118 = .ok (.aload_n 1, 1) := by decide +kernel
theorem dL_dawn_119 : decode cL_dawn 119 = .ok (.iload 6, 2) := by decide +kernel
theorem dL_dawn_121 : decode cL_dawn 121 = .ok (.iaload, 1) := by decide +kernel
theorem dL_dawn_122 : decode cL_dawn 122 = .ok (.aload_n 2, 1) := by decide +kernel
theorem dL_dawn_123 : decode cL_dawn 123 = .ok (.iload 6, 2) := by decide +kernel
theorem dL_dawn_125 : decode cL_dawn 125 = .ok (.iconst 3, 1) := by decide +kernel
theorem dL_dawn_126 : decode cL_dawn 126 = .ok (.irem, 1) := by decide +kernel
theorem dL_dawn_127 : decode cL_dawn 127 = .ok (.iaload, 1) := by decide +kernel
theorem dL_dawn_128 : decode cL_dawn 128 = .ok (.ldc 102, 2) := by decide +kernel
theorem dL_dawn_130 : decode cL_dawn 130 = .ok (.invokestatic 94, 3) := by decide +kernel
theorem dL_dawn_133 : decode cL_dawn 133 = .ok (.istore 7, 2) := by decide +kernel
theorem dL_dawn_135 : decode cL_dawn 135 = .ok (.aload_n 1, 1) := by decide +kernel
theorem dL_dawn_136 : decode cL_dawn 136 = .ok (.iload 6, 2) := by decide +kernel
theorem dL_dawn_138 : decode cL_dawn 138 = .ok (.dup2, 1) := by decide +kernel
theorem dL_dawn_139 : decode cL_dawn 139 = .ok (.iaload, 1) := by decide +kernel
theorem dL_dawn_140 : decode cL_dawn 140 = .ok (.iload 7, 2) := by decide +kernel
theorem dL_dawn_142 : decode cL_dawn 142 = .ok (.isub, 1) := by decide +kernel
theorem dL_dawn_143 : decode cL_dawn 143 = .ok (.iastore, 1) := by decide +kernel
theorem dL_dawn_144 : decode cL_dawn 144 = .ok (.aload_n 3, 1) := by decide +kernel
theorem dL_dawn_145 : decode cL_dawn 145 = .ok (.bipush 12, 2) := by decide +kernel
theorem dL_dawn_147 : decode cL_dawn 147 = .ok (.dup2, 1) := by decide +kernel
theorem dL_dawn_148 : decode cL_dawn 148 = .ok (.iaload, 1) := by decide +kernel
theorem dL_dawn_149 : decode cL_dawn 149 = .ok (.iload 7, 2) := by decide +kernel
theorem dL_dawn_151 : decode cL_dawn 151 = .ok (.iadd, 1) := by decide +kernel
theorem dL_dawn_152 : decode cL_dawn 152 = .ok (.iastore, 1) := by decide +kernel
theorem dL_dawn_153 : decode cL_dawn 153 = .ok (.aload_n 0, 1) := by decide +kernel
theorem dL_dawn_154 : decode cL_dawn 154 = .ok (.iload 6, 2) := by decide +kernel
theorem dL_dawn_156 : decode cL_dawn 156 = .ok (.dup2, 1) := by decide +kernel
theorem dL_dawn_157 : decode cL_dawn 157 = .ok (.iaload, 1) := by decide +kernel
theorem dL_dawn_158 : decode cL_dawn 158 = .ok (.aload_n 0, 1) := by decide +kernel
theorem dL_dawn_159 : decode cL_dawn 159 = .ok (.iload 6, 2) := by decide +kernel
theorem dL_dawn_161 : decode cL_dawn 161 = .ok (.iaload, 1) := by decide +kernel
theorem dL_dawn_162 : decode cL_dawn 162 = .ok (.aload_n 2, 1) := by decide +kernel
theorem dL_dawn_163 : decode cL_dawn 163 = .ok (.iload 6, 2) := by decide +kernel
theorem dL_dawn_165 : decode cL_dawn 165 = .ok (.iconst 3, 1) := by decide +kernel
theorem dL_dawn_166 : decode cL_dawn 166 = .ok (.irem, 1) := by decide +kernel
theorem dL_dawn_167 : decode cL_dawn 167 = .ok (.iaload, 1) := by decide +kernel
theorem dL_dawn_168 : decode cL_dawn 168 = .ok (.imul, 1) := by decide +kernel
theorem dL_dawn_169 : decode cL_dawn 169 = .ok (.ldc 102, 2) := by decide +kernel
theorem dL_dawn_171 : decode cL_dawn 171 = .ok (.idiv, 1) := by decide +kernel
theorem dL_dawn_172 : decode cL_dawn 172 = .ok (.isub, 1) := by decide +kernel
theorem dL_dawn_173 : decode cL_dawn 173 = .ok (.iastore, 1) := by decide +kernel
theorem dL_dawn_174 : decode cL_dawn 174 = .ok (.iinc 6 1, 3) := by decide +kernel
theorem dL_dawn_177 : decode cL_dawn 177 = .ok (.goto (-65), 3) := by decide +kernel
theorem dL_dawn_180 : decode cL_dawn 180 = .ok (.aload_n 3, 1) := by decide +kernel
theorem dL_dawn_181 : decode cL_dawn 181 = .ok (.iconst 0, 1) := by decide +kernel
theorem dL_dawn_182 : decode cL_dawn 182 = .ok (.iaload, 1) := by decide +kernel
theorem dL_dawn_183 : decode cL_dawn 183 = .ok (.bipush 30, 2) := by decide +kernel
theorem dL_dawn_185 : decode cL_dawn 185 = .ok (.irem, 1) := by decide +kernel
theorem dL_dawn_186 : decode cL_dawn 186 = .ok (.ifCond .ne 23, 3) := by decide +kernel
theorem dL_dawn_189 : decode cL_dawn 189 = .ok (.aload_n 3, 1) := by decide +kernel
theorem dL_dawn_190 : decode cL_dawn 190 = .ok (.iconst 2, 1) := by decide +kernel
theorem dL_dawn_191 : decode cL_dawn 191 = .ok (.iaload, 1) := by decide +kernel
theorem dL_dawn_192 : decode cL_dawn 192 = .ok (.bipush 99, 2) := by decide +kernel
theorem dL_dawn_194 : decode cL_dawn 194 = .ok (.if_icmp .le 15, 3) := by decide +kernel
theorem dL_dawn_197 : decode cL_dawn 197 = .ok (.aload_n 3, 1) := by decide +kernel
theorem dL_dawn_198 : decode cL_dawn 198 = .ok (.iconst 2, 1) := by decide +kernel
theorem dL_dawn_199 : decode cL_dawn 199 = .ok (.dup2, 1) := by decide +kernel
theorem dL_dawn_200 : decode cL_dawn 200 = .ok (.iaload, 1) := by decide +kernel
theorem dL_dawn_201 : decode cL_dawn 201 = .ok (.aload_n 3, 1) := by decide +kernel
theorem dL_dawn_202 : decode cL_dawn 202 = .ok (.iconst 2, 1) := by decide +kernel
theorem dL_dawn_203 : decode cL_dawn 203 = .ok (.iaload, 1) := by decide +kernel
theorem dL_dawn_204 : decode cL_dawn 204 = .ok (.bipush 100, 2) := by decide +kernel
theorem dL_dawn_206 : decode cL_dawn 206 = .ok (.idiv, 1) := by decide +kernel
theorem dL_dawn_207 : decode cL_dawn 207 = .ok (.iadd, 1) := by decide +kernel
theorem dL_dawn_208 : decode cL_dawn 208 = .ok (.iastore, 1) := by decide +kernel
theorem dL_dawn_209 : decode cL_dawn 209 = .ok (.return_, 1) := by decide +kernel
set_option maxRecDepth 20000 in
theorem ggL_isTold_L_ofVessel : GoodIn wsL_isTold wsL_ofVessel := goodIn_ca (goodIn_r _ [5, 6, 7, 8, 9, 10, 11, 12, 13, 14, 15, 16, 17, 18, 19, 20, 21, 22, 23, 24, 25, 26, 27, 28, 29, 30, 31, 32, 33, 34, 35, 36, 37, 38, 39, 40, 41, 42, 43, 44, 45, 46, 124, 125, 126, 127, 128, 129, 130, 131, 132, 133, 134, 135, 136, 137, 138, 139, 140, 141, 142] (by decide +kernel) (by decide +kernel)) (goodIn_sub (fun _ h => List.mem_cons_of_mem _ (List.mem_append_left _ (List.mem_append_right _ h))) (by decide +kernel))
set_option maxRecDepth 20000 in
theorem gL_isTold_L_ofVessel : GoodIn wsL_isTold (va_wsS RL 103 yL_ofVessel wsL_ofVessel) := goodIn_app (goodIn_of _ (by decide +kernel)) ggL_isTold_L_ofVessel
set_option maxRecDepth 20000 in
theorem ggL_isTold_L_strength : GoodIn wsL_isTold wsL_strength := goodIn_r _ [49] (by decide +kernel) (by decide +kernel)
set_option maxRecDepth 20000 in
theorem gL_isTold_L_strength : GoodIn wsL_isTold (va_wsS RL 89 yL_strength wsL_strength) := goodIn_app (goodIn_of _ (by decide +kernel)) ggL_isTold_L_strength
set_option maxRecDepth 20000 in
theorem ggL_isTold_L_moving : GoodIn wsL_isTold wsL_moving := goodIn_r _ [52] (by decide +kernel) (by decide +kernel)
set_option maxRecDepth 20000 in
theorem gL_isTold_L_moving : GoodIn wsL_isTold (va_wsS RL 106 yL_moving wsL_moving) := goodIn_app (goodIn_of _ (by decide +kernel)) ggL_isTold_L_moving
set_option maxRecDepth 20000 in
theorem ggL_isTold_L_ofMovement : GoodIn wsL_isTold wsL_ofMovement := goodIn_ca (goodIn_r _ [55, 6, 7, 56, 57, 58, 11, 59, 13, 14, 60, 61, 62, 63, 64, 65, 21, 22, 23, 24, 25, 26, 27, 28, 29, 30, 31, 32, 33, 34, 35, 36, 37, 38, 39, 40, 41, 42, 43, 143, 144, 145, 146, 147, 128, 129, 130, 131, 132, 133, 134, 135, 136, 137, 138, 139, 140, 141, 142] (by decide +kernel) (by decide +kernel)) (goodIn_sub (fun _ h => List.mem_cons_of_mem _ (List.mem_append_left _ (List.mem_append_right _ h))) (by decide +kernel))
set_option maxRecDepth 20000 in
theorem gL_isTold_L_ofMovement : GoodIn wsL_isTold (va_wsS RL 110 yL_ofMovement wsL_ofMovement) := goodIn_app (goodIn_of _ (by decide +kernel)) ggL_isTold_L_ofMovement
set_option maxRecDepth 20000 in
theorem ggL_isTold_L_ledger : GoodIn wsL_isTold wsL_ledger := goodIn_ca (goodIn_r _ [68, 69, 70, 71, 72, 73, 11, 74, 75, 76, 77, 78, 79, 80, 81, 19, 20, 21, 22, 23, 24, 25, 26, 27, 28, 29, 30, 31, 32, 33, 34, 35, 36, 37, 38, 39, 40, 41, 42, 43, 82, 83, 84, 85, 64, 65, 86, 87, 88, 89, 90, 91, 128, 129, 130, 131, 132, 133, 134, 135, 136, 137, 138, 139, 148, 149, 150, 151, 152, 124, 125, 126, 127, 140, 141, 142, 143, 144, 145, 146, 147, 153, 154] (by decide +kernel) (by decide +kernel)) (goodIn_sub (fun _ h => List.mem_cons_of_mem _ (List.mem_append_right _ h)) (by decide +kernel))
set_option maxRecDepth 20000 in
theorem gL_isTold_L_ledger : GoodIn wsL_isTold (va_wsS RL 112 yL_ledger wsL_ledger) := goodIn_app (goodIn_of _ (by decide +kernel)) ggL_isTold_L_ledger
set_option maxRecDepth 20000 in
theorem ggL_isTold_L_dropsAnew : GoodIn wsL_isTold wsL_dropsAnew := goodIn_ca (goodIn_r _ [94, 6, 7, 95, 96, 97, 11, 98, 15, 16, 17, 18, 13, 14, 19, 20, 21, 22, 23, 24, 25, 26, 27, 28, 29, 30, 31, 32, 33, 34, 35, 36, 37, 38, 39, 40, 41, 42, 43, 124, 125, 126, 127, 128, 129, 130, 131, 132, 133, 134, 135, 136, 137, 138, 139, 140, 141, 142] (by decide +kernel) (by decide +kernel)) (goodIn_sub (fun _ h => List.mem_cons_of_mem _ (List.mem_append_left _ (List.mem_append_right _ h))) (by decide +kernel))
set_option maxRecDepth 20000 in
theorem gL_isTold_L_dropsAnew : GoodIn wsL_isTold (va_wsS RL 115 yL_dropsAnew wsL_dropsAnew) := goodIn_app (goodIn_of _ (by decide +kernel)) ggL_isTold_L_dropsAnew
set_option maxRecDepth 20000 in
theorem ggL_isTold_L_duty : GoodIn wsL_isTold wsL_duty := goodIn_ca (goodIn_r _ [101, 69, 70, 102, 103, 104, 11, 105, 75, 76, 106, 107, 108, 109, 82, 83, 84, 85, 64, 65, 21, 22, 23, 24, 25, 26, 27, 28, 29, 30, 31, 32, 33, 34, 35, 36, 37, 38, 39, 40, 41, 42, 43, 110, 111, 112, 113, 114, 115, 45, 46, 128, 129, 130, 131, 132, 133, 134, 135, 136, 137, 138, 139, 155, 156, 157, 158, 159, 160, 143, 144, 145, 146, 147, 140, 141, 142] (by decide +kernel) (by decide +kernel)) (goodIn_sub (fun _ h => List.mem_cons_of_mem _ (List.mem_append_right _ h)) (by decide +kernel))
set_option maxRecDepth 20000 in
theorem gL_isTold_L_duty : GoodIn wsL_isTold (va_wsS RL 117 yL_duty wsL_duty) := goodIn_app (goodIn_of _ (by decide +kernel)) ggL_isTold_L_duty
set_option maxRecDepth 20000 in
theorem ggL_isTold_L_times : GoodIn wsL_isTold wsL_times := goodIn_r _ [118] (by decide +kernel) (by decide +kernel)
set_option maxRecDepth 20000 in
theorem gL_isTold_L_times : GoodIn wsL_isTold (va_wsS RL 94 yL_times wsL_times) := goodIn_app (goodIn_of _ (by decide +kernel)) ggL_isTold_L_times
set_option maxRecDepth 20000 in
theorem ggL_isTold_X6_day : GoodIn wsL_isTold wsX6_day := goodIn_r _ [122, 123, 128, 129, 130, 131, 132, 133, 134, 135, 136, 137, 138, 139] (by decide +kernel) (by decide +kernel)
set_option maxRecDepth 20000 in
theorem gL_isTold_X6_day : GoodIn wsL_isTold (wsV RL 120 RX6 yX6_day wsX6_day) := goodIn_app (goodIn_of _ (by decide +kernel)) ggL_isTold_X6_day
theorem dL_isTold_0 : decode cL_isTold 0 = .ok (.iconst 0, 1) := by decide +kernel
theorem dL_isTold_1 : decode cL_isTold 1 = .ok (.istore 9, 2) := by decide +kernel
theorem dL_isTold_3 : decode cL_isTold 3 = .ok (.iconst 0, 1) := by decide +kernel
theorem dL_isTold_4 : decode cL_isTold 4 = .ok (.istore 10, 2) := by decide +kernel
theorem dL_isTold_6 : decode cL_isTold 6 = .ok (.iload 10, 2) := by decide +kernel
theorem dL_isTold_8 : decode cL_isTold 8 = .ok (.iconst 5, 1) := by decide +kernel
theorem dL_isTold_9 : decode cL_isTold 9 = .ok (.if_icmp .ge 105, 3) := by decide +kernel
theorem dL_isTold_12 : decode cL_isTold 12 = .ok (.aload_n 0, 1) := by decide +kernel
theorem dL_isTold_13 : decode cL_isTold 13 = .ok (.iload 10, 2) := by decide +kernel
theorem dL_isTold_15 : decode cL_isTold 15 = .ok (.iconst 0, 1) := by decide +kernel
theorem dL_isTold_16 : decode cL_isTold 16 = .ok (.invokestatic 103, 3) := by decide +kernel
theorem dL_isTold_19 : decode cL_isTold 19 = .ok (.aload_n 3, 1) := by decide +kernel
theorem dL_isTold_20 : decode cL_isTold 20 = .ok (.iload 10, 2) := by decide +kernel
theorem dL_isTold_22 : decode cL_isTold 22 = .ok (.iaload, 1) := by decide +kernel
theorem dL_isTold_23 : decode cL_isTold 23 = .ok (.if_icmp .ne 73, 3) := by decide +kernel
theorem dL_isTold_26 : decode cL_isTold 26 = .ok (.aload_n 0, 1) := by decide +kernel
theorem dL_isTold_27 : decode cL_isTold 27 = .ok (.iload 10, 2) := by decide +kernel
theorem dL_isTold_29 : decode cL_isTold 29 = .ok (.iconst 1, 1) := by decide +kernel
theorem dL_isTold_30 : decode cL_isTold 30 = .ok (.invokestatic 103, 3) := by decide +kernel
theorem dL_isTold_33 : decode cL_isTold 33 = .ok (.aload 4, 2) := by decide +kernel
theorem dL_isTold_35 : decode cL_isTold 35 = .ok (.iload 10, 2) := by decide +kernel
theorem dL_isTold_37 : decode cL_isTold 37 = .ok (.iaload, 1) := by decide +kernel
theorem dL_isTold_38 : decode cL_isTold 38 = .ok (.if_icmp .ne 58, 3) := by decide +kernel
theorem dL_isTold_41 : decode cL_isTold 41 = .ok (.aload_n 0, 1) := by decide +kernel
theorem dL_isTold_42 : decode cL_isTold 42 = .ok (.iload 10, 2) := by decide +kernel
theorem dL_isTold_44 : decode cL_isTold 44 = .ok (.iconst 2, 1) := by decide +kernel
theorem dL_isTold_45 : decode cL_isTold 45 = .ok (.invokestatic 103, 3) := by decide +kernel
theorem dL_isTold_48 : decode cL_isTold 48 = .ok (.aload 4, 2) := by decide +kernel
theorem dL_isTold_50 : decode cL_isTold 50 = .ok (.iload 10, 2) := by decide +kernel
theorem dL_isTold_52 : decode cL_isTold 52 = .ok (.iaload, 1) := by decide +kernel
theorem dL_isTold_53 : decode cL_isTold 53 = .ok (.aload_n 3, 1) := by decide +kernel
theorem dL_isTold_54 : decode cL_isTold 54 = .ok (.iload 10, 2) := by decide +kernel
theorem dL_isTold_56 : decode cL_isTold 56 = .ok (.iaload, 1) := by decide +kernel
theorem dL_isTold_57 : decode cL_isTold 57 = .ok (.invokestatic 89, 3) := by decide +kernel
theorem dL_isTold_60 : decode cL_isTold 60 = .ok (.if_icmp .ne 36, 3) := by decide +kernel
theorem dL_isTold_63 : decode cL_isTold 63 = .ok (.aload_n 0, 1) := by decide +kernel
theorem dL_isTold_64 : decode cL_isTold 64 = .ok (.iload 10, 2) := by decide +kernel
theorem dL_isTold_66 : decode cL_isTold 66 = .ok (.iconst 3, 1) := by decide +kernel
theorem dL_isTold_67 : decode cL_isTold 67 = .ok (.invokestatic 103, 3) := by decide +kernel
theorem dL_isTold_70 : decode cL_isTold 70 = .ok (.iload 10, 2) := by decide +kernel
theorem dL_isTold_72 : decode cL_isTold 72 = .ok (.iconst 3, 1) := by decide +kernel
theorem dL_isTold_73 : decode cL_isTold 73 = .ok (.irem, 1) := by decide +kernel
theorem dL_isTold_74 : decode cL_isTold 74 = .ok (.if_icmp .ne 22, 3) := by decide +kernel
theorem dL_isTold_77 : decode cL_isTold 77 = .ok (.aload_n 0, 1) := by decide +kernel
theorem dL_isTold_78 : decode cL_isTold 78 = .ok (.iload 10, 2) := by decide +kernel
theorem dL_isTold_80 : decode cL_isTold 80 = .ok (.iconst 4, 1) := by decide +kernel
theorem dL_isTold_81 : decode cL_isTold 81 = .ok (.invokestatic 103, 3) := by decide +kernel
theorem dL_isTold_84 : decode cL_isTold 84 = .ok (.aload_n 2, 1) := by decide +kernel
theorem dL_isTold_85 : decode cL_isTold 85 = .ok (.iload 10, 2) := by decide +kernel
theorem dL_isTold_87 : decode cL_isTold 87 = .ok (.iaload, 1) := by decide +kernel
theorem dL_isTold_88 : decode cL_isTold 88 = .ok (.aload_n 3, 1) := by decide +kernel
theorem dL_isTold_89 : decode cL_isTold 89 = .ok (.iload 10, 2) := by decide +kernel
theorem dL_isTold_91 : decode cL_isTold 91 = .ok (.iaload, 1) := by decide +kernel
theorem dL_isTold_92 : decode cL_isTold 92 = .ok (.isub, 1) := by decide +kernel
theorem dL_isTold_93 : decode cL_isTold 93 = .ok (.if_icmp .eq 5, 3) := by decide +kernel
theorem dL_isTold_96 : decode cL_isTold 96 = .ok (.iconst 0, 1) := by decide +kernel
theorem dL_isTold_97 : decode cL_isTold 97 = .ok (.ireturn, 1) := by decide +kernel
theorem dL_isTold_98 : decode cL_isTold 98 = .ok (.iload 9, 2) := by decide +kernel
theorem dL_isTold_100 : decode cL_isTold 100 = .ok (.aload 4, 2) := by decide +kernel
theorem dL_isTold_102 : decode cL_isTold 102 = .ok (.iload 10, 2) := by decide +kernel
theorem dL_isTold_104 : decode cL_isTold 104 = .ok (.iaload, 1) := by decide +kernel
theorem dL_isTold_105 : decode cL_isTold 105 = .ok (.iadd, 1) := by decide +kernel
theorem dL_isTold_106 : decode cL_isTold 106 = .ok (.istore 9, 2) := by decide +kernel
theorem dL_isTold_108 : decode cL_isTold 108 = .ok (.iinc 10 1, 3) := by decide +kernel
theorem dL_isTold_111 : decode cL_isTold 111 = .ok (.goto (-105), 3) := by decide +kernel
theorem dL_isTold_114 : decode cL_isTold 114 = .ok (.iconst 0, 1) := by decide +kernel
theorem dL_isTold_115 : decode cL_isTold 115 = .ok (.istore 10, 2) := by decide +kernel
theorem dL_isTold_117 : decode cL_isTold 117 = .ok (.iconst 0, 1) := by decide +kernel
theorem dL_isTold_118 : decode cL_isTold 118 = .ok (.istore 11, 2) := by decide +kernel
theorem dL_isTold_120 : decode cL_isTold 120 = .ok (.iload 11, 2) := by decide +kernel
theorem dL_isTold_122 : decode cL_isTold 122 = .ok (.aload 5, 2) := by decide +kernel
theorem dL_isTold_124 : decode cL_isTold 124 = .ok (.bipush 9, 2) := by decide +kernel
theorem dL_isTold_126 : decode cL_isTold 126 = .ok (.iaload, 1) := by decide +kernel
theorem dL_isTold_127 : decode cL_isTold 127 = .ok (.if_icmp .ge 19, 3) := by decide +kernel
theorem dL_isTold_130 : decode cL_isTold 130 = .ok (.iload 10, 2) := by decide +kernel
theorem dL_isTold_132 : decode cL_isTold 132 = .ok (.aload 6, 2) := by decide +kernel
theorem dL_isTold_134 : decode cL_isTold 134 = .ok (.iload 11, 2) := by decide +kernel
theorem dL_isTold_136 : decode cL_isTold 136 = .ok (.iaload, 1) := by decide +kernel
theorem dL_isTold_137 : decode cL_isTold 137 = .ok (.iadd, 1) := by decide +kernel
theorem dL_isTold_138 : decode cL_isTold 138 = .ok (.istore 10, 2) := by decide +kernel
theorem dL_isTold_140 : decode cL_isTold 140 = .ok (.iinc 11 1, 3) := by decide +kernel
theorem dL_isTold_143 : decode cL_isTold 143 = .ok (.goto (-23), 3) := by decide +kernel
theorem dL_isTold_146 : decode cL_isTold 146 = .ok (.aload 7, 2) := by decide +kernel
theorem dL_isTold_148 : decode cL_isTold 148 = .ok (.aload 8, 2) := by decide +kernel
theorem dL_isTold_150 : decode cL_isTold 150 = .ok (.aload 5, 2) := by decide +kernel
theorem dL_isTold_152 : decode cL_isTold 152 = .ok (.invokestatic 106, 3) := by decide +kernel
theorem dL_isTold_155 : decode cL_isTold 155 = .ok (.istore 11, 2) := by decide +kernel
theorem dL_isTold_157 : decode cL_isTold 157 = .ok (.iconst 0, 1) := by decide +kernel
theorem dL_isTold_158 : decode cL_isTold 158 = .ok (.istore 12, 2) := by decide +kernel
theorem dL_isTold_160 : decode cL_isTold 160 = .ok (.iload 12, 2) := by decide +kernel
theorem dL_isTold_162 : decode cL_isTold 162 = .ok (.aload 5, 2) := by decide +kernel
theorem dL_isTold_164 : decode cL_isTold 164 = .ok (.bipush 10, 2) := by decide +kernel
theorem dL_isTold_166 : decode cL_isTold 166 = .ok (.iaload, 1) := by decide +kernel
theorem dL_isTold_167 : decode cL_isTold 167 = .ok (.if_icmp .ge 86, 3) := by decide +kernel
theorem dL_isTold_170 : decode cL_isTold 170 = .ok (.aload_n 0, 1) := by decide +kernel
theorem dL_isTold_171 : decode cL_isTold 171 = .ok (.iload 12, 2) := by decide +kernel
theorem dL_isTold_173 : decode cL_isTold 173 = .ok (.iconst 0, 1) := by decide +kernel
theorem dL_isTold_174 : decode cL_isTold 174 = .ok (.invokestatic 110, 3) := by decide +kernel
theorem dL_isTold_177 : decode cL_isTold 177 = .ok (.aload 7, 2) := by decide +kernel
theorem dL_isTold_179 : decode cL_isTold 179 = .ok (.iload 12, 2) := by decide +kernel
theorem dL_isTold_181 : decode cL_isTold 181 = .ok (.iaload, 1) := by decide +kernel
theorem dL_isTold_182 : decode cL_isTold 182 = .ok (.bipush 17, 2) := by decide +kernel
theorem dL_isTold_184 : decode cL_isTold 184 = .ok (.ishr, 1) := by decide +kernel
theorem dL_isTold_185 : decode cL_isTold 185 = .ok (.bipush 7, 2) := by decide +kernel
theorem dL_isTold_187 : decode cL_isTold 187 = .ok (.iand, 1) := by decide +kernel
theorem dL_isTold_188 : decode cL_isTold 188 = .ok (.if_icmp .ne 57, 3) := by decide +kernel
theorem dL_isTold_191 : decode cL_isTold 191 = .ok (.aload_n 0, 1) := by decide +kernel
theorem dL_isTold_192 : decode cL_isTold 192 = .ok (.iload 12, 2) := by decide +kernel
theorem dL_isTold_194 : decode cL_isTold 194 = .ok (.iconst 1, 1) := by decide +kernel
theorem dL_isTold_195 : decode cL_isTold 195 = .ok (.invokestatic 110, 3) := by decide +kernel
theorem dL_isTold_198 : decode cL_isTold 198 = .ok (.aload 7, 2) := by decide +kernel
theorem dL_isTold_200 : decode cL_isTold 200 = .ok (.iload 12, 2) := by decide +kernel
theorem dL_isTold_202 : decode cL_isTold 202 = .ok (.iaload, 1) := by decide +kernel
theorem dL_isTold_203 : decode cL_isTold 203 = .ok (.iconst 3, 1) := by decide +kernel
theorem dL_isTold_204 : decode cL_isTold 204 = .ok (.ishr, 1) := by decide +kernel
theorem dL_isTold_205 : decode cL_isTold 205 = .ok (.sipush 16383, 3) := by decide +kernel
theorem dL_isTold_208 : decode cL_isTold 208 = .ok (.iand, 1) := by decide +kernel
theorem dL_isTold_209 : decode cL_isTold 209 = .ok (.if_icmp .ne 36, 3) := by decide +kernel
theorem dL_isTold_212 : decode cL_isTold 212 = .ok (.aload_n 0, 1) := by decide +kernel
theorem dL_isTold_213 : decode cL_isTold 213 = .ok (.iload 12, 2) := by decide +kernel
theorem dL_isTold_215 : decode cL_isTold 215 = .ok (.iconst 2, 1) := by decide +kernel
theorem dL_isTold_216 : decode cL_isTold 216 = .ok (.invokestatic 110, 3) := by decide +kernel
theorem dL_isTold_219 : decode cL_isTold 219 = .ok (.aload 8, 2) := by decide +kernel
theorem dL_isTold_221 : decode cL_isTold 221 = .ok (.iload 12, 2) := by decide +kernel
theorem dL_isTold_223 : decode cL_isTold 223 = .ok (.iaload, 1) := by decide +kernel
theorem dL_isTold_224 : decode cL_isTold 224 = .ok (.if_icmp .ne 21, 3) := by decide +kernel
theorem dL_isTold_227 : decode cL_isTold 227 = .ok (.aload_n 0, 1) := by decide +kernel
theorem dL_isTold_228 : decode cL_isTold 228 = .ok (.iload 12, 2) := by decide +kernel
theorem dL_isTold_230 : decode cL_isTold 230 = .ok (.iconst 3, 1) := by decide +kernel
theorem dL_isTold_231 : decode cL_isTold 231 = .ok (.invokestatic 110, 3) := by decide +kernel
theorem dL_isTold_234 : decode cL_isTold 234 = .ok (.aload 7, 2) := by decide +kernel
theorem dL_isTold_236 : decode cL_isTold 236 = .ok (.iload 12, 2) := by decide +kernel
theorem dL_isTold_238 : decode cL_isTold 238 = .ok (.iaload, 1) := by decide +kernel
theorem dL_isTold_239 : decode cL_isTold 239 = .ok (.bipush 20, 2) := by decide +kernel
theorem dL_isTold_241 : decode cL_isTold 241 = .ok (.ishr, 1) := by decide +kernel
theorem dL_isTold_242 : decode cL_isTold 242 = .ok (.if_icmp .eq 5, 3) := by decide +kernel
theorem dL_isTold_245 : decode cL_isTold 245 = .ok (.iconst 0, 1) := by decide +kernel
theorem dL_isTold_246 : decode cL_isTold 246 = .ok (.ireturn, 1) := by decide +kernel
theorem dL_isTold_247 : decode cL_isTold 247 = .ok (.iinc 12 1, 3) := by decide +kernel
theorem dL_isTold_250 : decode cL_isTold 250 = .ok (.goto (-90), 3) := by decide +kernel
theorem dL_isTold_253 : decode cL_isTold 253 = .ok (.iload 9, 2) := by decide +kernel
theorem dL_isTold_255 : decode cL_isTold 255 = .ok (.iload 11, 2) := by decide +kernel
theorem dL_isTold_257 : decode cL_isTold 257 = .ok (.iadd, 1) := by decide +kernel
theorem dL_isTold_258 : decode cL_isTold 258 = .ok (.iload 10, 2) := by decide +kernel
theorem dL_isTold_260 : decode cL_isTold 260 = .ok (.iadd, 1) := by decide +kernel
theorem dL_isTold_261 : decode cL_isTold 261 = .ok (.aload 5, 2) := by decide +kernel
theorem dL_isTold_263 : decode cL_isTold 263 = .ok (.bipush 12, 2) := by decide +kernel
theorem dL_isTold_265 : decode cL_isTold 265 = .ok (.iaload, 1) := by decide +kernel
theorem dL_isTold_266 : decode cL_isTold 266 = .ok (.iadd, 1) := by decide +kernel
theorem dL_isTold_267 : decode cL_isTold 267 = .ok (.aload 5, 2) := by decide +kernel
theorem dL_isTold_269 : decode cL_isTold 269 = .ok (.bipush 13, 2) := by decide +kernel
theorem dL_isTold_271 : decode cL_isTold 271 = .ok (.iaload, 1) := by decide +kernel
theorem dL_isTold_272 : decode cL_isTold 272 = .ok (.iadd, 1) := by decide +kernel
theorem dL_isTold_273 : decode cL_isTold 273 = .ok (.aload 5, 2) := by decide +kernel
theorem dL_isTold_275 : decode cL_isTold 275 = .ok (.bipush 14, 2) := by decide +kernel
theorem dL_isTold_277 : decode cL_isTold 277 = .ok (.iaload, 1) := by decide +kernel
theorem dL_isTold_278 : decode cL_isTold 278 = .ok (.iadd, 1) := by decide +kernel
theorem dL_isTold_279 : decode cL_isTold 279 = .ok (.aload 5, 2) := by decide +kernel
theorem dL_isTold_281 : decode cL_isTold 281 = .ok (.bipush 11, 2) := by decide +kernel
theorem dL_isTold_283 : decode cL_isTold 283 = .ok (.iaload, 1) := by decide +kernel
theorem dL_isTold_284 : decode cL_isTold 284 = .ok (.if_icmp .eq 5, 3) := by decide +kernel
theorem dL_isTold_287 : decode cL_isTold 287 = .ok (.iconst 0, 1) := by decide +kernel
theorem dL_isTold_288 : decode cL_isTold 288 = .ok (.ireturn, 1) := by decide +kernel
theorem dL_isTold_289 : decode cL_isTold 289 = .ok (.aload_n 0, 1) := by decide +kernel
theorem dL_isTold_290 : decode cL_isTold 290 = .ok (.iconst 0, 1) := by decide +kernel
theorem dL_isTold_291 : decode cL_isTold 291 = .ok (.invokestatic 112, 3) := by decide +kernel
theorem dL_isTold_294 : decode cL_isTold 294 = .ok (.aload 5, 2) := by decide +kernel
theorem dL_isTold_296 : decode cL_isTold 296 = .ok (.bipush 11, 2) := by decide +kernel
theorem dL_isTold_298 : decode cL_isTold 298 = .ok (.iaload, 1) := by decide +kernel
theorem dL_isTold_299 : decode cL_isTold 299 = .ok (.if_icmp .ne 87, 3) := by decide +kernel
theorem dL_isTold_302 : decode cL_isTold 302 = .ok (.aload_n 0, 1) := by decide +kernel
theorem dL_isTold_303 : decode cL_isTold 303 = .ok (.iconst 1, 1) := by decide +kernel
theorem dL_isTold_304 : decode cL_isTold 304 = .ok (.invokestatic 112, 3) := by decide +kernel
theorem dL_isTold_307 : decode cL_isTold 307 = .ok (.iload 9, 2) := by decide +kernel
theorem dL_isTold_309 : decode cL_isTold 309 = .ok (.if_icmp .ne 77, 3) := by decide +kernel
theorem dL_isTold_312 : decode cL_isTold 312 = .ok (.aload_n 0, 1) := by decide +kernel
theorem dL_isTold_313 : decode cL_isTold 313 = .ok (.iconst 2, 1) := by decide +kernel
theorem dL_isTold_314 : decode cL_isTold 314 = .ok (.invokestatic 112, 3) := by decide +kernel
theorem dL_isTold_317 : decode cL_isTold 317 = .ok (.iload 11, 2) := by decide +kernel
theorem dL_isTold_319 : decode cL_isTold 319 = .ok (.if_icmp .ne 67, 3) := by decide +kernel
theorem dL_isTold_322 : decode cL_isTold 322 = .ok (.aload_n 0, 1) := by decide +kernel
theorem dL_isTold_323 : decode cL_isTold 323 = .ok (.iconst 3, 1) := by decide +kernel
theorem dL_isTold_324 : decode cL_isTold 324 = .ok (.invokestatic 112, 3) := by decide +kernel
theorem dL_isTold_327 : decode cL_isTold 327 = .ok (.iload 10, 2) := by decide +kernel
theorem dL_isTold_329 : decode cL_isTold 329 = .ok (.if_icmp .ne 57, 3) := by decide +kernel
theorem dL_isTold_332 : decode cL_isTold 332 = .ok (.aload_n 0, 1) := by decide +kernel
theorem dL_isTold_333 : decode cL_isTold 333 = .ok (.iconst 4, 1) := by decide +kernel
theorem dL_isTold_334 : decode cL_isTold 334 = .ok (.invokestatic 112, 3) := by decide +kernel
theorem dL_isTold_337 : decode cL_isTold 337 = .ok (.aload 5, 2) := by decide +kernel
theorem dL_isTold_339 : decode cL_isTold 339 = .ok (.bipush 12, 2) := by decide +kernel
theorem dL_isTold_341 : decode cL_isTold 341 = .ok (.iaload, 1) := by decide +kernel
theorem dL_isTold_342 : decode cL_isTold 342 = .ok (.if_icmp .ne 44, 3) := by decide +kernel
theorem dL_isTold_345 : decode cL_isTold 345 = .ok (.aload_n 0, 1) := by decide +kernel
theorem dL_isTold_346 : decode cL_isTold 346 = .ok (.iconst 5, 1) := by decide +kernel
theorem dL_isTold_347 : decode cL_isTold 347 = .ok (.invokestatic 112, 3) := by decide +kernel
theorem dL_isTold_350 : decode cL_isTold 350 = .ok (.aload 5, 2) := by decide +kernel
theorem dL_isTold_352 : decode cL_isTold 352 = .ok (.bipush 13, 2) := by decide +kernel
theorem dL_isTold_354 : decode cL_isTold 354 = .ok (.iaload, 1) := by decide +kernel
theorem dL_isTold_355 : decode cL_isTold 355 = .ok (.if_icmp .ne 31, 3) := by decide +kernel
theorem dL_isTold_358 : decode cL_isTold 358 = .ok (.aload_n 0, 1) := by decide +kernel
theorem dL_isTold_359 : decode cL_isTold 359 = .ok (.bipush 6, 2) := by decide +kernel
theorem dL_isTold_361 : decode cL_isTold 361 = .ok (.invokestatic 112, 3) := by decide +kernel
theorem dL_isTold_364 : decode cL_isTold 364 = .ok (.aload 5, 2) := by decide +kernel
theorem dL_isTold_366 : decode cL_isTold 366 = .ok (.bipush 14, 2) := by decide +kernel
theorem dL_isTold_368 : decode cL_isTold 368 = .ok (.iaload, 1) := by decide +kernel
theorem dL_isTold_369 : decode cL_isTold 369 = .ok (.if_icmp .ne 17, 3) := by decide +kernel
theorem dL_isTold_372 : decode cL_isTold 372 = .ok (.aload_n 0, 1) := by decide +kernel
theorem dL_isTold_373 : decode cL_isTold 373 = .ok (.bipush 7, 2) := by decide +kernel
theorem dL_isTold_375 : decode cL_isTold 375 = .ok (.invokestatic 112, 3) := by decide +kernel
theorem dL_isTold_378 : decode cL_isTold 378 = .ok (.aload 5, 2) := by decide +kernel
theorem dL_isTold_380 : decode cL_isTold 380 = .ok (.bipush 15, 2) := by decide +kernel
theorem dL_isTold_382 : decode cL_isTold 382 = .ok (.iaload, 1) := by decide +kernel
theorem dL_isTold_383 : decode cL_isTold 383 = .ok (.if_icmp .eq 5, 3) := by decide +kernel
theorem dL_isTold_386 : decode cL_isTold 386 = .ok (.iconst 0, 1) := by decide +kernel
theorem dL_isTold_387 : decode cL_isTold 387 = .ok (.ireturn, 1) := by decide +kernel
theorem dL_isTold_388 : decode cL_isTold 388 = .ok (.iload_n 1, 1) := by decide +kernel
theorem dL_isTold_389 : decode cL_isTold 389 = .ok (.bipush 10, 2) := by decide +kernel
theorem dL_isTold_391 : decode cL_isTold 391 = .ok (.irem, 1) := by decide +kernel
theorem dL_isTold_392 : decode cL_isTold 392 = .ok (.bipush 9, 2) := by decide +kernel
theorem dL_isTold_394 : decode cL_isTold 394 = .ok (.if_icmp .ne 27, 3) := by decide +kernel
theorem dL_isTold_397 : decode cL_isTold 397 = .ok (.aload_n 0, 1) := by decide +kernel
theorem dL_isTold_398 : decode cL_isTold 398 = .ok (.iload_n 1, 1) := by decide +kernel
theorem dL_isTold_399 : decode cL_isTold 399 = .ok (.bipush 10, 2) := by decide +kernel
theorem dL_isTold_401 : decode cL_isTold 401 = .ok (.idiv, 1) := by decide +kernel
theorem dL_isTold_402 : decode cL_isTold 402 = .ok (.iconst 5, 1) := by decide +kernel
theorem dL_isTold_403 : decode cL_isTold 403 = .ok (.irem, 1) := by decide +kernel
theorem dL_isTold_404 : decode cL_isTold 404 = .ok (.invokestatic 115, 3) := by decide +kernel
theorem dL_isTold_407 : decode cL_isTold 407 = .ok (.aload 4, 2) := by decide +kernel
theorem dL_isTold_409 : decode cL_isTold 409 = .ok (.iload_n 1, 1) := by decide +kernel
theorem dL_isTold_410 : decode cL_isTold 410 = .ok (.bipush 10, 2) := by decide +kernel
theorem dL_isTold_412 : decode cL_isTold 412 = .ok (.idiv, 1) := by decide +kernel
theorem dL_isTold_413 : decode cL_isTold 413 = .ok (.iconst 5, 1) := by decide +kernel
theorem dL_isTold_414 : decode cL_isTold 414 = .ok (.irem, 1) := by decide +kernel
theorem dL_isTold_415 : decode cL_isTold 415 = .ok (.iaload, 1) := by decide +kernel
theorem dL_isTold_416 : decode cL_isTold 416 = .ok (.if_icmp .eq 5, 3) := by decide +kernel
theorem dL_isTold_419 : decode cL_isTold 419 = .ok (.iconst 0, 1) := by decide +kernel
theorem dL_isTold_420 : decode cL_isTold 420 = .ok (.ireturn, 1) := by decide +kernel
theorem dL_isTold_421 : decode cL_isTold 421 = .ok (.aload_n 0, 1) := by decide +kernel
theorem dL_isTold_422 : decode cL_isTold 422 = .ok (.iconst 0, 1) := by decide +kernel
theorem dL_isTold_423 : decode cL_isTold 423 = .ok (.invokestatic 117, 3) := by decide +kernel
theorem dL_isTold_426 : decode cL_isTold 426 = .ok (.aload 5, 2) := by decide +kernel
theorem dL_isTold_428 : decode cL_isTold 428 = .ok (.iconst 2, 1) := by decide +kernel
theorem dL_isTold_429 : decode cL_isTold 429 = .ok (.iaload, 1) := by decide +kernel
theorem dL_isTold_430 : decode cL_isTold 430 = .ok (.if_icmp .ne 109, 3) := by decide +kernel
theorem dL_isTold_433 : decode cL_isTold 433 = .ok (.aload_n 0, 1) := by decide +kernel
theorem dL_isTold_434 : decode cL_isTold 434 = .ok (.iconst 1, 1) := by decide +kernel
theorem dL_isTold_435 : decode cL_isTold 435 = .ok (.invokestatic 117, 3) := by decide +kernel
theorem dL_isTold_438 : decode cL_isTold 438 = .ok (.aload 5, 2) := by decide +kernel
theorem dL_isTold_440 : decode cL_isTold 440 = .ok (.iconst 1, 1) := by decide +kernel
theorem dL_isTold_441 : decode cL_isTold 441 = .ok (.iaload, 1) := by decide +kernel
theorem dL_isTold_442 : decode cL_isTold 442 = .ok (.if_icmp .ne 97, 3) := by decide +kernel
theorem dL_isTold_445 : decode cL_isTold 445 = .ok (.aload_n 0, 1) := by decide +kernel
theorem dL_isTold_446 : decode cL_isTold 446 = .ok (.iconst 2, 1) := by decide +kernel
theorem dL_isTold_447 : decode cL_isTold 447 = .ok (.invokestatic 117, 3) := by decide +kernel
theorem dL_isTold_450 : decode cL_isTold 450 = .ok (.aload 5, 2) := by decide +kernel
theorem dL_isTold_452 : decode cL_isTold 452 = .ok (.iconst 3, 1) := by decide +kernel
theorem dL_isTold_453 : decode cL_isTold 453 = .ok (.iaload, 1) := by decide +kernel
theorem dL_isTold_454 : decode cL_isTold 454 = .ok (.iconst (-1), 1) := by decide +kernel
theorem dL_isTold_455 : decode cL_isTold 455 = .ok (.if_icmp .ne 7, 3) := by decide +kernel
theorem dL_isTold_458 : decode cL_isTold 458 = .ok (.iconst (-1), 1) := by decide +kernel
theorem dL_isTold_459 : decode cL_isTold 459 = .ok (.goto 7, 3) := by decide +kernel
theorem dL_isTold_462 : decode cL_isTold 462 = .ok (.aload 5, 2) := by decide +kernel
theorem dL_isTold_464 : decode cL_isTold 464 = .ok (.iconst 5, 1) := by decide +kernel
theorem dL_isTold_465 : decode cL_isTold 465 = .ok (.iaload, 1) := by decide +kernel
theorem dL_isTold_466 : decode cL_isTold 466 = .ok (.if_icmp .ne 73, 3) := by decide +kernel
theorem dL_isTold_469 : decode cL_isTold 469 = .ok (.aload_n 0, 1) := by decide +kernel
theorem dL_isTold_470 : decode cL_isTold 470 = .ok (.iconst 3, 1) := by decide +kernel
theorem dL_isTold_471 : decode cL_isTold 471 = .ok (.invokestatic 117, 3) := by decide +kernel
theorem dL_isTold_474 : decode cL_isTold 474 = .ok (.ldc 119, 2) := by decide +kernel
theorem dL_isTold_476 : decode cL_isTold 476 = .ok (.aload 5, 2) := by decide +kernel
theorem dL_isTold_478 : decode cL_isTold 478 = .ok (.bipush 6, 2) := by decide +kernel
theorem dL_isTold_480 : decode cL_isTold 480 = .ok (.iaload, 1) := by decide +kernel
theorem dL_isTold_481 : decode cL_isTold 481 = .ok (.isub, 1) := by decide +kernel
theorem dL_isTold_482 : decode cL_isTold 482 = .ok (.if_icmp .ne 57, 3) := by decide +kernel
theorem dL_isTold_485 : decode cL_isTold 485 = .ok (.aload_n 0, 1) := by decide +kernel
theorem dL_isTold_486 : decode cL_isTold 486 = .ok (.iconst 4, 1) := by decide +kernel
theorem dL_isTold_487 : decode cL_isTold 487 = .ok (.invokestatic 117, 3) := by decide +kernel
theorem dL_isTold_490 : decode cL_isTold 490 = .ok (.aload 5, 2) := by decide +kernel
theorem dL_isTold_492 : decode cL_isTold 492 = .ok (.bipush 7, 2) := by decide +kernel
theorem dL_isTold_494 : decode cL_isTold 494 = .ok (.iaload, 1) := by decide +kernel
theorem dL_isTold_495 : decode cL_isTold 495 = .ok (.if_icmp .ne 44, 3) := by decide +kernel
theorem dL_isTold_498 : decode cL_isTold 498 = .ok (.aload_n 0, 1) := by decide +kernel
theorem dL_isTold_499 : decode cL_isTold 499 = .ok (.iconst 5, 1) := by decide +kernel
theorem dL_isTold_500 : decode cL_isTold 500 = .ok (.invokestatic 117, 3) := by decide +kernel
theorem dL_isTold_503 : decode cL_isTold 503 = .ok (.aload 5, 2) := by decide +kernel
theorem dL_isTold_505 : decode cL_isTold 505 = .ok (.bipush 8, 2) := by decide +kernel
theorem dL_isTold_507 : decode cL_isTold 507 = .ok (.iaload, 1) := by decide +kernel
theorem dL_isTold_508 : decode cL_isTold 508 = .ok (.iload 11, 2) := by decide +kernel
theorem dL_isTold_510 : decode cL_isTold 510 = .ok (.aload 5, 2) := by decide +kernel
theorem dL_isTold_512 : decode cL_isTold 512 = .ok (.iconst 1, 1) := by decide +kernel
theorem dL_isTold_513 : decode cL_isTold 513 = .ok (.iaload, 1) := by decide +kernel
theorem dL_isTold_514 : decode cL_isTold 514 = .ok (.sipush 1000, 3) := by decide +kernel
theorem dL_isTold_517 : decode cL_isTold 517 = .ok (.invokestatic 94, 3) := by decide +kernel
theorem dL_isTold_520 : decode cL_isTold 520 = .ok (.isub, 1) := by decide +kernel
theorem dL_isTold_521 : decode cL_isTold 521 = .ok (.if_icmp .ne 18, 3) := by decide +kernel
theorem dL_isTold_524 : decode cL_isTold 524 = .ok (.aload_n 0, 1) := by decide +kernel
theorem dL_isTold_525 : decode cL_isTold 525 = .ok (.invokevirtual 120, 3) := by decide +kernel
theorem dL_isTold_528 : decode cL_isTold 528 = .ok (.aload 5, 2) := by decide +kernel
theorem dL_isTold_530 : decode cL_isTold 530 = .ok (.iconst 0, 1) := by decide +kernel
theorem dL_isTold_531 : decode cL_isTold 531 = .ok (.iaload, 1) := by decide +kernel
theorem dL_isTold_532 : decode cL_isTold 532 = .ok (.if_icmp .ne 7, 3) := by decide +kernel
theorem dL_isTold_535 : decode cL_isTold 535 = .ok (.iconst 1, 1) := by decide +kernel
theorem dL_isTold_536 : decode cL_isTold 536 = .ok (.goto 4, 3) := by decide +kernel
theorem dL_isTold_539 : decode cL_isTold 539 = .ok (.iconst 0, 1) := by decide +kernel
theorem dL_isTold_540 : decode cL_isTold 540 = .ok (.ireturn, 1) := by decide +kernel
