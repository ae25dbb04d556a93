def dc_Jx4a65c_init_da8c8_0 := dk8 (show dka cJx4a65c_init_da8c8 [(0, .aload_n 0, 1), (1, .invokespecial 1, 3), (4, .aload_n 0, 1), (5, .getstatic 39, 3), (8, .putfield 9, 3), (11, .return_, 1), (11, .return_, 1), (11, .return_, 1)] = true by decide +kernel)
def dJx4a65c_init_da8c8_0 := dc_Jx4a65c_init_da8c8_0.1.1.1
def dJx4a65c_init_da8c8_1 := dc_Jx4a65c_init_da8c8_0.1.1.2
def dJx4a65c_init_da8c8_4 := dc_Jx4a65c_init_da8c8_0.1.2.1
def dJx4a65c_init_da8c8_5 := dc_Jx4a65c_init_da8c8_0.1.2.2
def dJx4a65c_init_da8c8_8 := dc_Jx4a65c_init_da8c8_0.2.1.1
def dJx4a65c_init_da8c8_11 := dc_Jx4a65c_init_da8c8_0.2.1.2
def dc_Jx4a65c_grow_92f84_0 := dk16 (show dka cJx4a65c_grow_92f84 [(0, .aload_n 0, 1), (1, .getfield 9, 3), (4, .arraylength, 1), (5, .istore_n 2, 1), (6, .iload_n 2, 1), (7, .ifCond .gt 13, 3), (10, .aload_n 0, 1), (11, .getfield 9, 3), (14, .getstatic 39, 3), (17, .if_acmp .eq 28, 3), (20, .iload_n 2, 1), (21, .iload_n 1, 1), (22, .iload_n 2, 1), (23, .isub, 1), (24, .iload_n 2, 1), (25, .iconst 1, 1)] = true by decide +kernel)
def dJx4a65c_grow_92f84_0 := dc_Jx4a65c_grow_92f84_0.1.1.1.1
def dJx4a65c_grow_92f84_1 := dc_Jx4a65c_grow_92f84_0.1.1.1.2
def dJx4a65c_grow_92f84_4 := dc_Jx4a65c_grow_92f84_0.1.1.2.1
def dJx4a65c_grow_92f84_5 := dc_Jx4a65c_grow_92f84_0.1.1.2.2
def dJx4a65c_grow_92f84_6 := dc_Jx4a65c_grow_92f84_0.1.2.1.1
def dJx4a65c_grow_92f84_7 := dc_Jx4a65c_grow_92f84_0.1.2.1.2
def dJx4a65c_grow_92f84_10 := dc_Jx4a65c_grow_92f84_0.1.2.2.1
def dJx4a65c_grow_92f84_11 := dc_Jx4a65c_grow_92f84_0.1.2.2.2
def dJx4a65c_grow_92f84_14 := dc_Jx4a65c_grow_92f84_0.2.1.1.1
def dJx4a65c_grow_92f84_17 := dc_Jx4a65c_grow_92f84_0.2.1.1.2
def dJx4a65c_grow_92f84_20 := dc_Jx4a65c_grow_92f84_0.2.1.2.1
def dJx4a65c_grow_92f84_21 := dc_Jx4a65c_grow_92f84_0.2.1.2.2
def dJx4a65c_grow_92f84_22 := dc_Jx4a65c_grow_92f84_0.2.2.1.1
def dJx4a65c_grow_92f84_23 := dc_Jx4a65c_grow_92f84_0.2.2.1.2
def dJx4a65c_grow_92f84_24 := dc_Jx4a65c_grow_92f84_0.2.2.2.1
def dJx4a65c_grow_92f84_25 := dc_Jx4a65c_grow_92f84_0.2.2.2.2
def dc_Jx4a65c_grow_92f84_26 := dk16 (show dka cJx4a65c_grow_92f84 [(26, .ishr, 1), (27, .invokestatic 73, 3), (30, .istore_n 3, 1), (31, .aload_n 0, 1), (32, .aload_n 0, 1), (33, .getfield 9, 3), (36, .iload_n 3, 1), (37, .invokestatic 66, 3), (40, .dup_x1, 1), (41, .putfield 9, 3), (44, .areturn, 1), (45, .aload_n 0, 1), (46, .bipush 10, 2), (48, .iload_n 1, 1), (49, .invokestatic 79, 3), (52, .anewarray 7, 3)] = true by decide +kernel)
def dJx4a65c_grow_92f84_26 := dc_Jx4a65c_grow_92f84_26.1.1.1.1
def dJx4a65c_grow_92f84_27 := dc_Jx4a65c_grow_92f84_26.1.1.1.2
def dJx4a65c_grow_92f84_30 := dc_Jx4a65c_grow_92f84_26.1.1.2.1
def dJx4a65c_grow_92f84_31 := dc_Jx4a65c_grow_92f84_26.1.1.2.2
def dJx4a65c_grow_92f84_32 := dc_Jx4a65c_grow_92f84_26.1.2.1.1
def dJx4a65c_grow_92f84_33 := dc_Jx4a65c_grow_92f84_26.1.2.1.2
def dJx4a65c_grow_92f84_36 := dc_Jx4a65c_grow_92f84_26.1.2.2.1
def dJx4a65c_grow_92f84_37 := dc_Jx4a65c_grow_92f84_26.1.2.2.2
def dJx4a65c_grow_92f84_40 := dc_Jx4a65c_grow_92f84_26.2.1.1.1
def dJx4a65c_grow_92f84_41 := dc_Jx4a65c_grow_92f84_26.2.1.1.2
def dJx4a65c_grow_92f84_44 := dc_Jx4a65c_grow_92f84_26.2.1.2.1
def dJx4a65c_grow_92f84_45 := dc_Jx4a65c_grow_92f84_26.2.1.2.2
def dJx4a65c_grow_92f84_46 := dc_Jx4a65c_grow_92f84_26.2.2.1.1
def dJx4a65c_grow_92f84_48 := dc_Jx4a65c_grow_92f84_26.2.2.1.2
def dJx4a65c_grow_92f84_49 := dc_Jx4a65c_grow_92f84_26.2.2.2.1
def dJx4a65c_grow_92f84_52 := dc_Jx4a65c_grow_92f84_26.2.2.2.2
def dc_Jx4a65c_grow_92f84_55 := dk4 (show dka cJx4a65c_grow_92f84 [(55, .dup_x1, 1), (56, .putfield 9, 3), (59, .areturn, 1), (59, .areturn, 1)] = true by decide +kernel)
def dJx4a65c_grow_92f84_55 := dc_Jx4a65c_grow_92f84_55.1.1
def dJx4a65c_grow_92f84_56 := dc_Jx4a65c_grow_92f84_55.1.2
def dJx4a65c_grow_92f84_59 := dc_Jx4a65c_grow_92f84_55.2.1
def dc_Jx4a65c_grow_d5877_0 := dk8 (show dka cJx4a65c_grow_d5877 [(0, .aload_n 0, 1), (1, .aload_n 0, 1), (2, .getfield 48, 3), (5, .iconst 1, 1), (6, .iadd, 1), (7, .invokevirtual 69, 3), (10, .areturn, 1), (10, .areturn, 1)] = true by decide +kernel)
def dJx4a65c_grow_d5877_0 := dc_Jx4a65c_grow_d5877_0.1.1.1
def dJx4a65c_grow_d5877_1 := dc_Jx4a65c_grow_d5877_0.1.1.2
def dJx4a65c_grow_d5877_2 := dc_Jx4a65c_grow_d5877_0.1.2.1
def dJx4a65c_grow_d5877_5 := dc_Jx4a65c_grow_d5877_0.1.2.2
def dJx4a65c_grow_d5877_6 := dc_Jx4a65c_grow_d5877_0.2.1.1
def dJx4a65c_grow_d5877_7 := dc_Jx4a65c_grow_d5877_0.2.1.2
def dJx4a65c_grow_d5877_10 := dc_Jx4a65c_grow_d5877_0.2.2.1
def dc_Jx4a65c_size_8abf5_0 := dk4 (show dka cJx4a65c_size_8abf5 [(0, .aload_n 0, 1), (1, .getfield 48, 3), (4, .ireturn, 1), (4, .ireturn, 1)] = true by decide +kernel)
def dJx4a65c_size_8abf5_0 := dc_Jx4a65c_size_8abf5_0.1.1
def dJx4a65c_size_8abf5_1 := dc_Jx4a65c_size_8abf5_0.1.2
def dJx4a65c_size_8abf5_4 := dc_Jx4a65c_size_8abf5_0.2.1
def dc_Jx4a65c_isEmpty_aae02_0 := dk8 (show dka cJx4a65c_isEmpty_aae02 [(0, .aload_n 0, 1), (1, .getfield 48, 3), (4, .ifCond .ne 7, 3), (7, .iconst 1, 1), (8, .goto 4, 3), (11, .iconst 0, 1), (12, .ireturn, 1), (12, .ireturn, 1)] = true by decide +kernel)
def dJx4a65c_isEmpty_aae02_0 := dc_Jx4a65c_isEmpty_aae02_0.1.1.1
def dJx4a65c_isEmpty_aae02_1 := dc_Jx4a65c_isEmpty_aae02_0.1.1.2
def dJx4a65c_isEmpty_aae02_4 := dc_Jx4a65c_isEmpty_aae02_0.1.2.1
def dJx4a65c_isEmpty_aae02_7 := dc_Jx4a65c_isEmpty_aae02_0.1.2.2
def dJx4a65c_isEmpty_aae02_8 := dc_Jx4a65c_isEmpty_aae02_0.2.1.1
def dJx4a65c_isEmpty_aae02_11 := dc_Jx4a65c_isEmpty_aae02_0.2.1.2
def dJx4a65c_isEmpty_aae02_12 := dc_Jx4a65c_isEmpty_aae02_0.2.2.1
def dc_Jx4a65c_elementData_915e3_0 := dk8 (show dka cJx4a65c_elementData_915e3 [(0, .aload_n 0, 1), (1, .getfield 9, 3), (4, .iload_n 1, 1), (5, .aaload, 1), (6, .areturn, 1), (6, .areturn, 1), (6, .areturn, 1), (6, .areturn, 1)] = true by decide +kernel)
def dJx4a65c_elementData_915e3_0 := dc_Jx4a65c_elementData_915e3_0.1.1.1
def dJx4a65c_elementData_915e3_1 := dc_Jx4a65c_elementData_915e3_0.1.1.2
def dJx4a65c_elementData_915e3_4 := dc_Jx4a65c_elementData_915e3_0.1.2.1
def dJx4a65c_elementData_915e3_5 := dc_Jx4a65c_elementData_915e3_0.1.2.2
def dJx4a65c_elementData_915e3_6 := dc_Jx4a65c_elementData_915e3_0.2.1.1
def dc_Jx4a65c_get_915e3_0 := dk16 (show dka cJx4a65c_get_915e3 [(0, .iload_n 1, 1), (1, .aload_n 0, 1), (2, .getfield 48, 3), (5, .invokestatic 118, 3), (8, .pop, 1), (9, .aload_n 0, 1), (10, .iload_n 1, 1), (11, .invokevirtual 123, 3), (14, .areturn, 1), (14, .areturn, 1), (14, .areturn, 1), (14, .areturn, 1), (14, .areturn, 1), (14, .areturn, 1), (14, .areturn, 1), (14, .areturn, 1)] = true by decide +kernel)
def dJx4a65c_get_915e3_0 := dc_Jx4a65c_get_915e3_0.1.1.1.1
def dJx4a65c_get_915e3_1 := dc_Jx4a65c_get_915e3_0.1.1.1.2
def dJx4a65c_get_915e3_2 := dc_Jx4a65c_get_915e3_0.1.1.2.1
def dJx4a65c_get_915e3_5 := dc_Jx4a65c_get_915e3_0.1.1.2.2
def dJx4a65c_get_915e3_8 := dc_Jx4a65c_get_915e3_0.1.2.1.1
def dJx4a65c_get_915e3_9 := dc_Jx4a65c_get_915e3_0.1.2.1.2
def dJx4a65c_get_915e3_10 := dc_Jx4a65c_get_915e3_0.1.2.2.1
def dJx4a65c_get_915e3_11 := dc_Jx4a65c_get_915e3_0.1.2.2.2
def dJx4a65c_get_915e3_14 := dc_Jx4a65c_get_915e3_0.2.1.1.1
def dc_Jx4a65c_add_72be8_0 := dk16 (show dka cJx4a65c_add_72be8 [(0, .iload_n 3, 1), (1, .aload_n 2, 1), (2, .arraylength, 1), (3, .if_icmp .ne 8, 3), (6, .aload_n 0, 1), (7, .invokevirtual 129, 3), (10, .astore_n 2, 1), (11, .aload_n 2, 1), (12, .iload_n 3, 1), (13, .aload_n 1, 1), (14, .aastore, 1), (15, .aload_n 0, 1), (16, .iload_n 3, 1), (17, .iconst 1, 1), (18, .iadd, 1), (19, .putfield 48, 3)] = true by decide +kernel)
def dJx4a65c_add_72be8_0 := dc_Jx4a65c_add_72be8_0.1.1.1.1
def dJx4a65c_add_72be8_1 := dc_Jx4a65c_add_72be8_0.1.1.1.2
def dJx4a65c_add_72be8_2 := dc_Jx4a65c_add_72be8_0.1.1.2.1
def dJx4a65c_add_72be8_3 := dc_Jx4a65c_add_72be8_0.1.1.2.2
def dJx4a65c_add_72be8_6 := dc_Jx4a65c_add_72be8_0.1.2.1.1
def dJx4a65c_add_72be8_7 := dc_Jx4a65c_add_72be8_0.1.2.1.2
def dJx4a65c_add_72be8_10 := dc_Jx4a65c_add_72be8_0.1.2.2.1
def dJx4a65c_add_72be8_11 := dc_Jx4a65c_add_72be8_0.1.2.2.2
def dJx4a65c_add_72be8_12 := dc_Jx4a65c_add_72be8_0.2.1.1.1
def dJx4a65c_add_72be8_13 := dc_Jx4a65c_add_72be8_0.2.1.1.2
def dJx4a65c_add_72be8_14 := dc_Jx4a65c_add_72be8_0.2.1.2.1
def dJx4a65c_add_72be8_15 := dc_Jx4a65c_add_72be8_0.2.1.2.2
def dJx4a65c_add_72be8_16 := dc_Jx4a65c_add_72be8_0.2.2.1.1
def dJx4a65c_add_72be8_17 := dc_Jx4a65c_add_72be8_0.2.2.1.2
def dJx4a65c_add_72be8_18 := dc_Jx4a65c_add_72be8_0.2.2.2.1
def dJx4a65c_add_72be8_19 := dc_Jx4a65c_add_72be8_0.2.2.2.2
def dc_Jx4a65c_add_72be8_22 := dk1 (show dka cJx4a65c_add_72be8 [(22, .return_, 1)] = true by decide +kernel)
def dJx4a65c_add_72be8_22 := dc_Jx4a65c_add_72be8_22
def dc_Jx4a65c_add_9ea2d_0 := dk16 (show dka cJx4a65c_add_9ea2d [(0, .aload_n 0, 1), (1, .dup, 1), (2, .getfield 63, 3), (5, .iconst 1, 1), (6, .iadd, 1), (7, .putfield 63, 3), (10, .aload_n 0, 1), (11, .aload_n 1, 1), (12, .aload_n 0, 1), (13, .getfield 9, 3), (16, .aload_n 0, 1), (17, .getfield 48, 3), (20, .invokevirtual 131, 3), (23, .iconst 1, 1), (24, .ireturn, 1), (24, .ireturn, 1)] = true by decide +kernel)
def dJx4a65c_add_9ea2d_0 := dc_Jx4a65c_add_9ea2d_0.1.1.1.1
def dJx4a65c_add_9ea2d_1 := dc_Jx4a65c_add_9ea2d_0.1.1.1.2
def dJx4a65c_add_9ea2d_2 := dc_Jx4a65c_add_9ea2d_0.1.1.2.1
def dJx4a65c_add_9ea2d_5 := dc_Jx4a65c_add_9ea2d_0.1.1.2.2
def dJx4a65c_add_9ea2d_6 := dc_Jx4a65c_add_9ea2d_0.1.2.1.1
def dJx4a65c_add_9ea2d_7 := dc_Jx4a65c_add_9ea2d_0.1.2.1.2
def dJx4a65c_add_9ea2d_10 := dc_Jx4a65c_add_9ea2d_0.1.2.2.1
def dJx4a65c_add_9ea2d_11 := dc_Jx4a65c_add_9ea2d_0.1.2.2.2
def dJx4a65c_add_9ea2d_12 := dc_Jx4a65c_add_9ea2d_0.2.1.1.1
def dJx4a65c_add_9ea2d_13 := dc_Jx4a65c_add_9ea2d_0.2.1.1.2
def dJx4a65c_add_9ea2d_16 := dc_Jx4a65c_add_9ea2d_0.2.1.2.1
def dJx4a65c_add_9ea2d_17 := dc_Jx4a65c_add_9ea2d_0.2.1.2.2
def dJx4a65c_add_9ea2d_20 := dc_Jx4a65c_add_9ea2d_0.2.2.1.1
def dJx4a65c_add_9ea2d_23 := dc_Jx4a65c_add_9ea2d_0.2.2.1.2
def dJx4a65c_add_9ea2d_24 := dc_Jx4a65c_add_9ea2d_0.2.2.2.1
def dc_Jx4a65c_remove_915e3_0 := dk16 (show dka cJx4a65c_remove_915e3 [(0, .iload_n 1, 1), (1, .aload_n 0, 1), (2, .getfield 48, 3), (5, .invokestatic 118, 3), (8, .pop, 1), (9, .aload_n 0, 1), (10, .getfield 9, 3), (13, .astore_n 2, 1), (14, .aload_n 2, 1), (15, .iload_n 1, 1), (16, .aaload, 1), (17, .astore_n 3, 1), (18, .aload_n 0, 1), (19, .aload_n 2, 1), (20, .iload_n 1, 1), (21, .invokevirtual 144, 3)] = true by decide +kernel)
def dJx4a65c_remove_915e3_0 := dc_Jx4a65c_remove_915e3_0.1.1.1.1
def dJx4a65c_remove_915e3_1 := dc_Jx4a65c_remove_915e3_0.1.1.1.2
def dJx4a65c_remove_915e3_2 := dc_Jx4a65c_remove_915e3_0.1.1.2.1
def dJx4a65c_remove_915e3_5 := dc_Jx4a65c_remove_915e3_0.1.1.2.2
def dJx4a65c_remove_915e3_8 := dc_Jx4a65c_remove_915e3_0.1.2.1.1
def dJx4a65c_remove_915e3_9 := dc_Jx4a65c_remove_915e3_0.1.2.1.2
def dJx4a65c_remove_915e3_10 := dc_Jx4a65c_remove_915e3_0.1.2.2.1
def dJx4a65c_remove_915e3_13 := dc_Jx4a65c_remove_915e3_0.1.2.2.2
def dJx4a65c_remove_915e3_14 := dc_Jx4a65c_remove_915e3_0.2.1.1.1
def dJx4a65c_remove_915e3_15 := dc_Jx4a65c_remove_915e3_0.2.1.1.2
def dJx4a65c_remove_915e3_16 := dc_Jx4a65c_remove_915e3_0.2.1.2.1
def dJx4a65c_remove_915e3_17 := dc_Jx4a65c_remove_915e3_0.2.1.2.2
def dJx4a65c_remove_915e3_18 := dc_Jx4a65c_remove_915e3_0.2.2.1.1
def dJx4a65c_remove_915e3_19 := dc_Jx4a65c_remove_915e3_0.2.2.1.2
def dJx4a65c_remove_915e3_20 := dc_Jx4a65c_remove_915e3_0.2.2.2.1
def dJx4a65c_remove_915e3_21 := dc_Jx4a65c_remove_915e3_0.2.2.2.2
def dc_Jx4a65c_remove_915e3_24 := dk2 (show dka cJx4a65c_remove_915e3 [(24, .aload_n 3, 1), (25, .areturn, 1)] = true by decide +kernel)
def dJx4a65c_remove_915e3_24 := dc_Jx4a65c_remove_915e3_24.1
def dJx4a65c_remove_915e3_25 := dc_Jx4a65c_remove_915e3_24.2
def dc_Jx4a65c_fastRemove_b59b0_0 := dk16 (show dka cJx4a65c_fastRemove_b59b0 [(0, .aload_n 0, 1), (1, .dup, 1), (2, .getfield 63, 3), (5, .iconst 1, 1), (6, .iadd, 1), (7, .putfield 63, 3), (10, .aload_n 0, 1), (11, .getfield 48, 3), (14, .iconst 1, 1), (15, .isub, 1), (16, .dup, 1), (17, .istore_n 3, 1), (18, .iload_n 2, 1), (19, .if_icmp .le 15, 3), (22, .aload_n 1, 1), (23, .iload_n 2, 1)] = true by decide +kernel)
def dJx4a65c_fastRemove_b59b0_0 := dc_Jx4a65c_fastRemove_b59b0_0.1.1.1.1
def dJx4a65c_fastRemove_b59b0_1 := dc_Jx4a65c_fastRemove_b59b0_0.1.1.1.2
def dJx4a65c_fastRemove_b59b0_2 := dc_Jx4a65c_fastRemove_b59b0_0.1.1.2.1
def dJx4a65c_fastRemove_b59b0_5 := dc_Jx4a65c_fastRemove_b59b0_0.1.1.2.2
def dJx4a65c_fastRemove_b59b0_6 := dc_Jx4a65c_fastRemove_b59b0_0.1.2.1.1
def dJx4a65c_fastRemove_b59b0_7 := dc_Jx4a65c_fastRemove_b59b0_0.1.2.1.2
def dJx4a65c_fastRemove_b59b0_10 := dc_Jx4a65c_fastRemove_b59b0_0.1.2.2.1
def dJx4a65c_fastRemove_b59b0_11 := dc_Jx4a65c_fastRemove_b59b0_0.1.2.2.2
def dJx4a65c_fastRemove_b59b0_14 := dc_Jx4a65c_fastRemove_b59b0_0.2.1.1.1
def dJx4a65c_fastRemove_b59b0_15 := dc_Jx4a65c_fastRemove_b59b0_0.2.1.1.2
def dJx4a65c_fastRemove_b59b0_16 := dc_Jx4a65c_fastRemove_b59b0_0.2.1.2.1
def dJx4a65c_fastRemove_b59b0_17 := dc_Jx4a65c_fastRemove_b59b0_0.2.1.2.2
def dJx4a65c_fastRemove_b59b0_18 := dc_Jx4a65c_fastRemove_b59b0_0.2.2.1.1
def dJx4a65c_fastRemove_b59b0_19 := dc_Jx4a65c_fastRemove_b59b0_0.2.2.1.2
def dJx4a65c_fastRemove_b59b0_22 := dc_Jx4a65c_fastRemove_b59b0_0.2.2.2.1
def dJx4a65c_fastRemove_b59b0_23 := dc_Jx4a65c_fastRemove_b59b0_0.2.2.2.2
def dc_Jx4a65c_fastRemove_b59b0_24 := dk16 (show dka cJx4a65c_fastRemove_b59b0 [(24, .iconst 1, 1), (25, .iadd, 1), (26, .aload_n 1, 1), (27, .iload_n 2, 1), (28, .iload_n 3, 1), (29, .iload_n 2, 1), (30, .isub, 1), (31, .invokestatic 112, 3), (34, .aload_n 1, 1), (35, .aload_n 0, 1), (36, .iload_n 3, 1), (37, .dup_x1, 1), (38, .putfield 48, 3), (41, .aconst_null, 1), (42, .aastore, 1), (43, .return_, 1)] = true by decide +kernel)
def dJx4a65c_fastRemove_b59b0_24 := dc_Jx4a65c_fastRemove_b59b0_24.1.1.1.1
def dJx4a65c_fastRemove_b59b0_25 := dc_Jx4a65c_fastRemove_b59b0_24.1.1.1.2
def dJx4a65c_fastRemove_b59b0_26 := dc_Jx4a65c_fastRemove_b59b0_24.1.1.2.1
def dJx4a65c_fastRemove_b59b0_27 := dc_Jx4a65c_fastRemove_b59b0_24.1.1.2.2
def dJx4a65c_fastRemove_b59b0_28 := dc_Jx4a65c_fastRemove_b59b0_24.1.2.1.1
def dJx4a65c_fastRemove_b59b0_29 := dc_Jx4a65c_fastRemove_b59b0_24.1.2.1.2
def dJx4a65c_fastRemove_b59b0_30 := dc_Jx4a65c_fastRemove_b59b0_24.1.2.2.1
def dJx4a65c_fastRemove_b59b0_31 := dc_Jx4a65c_fastRemove_b59b0_24.1.2.2.2
def dJx4a65c_fastRemove_b59b0_34 := dc_Jx4a65c_fastRemove_b59b0_24.2.1.1.1
def dJx4a65c_fastRemove_b59b0_35 := dc_Jx4a65c_fastRemove_b59b0_24.2.1.1.2
def dJx4a65c_fastRemove_b59b0_36 := dc_Jx4a65c_fastRemove_b59b0_24.2.1.2.1
def dJx4a65c_fastRemove_b59b0_37 := dc_Jx4a65c_fastRemove_b59b0_24.2.1.2.2
def dJx4a65c_fastRemove_b59b0_38 := dc_Jx4a65c_fastRemove_b59b0_24.2.2.1.1
def dJx4a65c_fastRemove_b59b0_41 := dc_Jx4a65c_fastRemove_b59b0_24.2.2.1.2
def dJx4a65c_fastRemove_b59b0_42 := dc_Jx4a65c_fastRemove_b59b0_24.2.2.2.1
def dJx4a65c_fastRemove_b59b0_43 := dc_Jx4a65c_fastRemove_b59b0_24.2.2.2.2
def dc_Jxc12de_init_da8c8_0 := dk8 (show dka cJxc12de_init_da8c8 [(0, .aload_n 0, 1), (1, .invokespecial 1, 3), (4, .aload_n 0, 1), (5, .iconst 0, 1), (6, .putfield 7, 3), (9, .return_, 1), (9, .return_, 1), (9, .return_, 1)] = true by decide +kernel)
def dJxc12de_init_da8c8_0 := dc_Jxc12de_init_da8c8_0.1.1.1
def dJxc12de_init_da8c8_1 := dc_Jxc12de_init_da8c8_0.1.1.2
def dJxc12de_init_da8c8_4 := dc_Jxc12de_init_da8c8_0.1.2.1
def dJxc12de_init_da8c8_5 := dc_Jxc12de_init_da8c8_0.1.2.2
def dJxc12de_init_da8c8_6 := dc_Jxc12de_init_da8c8_0.2.1.1
def dJxc12de_init_da8c8_9 := dc_Jxc12de_init_da8c8_0.2.1.2
def dc_Jxa1e45_init_da8c8_0 := dk4 (show dka cJxa1e45_init_da8c8 [(0, .aload_n 0, 1), (1, .invokespecial 1, 3), (4, .return_, 1), (4, .return_, 1)] = true by decide +kernel)
def dJxa1e45_init_da8c8_0 := dc_Jxa1e45_init_da8c8_0.1.1
def dJxa1e45_init_da8c8_1 := dc_Jxa1e45_init_da8c8_0.1.2
def dJxa1e45_init_da8c8_4 := dc_Jxa1e45_init_da8c8_0.2.1
def dc_J4_init_da8c8_0 := dk4 (show dka cJ4_init_da8c8 [(0, .aload_n 0, 1), (1, .bipush 16, 2), (3, .invokespecial 1, 3), (6, .return_, 1)] = true by decide +kernel)
def dJ4_init_da8c8_0 := dc_J4_init_da8c8_0.1.1
def dJ4_init_da8c8_1 := dc_J4_init_da8c8_0.1.2
def dJ4_init_da8c8_3 := dc_J4_init_da8c8_0.2.1
def dJ4_init_da8c8_6 := dc_J4_init_da8c8_0.2.2
def dc_J4_append_15ec4_0 := dk8 (show dka cJ4_append_15ec4 [(0, .aload_n 0, 1), (1, .aload_n 1, 1), (2, .invokespecial 29, 3), (5, .pop, 1), (6, .aload_n 0, 1), (7, .areturn, 1), (7, .areturn, 1), (7, .areturn, 1)] = true by decide +kernel)
def dJ4_append_15ec4_0 := dc_J4_append_15ec4_0.1.1.1
def dJ4_append_15ec4_1 := dc_J4_append_15ec4_0.1.1.2
def dJ4_append_15ec4_2 := dc_J4_append_15ec4_0.1.2.1
def dJ4_append_15ec4_5 := dc_J4_append_15ec4_0.1.2.2
def dJ4_append_15ec4_6 := dc_J4_append_15ec4_0.2.1.1
def dJ4_append_15ec4_7 := dc_J4_append_15ec4_0.2.1.2
def dc_J4_append_cf468_0 := dk8 (show dka cJ4_append_cf468 [(0, .aload_n 0, 1), (1, .iload_n 1, 1), (2, .invokespecial 50, 3), (5, .pop, 1), (6, .aload_n 0, 1), (7, .areturn, 1), (7, .areturn, 1), (7, .areturn, 1)] = true by decide +kernel)
def dJ4_append_cf468_0 := dc_J4_append_cf468_0.1.1.1
def dJ4_append_cf468_1 := dc_J4_append_cf468_0.1.1.2
def dJ4_append_cf468_2 := dc_J4_append_cf468_0.1.2.1
def dJ4_append_cf468_5 := dc_J4_append_cf468_0.1.2.2
def dJ4_append_cf468_6 := dc_J4_append_cf468_0.2.1.1
def dJ4_append_cf468_7 := dc_J4_append_cf468_0.2.1.2
def dc_J4_toString_0e30d_0 := dk8 (show dka cJ4_toString_0e30d [(0, .new 18, 3), (3, .dup, 1), (4, .aload_n 0, 1), (5, .invokespecial 137, 3), (8, .areturn, 1), (8, .areturn, 1), (8, .areturn, 1), (8, .areturn, 1)] = true by decide +kernel)
def dJ4_toString_0e30d_0 := dc_J4_toString_0e30d_0.1.1.1
def dJ4_toString_0e30d_3 := dc_J4_toString_0e30d_0.1.1.2
def dJ4_toString_0e30d_4 := dc_J4_toString_0e30d_0.1.2.1
def dJ4_toString_0e30d_5 := dc_J4_toString_0e30d_0.1.2.2
def dJ4_toString_0e30d_8 := dc_J4_toString_0e30d_0.2.1.1
def dc_J4_length_8abf5_0 := dk4 (show dka cJ4_length_8abf5 [(0, .aload_n 0, 1), (1, .invokespecial 343, 3), (4, .ireturn, 1), (4, .ireturn, 1)] = true by decide +kernel)
def dJ4_length_8abf5_0 := dc_J4_length_8abf5_0.1.1
def dJ4_length_8abf5_1 := dc_J4_length_8abf5_0.1.2
def dJ4_length_8abf5_4 := dc_J4_length_8abf5_0.2.1
def dc_J5_init_d00df_0 := dk16 (show dka cJ5_init_d00df [(0, .aload_n 0, 1), (1, .invokespecial 3, 3), (4, .getstatic 18, 3), (7, .ifCond .eq 18, 3), (10, .aload_n 0, 1), (11, .iload_n 1, 1), (12, .newarray .byte, 2), (14, .putfield 15, 3), (17, .aload_n 0, 1), (18, .iconst 0, 1), (19, .putfield 22, 3), (22, .goto 16, 3), (25, .aload_n 0, 1), (26, .iload_n 1, 1), (27, .invokestatic 26, 3), (30, .putfield 15, 3)] = true by decide +kernel)
def dJ5_init_d00df_0 := dc_J5_init_d00df_0.1.1.1.1
def dJ5_init_d00df_1 := dc_J5_init_d00df_0.1.1.1.2
def dJ5_init_d00df_4 := dc_J5_init_d00df_0.1.1.2.1
def dJ5_init_d00df_7 := dc_J5_init_d00df_0.1.1.2.2
def dJ5_init_d00df_10 := dc_J5_init_d00df_0.1.2.1.1
def dJ5_init_d00df_11 := dc_J5_init_d00df_0.1.2.1.2
def dJ5_init_d00df_12 := dc_J5_init_d00df_0.1.2.2.1
def dJ5_init_d00df_14 := dc_J5_init_d00df_0.1.2.2.2
def dJ5_init_d00df_17 := dc_J5_init_d00df_0.2.1.1.1
def dJ5_init_d00df_18 := dc_J5_init_d00df_0.2.1.1.2
def dJ5_init_d00df_19 := dc_J5_init_d00df_0.2.1.2.1
def dJ5_init_d00df_22 := dc_J5_init_d00df_0.2.1.2.2
def dc_J5_init_d00df_33 := dk4 (show dka cJ5_init_d00df [(33, .aload_n 0, 1), (34, .iconst 1, 1), (35, .putfield 22, 3), (38, .return_, 1)] = true by decide +kernel)
def dJ5_init_d00df_38 := dc_J5_init_d00df_33.2.2
def dc_J5_length_8abf5_0 := dk4 (show dka cJ5_length_8abf5 [(0, .aload_n 0, 1), (1, .getfield 79, 3), (4, .ireturn, 1), (4, .ireturn, 1)] = true by decide +kernel)
def dJ5_length_8abf5_0 := dc_J5_length_8abf5_0.1.1
def dJ5_length_8abf5_1 := dc_J5_length_8abf5_0.1.2
def dJ5_length_8abf5_4 := dc_J5_length_8abf5_0.2.1
def dc_J5_ensureCapacityInternal_d00df_0 := dk16 (show dka cJ5_ensureCapacityInternal_d00df [(0, .aload_n 0, 1), (1, .getfield 15, 3), (4, .arraylength, 1), (5, .aload_n 0, 1), (6, .getfield 22, 3), (9, .ishr, 1), (10, .istore_n 2, 1), (11, .iload_n 1, 1), (12, .iload_n 2, 1), (13, .isub, 1), (14, .ifCond .le 24, 3), (17, .aload_n 0, 1), (18, .aload_n 0, 1), (19, .getfield 15, 3), (22, .aload_n 0, 1), (23, .iload_n 1, 1)] = true by decide +kernel)
def dJ5_ensureCapacityInternal_d00df_0 := dc_J5_ensureCapacityInternal_d00df_0.1.1.1.1
def dJ5_ensureCapacityInternal_d00df_1 := dc_J5_ensureCapacityInternal_d00df_0.1.1.1.2
def dJ5_ensureCapacityInternal_d00df_4 := dc_J5_ensureCapacityInternal_d00df_0.1.1.2.1
def dJ5_ensureCapacityInternal_d00df_5 := dc_J5_ensureCapacityInternal_d00df_0.1.1.2.2
def dJ5_ensureCapacityInternal_d00df_6 := dc_J5_ensureCapacityInternal_d00df_0.1.2.1.1
def dJ5_ensureCapacityInternal_d00df_9 := dc_J5_ensureCapacityInternal_d00df_0.1.2.1.2
def dJ5_ensureCapacityInternal_d00df_10 := dc_J5_ensureCapacityInternal_d00df_0.1.2.2.1
def dJ5_ensureCapacityInternal_d00df_11 := dc_J5_ensureCapacityInternal_d00df_0.1.2.2.2
def dJ5_ensureCapacityInternal_d00df_12 := dc_J5_ensureCapacityInternal_d00df_0.2.1.1.1
def dJ5_ensureCapacityInternal_d00df_13 := dc_J5_ensureCapacityInternal_d00df_0.2.1.1.2
def dJ5_ensureCapacityInternal_d00df_14 := dc_J5_ensureCapacityInternal_d00df_0.2.1.2.1
def dJ5_ensureCapacityInternal_d00df_17 := dc_J5_ensureCapacityInternal_d00df_0.2.1.2.2
def dJ5_ensureCapacityInternal_d00df_18 := dc_J5_ensureCapacityInternal_d00df_0.2.2.1.1
def dJ5_ensureCapacityInternal_d00df_19 := dc_J5_ensureCapacityInternal_d00df_0.2.2.1.2
def dJ5_ensureCapacityInternal_d00df_22 := dc_J5_ensureCapacityInternal_d00df_0.2.2.2.1
def dJ5_ensureCapacityInternal_d00df_23 := dc_J5_ensureCapacityInternal_d00df_0.2.2.2.2
def dc_J5_ensureCapacityInternal_d00df_24 := dk8 (show dka cJ5_ensureCapacityInternal_d00df [(24, .invokevirtual 104, 3), (27, .aload_n 0, 1), (28, .getfield 22, 3), (31, .ishl, 1), (32, .invokestatic 108, 3), (35, .putfield 15, 3), (38, .return_, 1), (38, .return_, 1)] = true by decide +kernel)
def dJ5_ensureCapacityInternal_d00df_24 := dc_J5_ensureCapacityInternal_d00df_24.1.1.1
def dJ5_ensureCapacityInternal_d00df_27 := dc_J5_ensureCapacityInternal_d00df_24.1.1.2
def dJ5_ensureCapacityInternal_d00df_28 := dc_J5_ensureCapacityInternal_d00df_24.1.2.1
def dJ5_ensureCapacityInternal_d00df_31 := dc_J5_ensureCapacityInternal_d00df_24.1.2.2
def dJ5_ensureCapacityInternal_d00df_32 := dc_J5_ensureCapacityInternal_d00df_24.2.1.1
def dJ5_ensureCapacityInternal_d00df_35 := dc_J5_ensureCapacityInternal_d00df_24.2.1.2
def dJ5_ensureCapacityInternal_d00df_38 := dc_J5_ensureCapacityInternal_d00df_24.2.2.1
def dc_J5_newCapacity_0f7a4_0 := dk16 (show dka cJ5_newCapacity_0f7a4 [(0, .aload_n 0, 1), (1, .getfield 15, 3), (4, .arraylength, 1), (5, .istore_n 2, 1), (6, .iload_n 1, 1), (7, .aload_n 0, 1), (8, .getfield 22, 3), (11, .ishl, 1), (12, .istore_n 3, 1), (13, .iload_n 3, 1), (14, .iload_n 2, 1), (15, .isub, 1), (16, .istore 4, 2), (18, .iload_n 2, 1), (19, .iload 4, 2), (21, .iload_n 2, 1)] = true by decide +kernel)
def dJ5_newCapacity_0f7a4_0 := dc_J5_newCapacity_0f7a4_0.1.1.1.1
def dJ5_newCapacity_0f7a4_1 := dc_J5_newCapacity_0f7a4_0.1.1.1.2
def dJ5_newCapacity_0f7a4_4 := dc_J5_newCapacity_0f7a4_0.1.1.2.1
def dJ5_newCapacity_0f7a4_5 := dc_J5_newCapacity_0f7a4_0.1.1.2.2
def dJ5_newCapacity_0f7a4_6 := dc_J5_newCapacity_0f7a4_0.1.2.1.1
def dJ5_newCapacity_0f7a4_7 := dc_J5_newCapacity_0f7a4_0.1.2.1.2
def dJ5_newCapacity_0f7a4_8 := dc_J5_newCapacity_0f7a4_0.1.2.2.1
def dJ5_newCapacity_0f7a4_11 := dc_J5_newCapacity_0f7a4_0.1.2.2.2
def dJ5_newCapacity_0f7a4_12 := dc_J5_newCapacity_0f7a4_0.2.1.1.1
def dJ5_newCapacity_0f7a4_13 := dc_J5_newCapacity_0f7a4_0.2.1.1.2
def dJ5_newCapacity_0f7a4_14 := dc_J5_newCapacity_0f7a4_0.2.1.2.1
def dJ5_newCapacity_0f7a4_15 := dc_J5_newCapacity_0f7a4_0.2.1.2.2
def dJ5_newCapacity_0f7a4_16 := dc_J5_newCapacity_0f7a4_0.2.2.1.1
def dJ5_newCapacity_0f7a4_18 := dc_J5_newCapacity_0f7a4_0.2.2.1.2
def dJ5_newCapacity_0f7a4_19 := dc_J5_newCapacity_0f7a4_0.2.2.2.1
def dJ5_newCapacity_0f7a4_21 := dc_J5_newCapacity_0f7a4_0.2.2.2.2
def dc_J5_newCapacity_0f7a4_22 := dk16 (show dka cJ5_newCapacity_0f7a4 [(22, .iconst 2, 1), (23, .aload_n 0, 1), (24, .getfield 22, 3), (27, .ishl, 1), (28, .iadd, 1), (29, .invokestatic 114, 3), (32, .istore 5, 2), (34, .iload 5, 2), (36, .ldc 39, 2), (38, .if_icmp .ne 13, 3), (41, .new 120, 3), (44, .dup, 1), (45, .ldc 122, 2), (47, .invokespecial 124, 3), (50, .athrow, 1), (51, .iload 5, 2)] = true by decide +kernel)
def dJ5_newCapacity_0f7a4_22 := dc_J5_newCapacity_0f7a4_22.1.1.1.1
def dJ5_newCapacity_0f7a4_23 := dc_J5_newCapacity_0f7a4_22.1.1.1.2
def dJ5_newCapacity_0f7a4_24 := dc_J5_newCapacity_0f7a4_22.1.1.2.1
def dJ5_newCapacity_0f7a4_27 := dc_J5_newCapacity_0f7a4_22.1.1.2.2
def dJ5_newCapacity_0f7a4_28 := dc_J5_newCapacity_0f7a4_22.1.2.1.1
def dJ5_newCapacity_0f7a4_29 := dc_J5_newCapacity_0f7a4_22.1.2.1.2
def dJ5_newCapacity_0f7a4_32 := dc_J5_newCapacity_0f7a4_22.1.2.2.1
def dJ5_newCapacity_0f7a4_34 := dc_J5_newCapacity_0f7a4_22.1.2.2.2
def dJ5_newCapacity_0f7a4_36 := dc_J5_newCapacity_0f7a4_22.2.1.1.1
def dJ5_newCapacity_0f7a4_38 := dc_J5_newCapacity_0f7a4_22.2.1.1.2
def dJ5_newCapacity_0f7a4_51 := dc_J5_newCapacity_0f7a4_22.2.2.2.2
def dc_J5_newCapacity_0f7a4_53 := dk4 (show dka cJ5_newCapacity_0f7a4 [(53, .aload_n 0, 1), (54, .getfield 22, 3), (57, .ishr, 1), (58, .ireturn, 1)] = true by decide +kernel)
def dJ5_newCapacity_0f7a4_53 := dc_J5_newCapacity_0f7a4_53.1.1
def dJ5_newCapacity_0f7a4_54 := dc_J5_newCapacity_0f7a4_53.1.2
def dJ5_newCapacity_0f7a4_57 := dc_J5_newCapacity_0f7a4_53.2.1
def dJ5_newCapacity_0f7a4_58 := dc_J5_newCapacity_0f7a4_53.2.2
def dc_J5_append_cf1ce_0 := dk16 (show dka cJ5_append_cf1ce [(0, .aload_n 1, 1), (1, .ifnonnull 8, 3), (4, .aload_n 0, 1), (5, .invokevirtual 204, 3), (8, .areturn, 1), (9, .aload_n 1, 1), (10, .invokevirtual 32, 3), (13, .istore_n 2, 1), (14, .aload_n 0, 1), (15, .aload_n 0, 1), (16, .getfield 79, 3), (19, .iload_n 2, 1), (20, .iadd, 1), (21, .invokevirtual 100, 3), (24, .aload_n 0, 1), (25, .aload_n 0, 1)] = true by decide +kernel)
def dJ5_append_cf1ce_0 := dc_J5_append_cf1ce_0.1.1.1.1
def dJ5_append_cf1ce_1 := dc_J5_append_cf1ce_0.1.1.1.2
def dJ5_append_cf1ce_9 := dc_J5_append_cf1ce_0.1.2.1.2
def dJ5_append_cf1ce_10 := dc_J5_append_cf1ce_0.1.2.2.1
def dJ5_append_cf1ce_13 := dc_J5_append_cf1ce_0.1.2.2.2
def dJ5_append_cf1ce_14 := dc_J5_append_cf1ce_0.2.1.1.1
def dJ5_append_cf1ce_15 := dc_J5_append_cf1ce_0.2.1.1.2
def dJ5_append_cf1ce_16 := dc_J5_append_cf1ce_0.2.1.2.1
def dJ5_append_cf1ce_19 := dc_J5_append_cf1ce_0.2.1.2.2
def dJ5_append_cf1ce_20 := dc_J5_append_cf1ce_0.2.2.1.1
def dJ5_append_cf1ce_21 := dc_J5_append_cf1ce_0.2.2.1.2
def dJ5_append_cf1ce_24 := dc_J5_append_cf1ce_0.2.2.2.1
def dJ5_append_cf1ce_25 := dc_J5_append_cf1ce_0.2.2.2.2
def dc_J5_append_cf1ce_26 := dk16 (show dka cJ5_append_cf1ce [(26, .getfield 79, 3), (29, .aload_n 1, 1), (30, .invokevirtual 208, 3), (33, .aload_n 0, 1), (34, .dup, 1), (35, .getfield 79, 3), (38, .iload_n 2, 1), (39, .iadd, 1), (40, .putfield 79, 3), (43, .aload_n 0, 1), (44, .areturn, 1), (44, .areturn, 1), (44, .areturn, 1), (44, .areturn, 1), (44, .areturn, 1), (44, .areturn, 1)] = true by decide +kernel)
def dJ5_append_cf1ce_26 := dc_J5_append_cf1ce_26.1.1.1.1
def dJ5_append_cf1ce_29 := dc_J5_append_cf1ce_26.1.1.1.2
def dJ5_append_cf1ce_30 := dc_J5_append_cf1ce_26.1.1.2.1
def dJ5_append_cf1ce_33 := dc_J5_append_cf1ce_26.1.1.2.2
def dJ5_append_cf1ce_34 := dc_J5_append_cf1ce_26.1.2.1.1
def dJ5_append_cf1ce_35 := dc_J5_append_cf1ce_26.1.2.1.2
def dJ5_append_cf1ce_38 := dc_J5_append_cf1ce_26.1.2.2.1
def dJ5_append_cf1ce_39 := dc_J5_append_cf1ce_26.1.2.2.2
def dJ5_append_cf1ce_40 := dc_J5_append_cf1ce_26.2.1.1.1
def dJ5_append_cf1ce_43 := dc_J5_append_cf1ce_26.2.1.1.2
def dJ5_append_cf1ce_44 := dc_J5_append_cf1ce_26.2.1.2.1
def dc_J5_append_3fe6f_0 := dk16 (show dka cJ5_append_3fe6f [(0, .aload_n 0, 1), (1, .aload_n 0, 1), (2, .getfield 79, 3), (5, .iconst 1, 1), (6, .iadd, 1), (7, .invokevirtual 100, 3), (10, .aload_n 0, 1), (11, .invokevirtual 83, 3), (14, .ifCond .eq 31, 3), (17, .iload_n 1, 1), (18, .invokestatic 191, 3), (21, .ifCond .eq 24, 3), (24, .aload_n 0, 1), (25, .getfield 15, 3), (28, .aload_n 0, 1), (29, .dup, 1)] = true by decide +kernel)
def dJ5_append_3fe6f_0 := dc_J5_append_3fe6f_0.1.1.1.1
def dJ5_append_3fe6f_1 := dc_J5_append_3fe6f_0.1.1.1.2
def dJ5_append_3fe6f_2 := dc_J5_append_3fe6f_0.1.1.2.1
def dJ5_append_3fe6f_5 := dc_J5_append_3fe6f_0.1.1.2.2
def dJ5_append_3fe6f_6 := dc_J5_append_3fe6f_0.1.2.1.1
def dJ5_append_3fe6f_7 := dc_J5_append_3fe6f_0.1.2.1.2
def dJ5_append_3fe6f_10 := dc_J5_append_3fe6f_0.1.2.2.1
def dJ5_append_3fe6f_11 := dc_J5_append_3fe6f_0.1.2.2.2
def dJ5_append_3fe6f_14 := dc_J5_append_3fe6f_0.2.1.1.1
def dJ5_append_3fe6f_17 := dc_J5_append_3fe6f_0.2.1.1.2
def dJ5_append_3fe6f_18 := dc_J5_append_3fe6f_0.2.1.2.1
def dJ5_append_3fe6f_21 := dc_J5_append_3fe6f_0.2.1.2.2
def dJ5_append_3fe6f_24 := dc_J5_append_3fe6f_0.2.2.1.1
def dJ5_append_3fe6f_25 := dc_J5_append_3fe6f_0.2.2.1.2
def dJ5_append_3fe6f_28 := dc_J5_append_3fe6f_0.2.2.2.1
def dJ5_append_3fe6f_29 := dc_J5_append_3fe6f_0.2.2.2.2
def dc_J5_append_3fe6f_30 := dk16 (show dka cJ5_append_3fe6f [(30, .getfield 79, 3), (33, .dup_x1, 1), (34, .iconst 1, 1), (35, .iadd, 1), (36, .putfield 79, 3), (39, .iload_n 1, 1), (40, .i2b, 1), (41, .bastore, 1), (42, .goto 33, 3), (45, .aload_n 0, 1), (46, .invokevirtual 83, 3), (49, .ifCond .eq 7, 3), (52, .aload_n 0, 1), (53, .invokevirtual 195, 3), (56, .aload_n 0, 1), (57, .getfield 15, 3)] = true by decide +kernel)
def dJ5_append_3fe6f_30 := dc_J5_append_3fe6f_30.1.1.1.1
def dJ5_append_3fe6f_33 := dc_J5_append_3fe6f_30.1.1.1.2
def dJ5_append_3fe6f_34 := dc_J5_append_3fe6f_30.1.1.2.1
def dJ5_append_3fe6f_35 := dc_J5_append_3fe6f_30.1.1.2.2
def dJ5_append_3fe6f_36 := dc_J5_append_3fe6f_30.1.2.1.1
def dJ5_append_3fe6f_39 := dc_J5_append_3fe6f_30.1.2.1.2
def dJ5_append_3fe6f_40 := dc_J5_append_3fe6f_30.1.2.2.1
def dJ5_append_3fe6f_41 := dc_J5_append_3fe6f_30.1.2.2.2
def dJ5_append_3fe6f_42 := dc_J5_append_3fe6f_30.2.1.1.1
def dc_J5_append_3fe6f_60 := dk16 (show dka cJ5_append_3fe6f [(60, .aload_n 0, 1), (61, .dup, 1), (62, .getfield 79, 3), (65, .dup_x1, 1), (66, .iconst 1, 1), (67, .iadd, 1), (68, .putfield 79, 3), (71, .iload_n 1, 1), (72, .invokestatic 197, 3), (75, .aload_n 0, 1), (76, .areturn, 1), (76, .areturn, 1), (76, .areturn, 1), (76, .areturn, 1), (76, .areturn, 1), (76, .areturn, 1)] = true by decide +kernel)
def dJ5_append_3fe6f_75 := dc_J5_append_3fe6f_60.2.1.1.2
def dJ5_append_3fe6f_76 := dc_J5_append_3fe6f_60.2.1.2.1
def dc_J5_getValue_6d5f1_0 := dk4 (show dka cJ5_getValue_6d5f1 [(0, .aload_n 0, 1), (1, .getfield 15, 3), (4, .areturn, 1), (4, .areturn, 1)] = true by decide +kernel)
def dJ5_getValue_6d5f1_0 := dc_J5_getValue_6d5f1_0.1.1
def dJ5_getValue_6d5f1_1 := dc_J5_getValue_6d5f1_0.1.2
def dJ5_getValue_6d5f1_4 := dc_J5_getValue_6d5f1_0.2.1
def dc_J5_isLatin1_aae02_0 := dk16 (show dka cJ5_isLatin1_aae02 [(0, .getstatic 18, 3), (3, .ifCond .eq 14, 3), (6, .aload_n 0, 1), (7, .getfield 22, 3), (10, .ifCond .ne 7, 3), (13, .iconst 1, 1), (14, .goto 4, 3), (17, .iconst 0, 1), (18, .ireturn, 1), (18, .ireturn, 1), (18, .ireturn, 1), (18, .ireturn, 1), (18, .ireturn, 1), (18, .ireturn, 1), (18, .ireturn, 1), (18, .ireturn, 1)] = true by decide +kernel)
def dJ5_isLatin1_aae02_0 := dc_J5_isLatin1_aae02_0.1.1.1.1
def dJ5_isLatin1_aae02_3 := dc_J5_isLatin1_aae02_0.1.1.1.2
def dJ5_isLatin1_aae02_6 := dc_J5_isLatin1_aae02_0.1.1.2.1
def dJ5_isLatin1_aae02_7 := dc_J5_isLatin1_aae02_0.1.1.2.2
def dJ5_isLatin1_aae02_10 := dc_J5_isLatin1_aae02_0.1.2.1.1
def dJ5_isLatin1_aae02_13 := dc_J5_isLatin1_aae02_0.1.2.1.2
def dJ5_isLatin1_aae02_14 := dc_J5_isLatin1_aae02_0.1.2.2.1
def dJ5_isLatin1_aae02_18 := dc_J5_isLatin1_aae02_0.2.1.1.1
def dc_J5_inflateIfNeededFor_a7421_0 := dk16 (show dka cJ5_inflateIfNeededFor_a7421 [(0, .getstatic 18, 3), (3, .ifCond .eq 18, 3), (6, .aload_n 0, 1), (7, .getfield 22, 3), (10, .aload_n 1, 1), (11, .invokevirtual 40, 3), (14, .if_icmp .eq 7, 3), (17, .aload_n 0, 1), (18, .invokevirtual 195, 3), (21, .return_, 1), (21, .return_, 1), (21, .return_, 1), (21, .return_, 1), (21, .return_, 1), (21, .return_, 1), (21, .return_, 1)] = true by decide +kernel)
def dJ5_inflateIfNeededFor_a7421_0 := dc_J5_inflateIfNeededFor_a7421_0.1.1.1.1
def dJ5_inflateIfNeededFor_a7421_3 := dc_J5_inflateIfNeededFor_a7421_0.1.1.1.2
def dJ5_inflateIfNeededFor_a7421_6 := dc_J5_inflateIfNeededFor_a7421_0.1.1.2.1
def dJ5_inflateIfNeededFor_a7421_7 := dc_J5_inflateIfNeededFor_a7421_0.1.1.2.2
def dJ5_inflateIfNeededFor_a7421_10 := dc_J5_inflateIfNeededFor_a7421_0.1.2.1.1
def dJ5_inflateIfNeededFor_a7421_11 := dc_J5_inflateIfNeededFor_a7421_0.1.2.1.2
def dJ5_inflateIfNeededFor_a7421_14 := dc_J5_inflateIfNeededFor_a7421_0.1.2.2.1
def dJ5_inflateIfNeededFor_a7421_21 := dc_J5_inflateIfNeededFor_a7421_0.2.1.1.2
def dc_J5_putStringAt_47b60_0 := dk16 (show dka cJ5_putStringAt_47b60 [(0, .aload_n 0, 1), (1, .aload_n 2, 1), (2, .invokevirtual 397, 3), (5, .aload_n 2, 1), (6, .aload_n 0, 1), (7, .getfield 15, 3), (10, .iload_n 1, 1), (11, .aload_n 0, 1), (12, .getfield 22, 3), (15, .invokevirtual 399, 3), (18, .return_, 1), (18, .return_, 1), (18, .return_, 1), (18, .return_, 1), (18, .return_, 1), (18, .return_, 1)] = true by decide +kernel)
def dJ5_putStringAt_47b60_0 := dc_J5_putStringAt_47b60_0.1.1.1.1
def dJ5_putStringAt_47b60_1 := dc_J5_putStringAt_47b60_0.1.1.1.2
def dJ5_putStringAt_47b60_2 := dc_J5_putStringAt_47b60_0.1.1.2.1
def dJ5_putStringAt_47b60_5 := dc_J5_putStringAt_47b60_0.1.1.2.2
def dJ5_putStringAt_47b60_6 := dc_J5_putStringAt_47b60_0.1.2.1.1
def dJ5_putStringAt_47b60_7 := dc_J5_putStringAt_47b60_0.1.2.1.2
def dJ5_putStringAt_47b60_10 := dc_J5_putStringAt_47b60_0.1.2.2.1
def dJ5_putStringAt_47b60_11 := dc_J5_putStringAt_47b60_0.1.2.2.2
def dJ5_putStringAt_47b60_12 := dc_J5_putStringAt_47b60_0.2.1.1.1
def dJ5_putStringAt_47b60_15 := dc_J5_putStringAt_47b60_0.2.1.1.2
def dJ5_putStringAt_47b60_18 := dc_J5_putStringAt_47b60_0.2.1.2.1
def dc_J0_init_81219_0 := dk8 (show dka cJ0_init_81219 [(0, .aload_n 0, 1), (1, .aload_n 1, 1), (2, .aconst_null, 1), (3, .invokespecial 489, 3), (6, .return_, 1), (6, .return_, 1), (6, .return_, 1), (6, .return_, 1)] = true by decide +kernel)
def dJ0_init_81219_0 := dc_J0_init_81219_0.1.1.1
def dJ0_init_81219_1 := dc_J0_init_81219_0.1.1.2
def dJ0_init_81219_2 := dc_J0_init_81219_0.1.2.1
def dJ0_init_81219_3 := dc_J0_init_81219_0.1.2.2
def dJ0_init_81219_6 := dc_J0_init_81219_0.2.1.1
def dc_J0_init_db425_0 := dk16 (show dka cJ0_init_db425 [(0, .aload_n 0, 1), (1, .invokespecial 1, 3), (4, .aload_n 1, 1), (5, .invokevirtual 552, 3), (8, .astore_n 3, 1), (9, .aload_n 1, 1), (10, .invokevirtual 549, 3), (13, .istore 4, 2), (15, .aload_n 1, 1), (16, .invokevirtual 1047, 3), (19, .ifCond .eq 22, 3), (22, .aload_n 0, 1), (23, .iconst 0, 1), (24, .putfield 15, 3), (27, .aload_n 0, 1), (28, .aload_n 3, 1)] = true by decide +kernel)
def dJ0_init_db425_0 := dc_J0_init_db425_0.1.1.1.1
def dJ0_init_db425_1 := dc_J0_init_db425_0.1.1.1.2
def dJ0_init_db425_4 := dc_J0_init_db425_0.1.1.2.1
def dJ0_init_db425_5 := dc_J0_init_db425_0.1.1.2.2
def dJ0_init_db425_8 := dc_J0_init_db425_0.1.2.1.1
def dJ0_init_db425_9 := dc_J0_init_db425_0.1.2.1.2
def dJ0_init_db425_10 := dc_J0_init_db425_0.1.2.2.1
def dJ0_init_db425_13 := dc_J0_init_db425_0.1.2.2.2
def dJ0_init_db425_15 := dc_J0_init_db425_0.2.1.1.1
def dJ0_init_db425_16 := dc_J0_init_db425_0.2.1.1.2
def dJ0_init_db425_19 := dc_J0_init_db425_0.2.1.2.1
def dJ0_init_db425_22 := dc_J0_init_db425_0.2.1.2.2
def dJ0_init_db425_23 := dc_J0_init_db425_0.2.2.1.1
def dJ0_init_db425_24 := dc_J0_init_db425_0.2.2.1.2
def dJ0_init_db425_27 := dc_J0_init_db425_0.2.2.2.1
def dJ0_init_db425_28 := dc_J0_init_db425_0.2.2.2.2
def dc_J0_init_db425_29 := dk16 (show dka cJ0_init_db425 [(29, .iconst 0, 1), (30, .iload 4, 2), (32, .invokestatic 54, 3), (35, .putfield 9, 3), (38, .goto 59, 3), (41, .getstatic 38, 3), (44, .ifCond .eq 35, 3), (47, .aload_n 1, 1), (48, .getfield 1048, 3), (51, .ifCond .eq 28, 3), (54, .aload_n 0, 1), (55, .aload_n 3, 1), (56, .iconst 0, 1), (57, .iload 4, 2), (59, .invokestatic 1051, 3), (62, .putfield 9, 3)] = true by decide +kernel)
def dJ0_init_db425_29 := dc_J0_init_db425_29.1.1.1.1
def dJ0_init_db425_30 := dc_J0_init_db425_29.1.1.1.2
def dJ0_init_db425_32 := dc_J0_init_db425_29.1.1.2.1
def dJ0_init_db425_35 := dc_J0_init_db425_29.1.1.2.2
def dJ0_init_db425_38 := dc_J0_init_db425_29.1.2.1.1
def dc_J0_init_db425_91 := dk4 (show dka cJ0_init_db425 [(91, .invokestatic 54, 3), (94, .putfield 9, 3), (97, .return_, 1), (97, .return_, 1)] = true by decide +kernel)
def dJ0_init_db425_97 := dc_J0_init_db425_91.2.1
def dc_J0_length_8abf5_0 := dk8 (show dka cJ0_length_8abf5 [(0, .aload_n 0, 1), (1, .getfield 9, 3), (4, .arraylength, 1), (5, .aload_n 0, 1), (6, .invokevirtual 335, 3), (9, .ishr, 1), (10, .ireturn, 1), (10, .ireturn, 1)] = true by decide +kernel)
def dJ0_length_8abf5_0 := dc_J0_length_8abf5_0.1.1.1
def dJ0_length_8abf5_1 := dc_J0_length_8abf5_0.1.1.2
def dJ0_length_8abf5_4 := dc_J0_length_8abf5_0.1.2.1
def dJ0_length_8abf5_5 := dc_J0_length_8abf5_0.1.2.2
def dJ0_length_8abf5_6 := dc_J0_length_8abf5_0.2.1.1
def dJ0_length_8abf5_9 := dc_J0_length_8abf5_0.2.1.2
def dJ0_length_8abf5_10 := dc_J0_length_8abf5_0.2.2.1
def dc_J0_getBytes_840e7_0 := dk16 (show dka cJ0_getBytes_840e7 [(0, .aload_n 0, 1), (1, .invokevirtual 335, 3), (4, .iload_n 3, 1), (5, .if_icmp .ne 23, 3), (8, .aload_n 0, 1), (9, .getfield 9, 3), (12, .iconst 0, 1), (13, .aload_n 1, 1), (14, .iload_n 2, 1), (15, .iload_n 3, 1), (16, .ishl, 1), (17, .aload_n 0, 1), (18, .getfield 9, 3), (21, .arraylength, 1), (22, .invokestatic 212, 3), (25, .goto 18, 3)] = true by decide +kernel)
def dJ0_getBytes_840e7_0 := dc_J0_getBytes_840e7_0.1.1.1.1
def dJ0_getBytes_840e7_1 := dc_J0_getBytes_840e7_0.1.1.1.2
def dJ0_getBytes_840e7_4 := dc_J0_getBytes_840e7_0.1.1.2.1
def dJ0_getBytes_840e7_5 := dc_J0_getBytes_840e7_0.1.1.2.2
def dJ0_getBytes_840e7_8 := dc_J0_getBytes_840e7_0.1.2.1.1
def dJ0_getBytes_840e7_9 := dc_J0_getBytes_840e7_0.1.2.1.2
def dJ0_getBytes_840e7_12 := dc_J0_getBytes_840e7_0.1.2.2.1
def dJ0_getBytes_840e7_13 := dc_J0_getBytes_840e7_0.1.2.2.2
def dJ0_getBytes_840e7_14 := dc_J0_getBytes_840e7_0.2.1.1.1
def dJ0_getBytes_840e7_15 := dc_J0_getBytes_840e7_0.2.1.1.2
def dJ0_getBytes_840e7_16 := dc_J0_getBytes_840e7_0.2.1.2.1
def dJ0_getBytes_840e7_17 := dc_J0_getBytes_840e7_0.2.1.2.2
def dJ0_getBytes_840e7_18 := dc_J0_getBytes_840e7_0.2.2.1.1
def dJ0_getBytes_840e7_21 := dc_J0_getBytes_840e7_0.2.2.1.2
def dJ0_getBytes_840e7_22 := dc_J0_getBytes_840e7_0.2.2.2.1
def dJ0_getBytes_840e7_25 := dc_J0_getBytes_840e7_0.2.2.2.2
def dc_J0_getBytes_840e7_28 := dk16 (show dka cJ0_getBytes_840e7 [(28, .aload_n 0, 1), (29, .getfield 9, 3), (32, .iconst 0, 1), (33, .aload_n 1, 1), (34, .iload_n 2, 1), (35, .aload_n 0, 1), (36, .getfield 9, 3), (39, .arraylength, 1), (40, .invokestatic 106, 3), (43, .return_, 1), (43, .return_, 1), (43, .return_, 1), (43, .return_, 1), (43, .return_, 1), (43, .return_, 1), (43, .return_, 1)] = true by decide +kernel)
def dJ0_getBytes_840e7_43 := dc_J0_getBytes_840e7_28.2.1.1.2
def dc_J0_coder_7d493_0 := dk8 (show dka cJ0_coder_7d493 [(0, .getstatic 38, 3), (3, .ifCond .eq 10, 3), (6, .aload_n 0, 1), (7, .getfield 15, 3), (10, .goto 4, 3), (13, .iconst 1, 1), (14, .ireturn, 1), (14, .ireturn, 1)] = true by decide +kernel)
def dJ0_coder_7d493_0 := dc_J0_coder_7d493_0.1.1.1
def dJ0_coder_7d493_3 := dc_J0_coder_7d493_0.1.1.2
def dJ0_coder_7d493_6 := dc_J0_coder_7d493_0.1.2.1
def dJ0_coder_7d493_7 := dc_J0_coder_7d493_0.1.2.2
def dJ0_coder_7d493_10 := dc_J0_coder_7d493_0.2.1.1
def dJ0_coder_7d493_14 := dc_J0_coder_7d493_0.2.2.1
def dc_J7_copyOf_1904c_0 := dk8 (show dka cJ7_copyOf_1904c [(0, .aload_n 0, 1), (1, .iload_n 1, 1), (2, .aload_n 0, 1), (3, .invokevirtual 86, 3), (6, .invokestatic 300, 3), (9, .areturn, 1), (9, .areturn, 1), (9, .areturn, 1)] = true by decide +kernel)
def dJ7_copyOf_1904c_0 := dc_J7_copyOf_1904c_0.1.1.1
def dJ7_copyOf_1904c_1 := dc_J7_copyOf_1904c_0.1.1.2
def dJ7_copyOf_1904c_2 := dc_J7_copyOf_1904c_0.1.2.1
def dJ7_copyOf_1904c_3 := dc_J7_copyOf_1904c_0.1.2.2
def dJ7_copyOf_1904c_6 := dc_J7_copyOf_1904c_0.2.1.1
def dJ7_copyOf_1904c_9 := dc_J7_copyOf_1904c_0.2.1.2
def dc_J7_copyOf_6403c_0 := dk16 (show dka cJ7_copyOf_6403c [(0, .aload_n 2, 1), (1, .ldc 110, 2), (3, .if_acmp .ne 10, 3), (6, .iload_n 1, 1), (7, .anewarray 2, 3), (10, .goto 14, 3), (13, .aload_n 2, 1), (14, .invokevirtual 90, 3), (17, .iload_n 1, 1), (18, .invokestatic 95, 3), (21, .checkcast 110, 3), (24, .astore_n 3, 1), (25, .aload_n 0, 1), (26, .iconst 0, 1), (27, .aload_n 3, 1), (28, .iconst 0, 1)] = true by decide +kernel)
def dJ7_copyOf_6403c_0 := dc_J7_copyOf_6403c_0.1.1.1.1
def dJ7_copyOf_6403c_1 := dc_J7_copyOf_6403c_0.1.1.1.2
def dJ7_copyOf_6403c_3 := dc_J7_copyOf_6403c_0.1.1.2.1
def dJ7_copyOf_6403c_6 := dc_J7_copyOf_6403c_0.1.1.2.2
def dJ7_copyOf_6403c_7 := dc_J7_copyOf_6403c_0.1.2.1.1
def dJ7_copyOf_6403c_10 := dc_J7_copyOf_6403c_0.1.2.1.2
def dJ7_copyOf_6403c_24 := dc_J7_copyOf_6403c_0.2.1.2.2
def dJ7_copyOf_6403c_25 := dc_J7_copyOf_6403c_0.2.2.1.1
def dJ7_copyOf_6403c_26 := dc_J7_copyOf_6403c_0.2.2.1.2
def dJ7_copyOf_6403c_27 := dc_J7_copyOf_6403c_0.2.2.2.1
def dJ7_copyOf_6403c_28 := dc_J7_copyOf_6403c_0.2.2.2.2
def dc_J7_copyOf_6403c_29 := dk8 (show dka cJ7_copyOf_6403c [(29, .aload_n 0, 1), (30, .arraylength, 1), (31, .iload_n 1, 1), (32, .invokestatic 304, 3), (35, .invokestatic 150, 3), (38, .aload_n 3, 1), (39, .areturn, 1), (39, .areturn, 1)] = true by decide +kernel)
def dJ7_copyOf_6403c_29 := dc_J7_copyOf_6403c_29.1.1.1
def dJ7_copyOf_6403c_30 := dc_J7_copyOf_6403c_29.1.1.2
def dJ7_copyOf_6403c_31 := dc_J7_copyOf_6403c_29.1.2.1
def dJ7_copyOf_6403c_32 := dc_J7_copyOf_6403c_29.1.2.2
def dJ7_copyOf_6403c_35 := dc_J7_copyOf_6403c_29.2.1.1
def dJ7_copyOf_6403c_38 := dc_J7_copyOf_6403c_29.2.1.2
def dJ7_copyOf_6403c_39 := dc_J7_copyOf_6403c_29.2.2.1
def dc_J7_copyOf_9075b_0 := dk16 (show dka cJ7_copyOf_9075b [(0, .iload_n 1, 1), (1, .aload_n 0, 1), (2, .arraylength, 1), (3, .if_icmp .ne 11, 3), (6, .aload_n 0, 1), (7, .invokevirtual 310, 3), (10, .checkcast 311, 3), (13, .areturn, 1), (14, .iload_n 1, 1), (15, .newarray .byte, 2), (17, .astore_n 2, 1), (18, .aload_n 0, 1), (19, .iconst 0, 1), (20, .aload_n 2, 1), (21, .iconst 0, 1), (22, .aload_n 0, 1)] = true by decide +kernel)
def dJ7_copyOf_9075b_0 := dc_J7_copyOf_9075b_0.1.1.1.1
def dJ7_copyOf_9075b_1 := dc_J7_copyOf_9075b_0.1.1.1.2
def dJ7_copyOf_9075b_2 := dc_J7_copyOf_9075b_0.1.1.2.1
def dJ7_copyOf_9075b_3 := dc_J7_copyOf_9075b_0.1.1.2.2
def dJ7_copyOf_9075b_14 := dc_J7_copyOf_9075b_0.2.1.1.1
def dJ7_copyOf_9075b_15 := dc_J7_copyOf_9075b_0.2.1.1.2
def dJ7_copyOf_9075b_17 := dc_J7_copyOf_9075b_0.2.1.2.1
def dJ7_copyOf_9075b_18 := dc_J7_copyOf_9075b_0.2.1.2.2
def dJ7_copyOf_9075b_19 := dc_J7_copyOf_9075b_0.2.2.1.1
def dJ7_copyOf_9075b_20 := dc_J7_copyOf_9075b_0.2.2.1.2
def dJ7_copyOf_9075b_21 := dc_J7_copyOf_9075b_0.2.2.2.1
def dJ7_copyOf_9075b_22 := dc_J7_copyOf_9075b_0.2.2.2.2
def dc_J7_copyOf_9075b_23 := dk8 (show dka cJ7_copyOf_9075b [(23, .arraylength, 1), (24, .iload_n 1, 1), (25, .invokestatic 304, 3), (28, .invokestatic 150, 3), (31, .aload_n 2, 1), (32, .areturn, 1), (32, .areturn, 1), (32, .areturn, 1)] = true by decide +kernel)
def dJ7_copyOf_9075b_23 := dc_J7_copyOf_9075b_23.1.1.1
def dJ7_copyOf_9075b_24 := dc_J7_copyOf_9075b_23.1.1.2
def dJ7_copyOf_9075b_25 := dc_J7_copyOf_9075b_23.1.2.1
def dJ7_copyOf_9075b_28 := dc_J7_copyOf_9075b_23.1.2.2
def dJ7_copyOf_9075b_31 := dc_J7_copyOf_9075b_23.2.1.1
def dJ7_copyOf_9075b_32 := dc_J7_copyOf_9075b_23.2.1.2
def dc_J7_checkLength_df160_0 := dk16 (show dka cJ7_checkLength_df160 [(0, .iload_n 1, 1), (1, .iload_n 0, 1), (2, .if_icmp .ge 35, 3), (5, .new 43, 3), (8, .dup, 1), (9, .new 45, 3), (12, .dup, 1), (13, .invokespecial 47, 3), (16, .iload_n 0, 1), (17, .invokevirtual 54, 3), (20, .ldc_w 337, 3), (23, .invokevirtual 50, 3), (26, .iload_n 1, 1), (27, .invokevirtual 54, 3), (30, .invokevirtual 61, 3), (33, .invokespecial 65, 3)] = true by decide +kernel)
def dJ7_checkLength_df160_0 := dc_J7_checkLength_df160_0.1.1.1.1
def dJ7_checkLength_df160_1 := dc_J7_checkLength_df160_0.1.1.1.2
def dJ7_checkLength_df160_2 := dc_J7_checkLength_df160_0.1.1.2.1
def dc_J7_checkLength_df160_36 := dk2 (show dka cJ7_checkLength_df160 [(36, .athrow, 1), (37, .return_, 1)] = true by decide +kernel)
def dJ7_checkLength_df160_37 := dc_J7_checkLength_df160_36.2
def dc_J7_copyOfRange_39247_0 := dk16 (show dka cJ7_copyOfRange_39247 [(0, .iload_n 1, 1), (1, .ifCond .ne 9, 3), (4, .iload_n 2, 1), (5, .aload_n 0, 1), (6, .arraylength, 1), (7, .if_icmp .eq 10, 3), (10, .aload_n 0, 1), (11, .iload_n 1, 1), (12, .iload_n 2, 1), (13, .invokestatic 339, 3), (16, .areturn, 1), (17, .aload_n 0, 1), (18, .invokevirtual 310, 3), (21, .checkcast 311, 3), (24, .areturn, 1), (24, .areturn, 1)] = true by decide +kernel)
def dJ7_copyOfRange_39247_0 := dc_J7_copyOfRange_39247_0.1.1.1.1
def dJ7_copyOfRange_39247_1 := dc_J7_copyOfRange_39247_0.1.1.1.2
def dJ7_copyOfRange_39247_4 := dc_J7_copyOfRange_39247_0.1.1.2.1
def dJ7_copyOfRange_39247_5 := dc_J7_copyOfRange_39247_0.1.1.2.2
def dJ7_copyOfRange_39247_6 := dc_J7_copyOfRange_39247_0.1.2.1.1
def dJ7_copyOfRange_39247_7 := dc_J7_copyOfRange_39247_0.1.2.1.2
def dJ7_copyOfRange_39247_10 := dc_J7_copyOfRange_39247_0.1.2.2.1
def dJ7_copyOfRange_39247_11 := dc_J7_copyOfRange_39247_0.1.2.2.2
def dJ7_copyOfRange_39247_12 := dc_J7_copyOfRange_39247_0.2.1.1.1
def dJ7_copyOfRange_39247_13 := dc_J7_copyOfRange_39247_0.2.1.1.2
def dJ7_copyOfRange_39247_16 := dc_J7_copyOfRange_39247_0.2.1.2.1
def dJ7_copyOfRange_39247_17 := dc_J7_copyOfRange_39247_0.2.1.2.2
def dJ7_copyOfRange_39247_18 := dc_J7_copyOfRange_39247_0.2.2.1.1
def dJ7_copyOfRange_39247_21 := dc_J7_copyOfRange_39247_0.2.2.1.2
def dJ7_copyOfRange_39247_24 := dc_J7_copyOfRange_39247_0.2.2.2.1
def dc_J7_copyOfRangeByte_39247_0 := dk16 (show dka cJ7_copyOfRangeByte_39247 [(0, .iload_n 1, 1), (1, .iload_n 2, 1), (2, .invokestatic 343, 3), (5, .iload_n 2, 1), (6, .iload_n 1, 1), (7, .isub, 1), (8, .istore_n 3, 1), (9, .iload_n 3, 1), (10, .newarray .byte, 2), (12, .astore 4, 2), (14, .aload_n 0, 1), (15, .iload_n 1, 1), (16, .aload 4, 2), (18, .iconst 0, 1), (19, .aload_n 0, 1), (20, .arraylength, 1)] = true by decide +kernel)
def dJ7_copyOfRangeByte_39247_0 := dc_J7_copyOfRangeByte_39247_0.1.1.1.1
def dJ7_copyOfRangeByte_39247_1 := dc_J7_copyOfRangeByte_39247_0.1.1.1.2
def dJ7_copyOfRangeByte_39247_2 := dc_J7_copyOfRangeByte_39247_0.1.1.2.1
def dJ7_copyOfRangeByte_39247_5 := dc_J7_copyOfRangeByte_39247_0.1.1.2.2
def dJ7_copyOfRangeByte_39247_6 := dc_J7_copyOfRangeByte_39247_0.1.2.1.1
def dJ7_copyOfRangeByte_39247_7 := dc_J7_copyOfRangeByte_39247_0.1.2.1.2
def dJ7_copyOfRangeByte_39247_8 := dc_J7_copyOfRangeByte_39247_0.1.2.2.1
def dJ7_copyOfRangeByte_39247_9 := dc_J7_copyOfRangeByte_39247_0.1.2.2.2
def dJ7_copyOfRangeByte_39247_10 := dc_J7_copyOfRangeByte_39247_0.2.1.1.1
def dJ7_copyOfRangeByte_39247_12 := dc_J7_copyOfRangeByte_39247_0.2.1.1.2
def dJ7_copyOfRangeByte_39247_14 := dc_J7_copyOfRangeByte_39247_0.2.1.2.1
def dJ7_copyOfRangeByte_39247_15 := dc_J7_copyOfRangeByte_39247_0.2.1.2.2
def dJ7_copyOfRangeByte_39247_16 := dc_J7_copyOfRangeByte_39247_0.2.2.1.1
def dJ7_copyOfRangeByte_39247_18 := dc_J7_copyOfRangeByte_39247_0.2.2.1.2
def dJ7_copyOfRangeByte_39247_19 := dc_J7_copyOfRangeByte_39247_0.2.2.2.1
def dJ7_copyOfRangeByte_39247_20 := dc_J7_copyOfRangeByte_39247_0.2.2.2.2
def dc_J7_copyOfRangeByte_39247_21 := dk8 (show dka cJ7_copyOfRangeByte_39247 [(21, .iload_n 1, 1), (22, .isub, 1), (23, .iload_n 3, 1), (24, .invokestatic 304, 3), (27, .invokestatic 150, 3), (30, .aload 4, 2), (32, .areturn, 1), (32, .areturn, 1)] = true by decide +kernel)
def dJ7_copyOfRangeByte_39247_21 := dc_J7_copyOfRangeByte_39247_21.1.1.1
def dJ7_copyOfRangeByte_39247_22 := dc_J7_copyOfRangeByte_39247_21.1.1.2
def dJ7_copyOfRangeByte_39247_23 := dc_J7_copyOfRangeByte_39247_21.1.2.1
def dJ7_copyOfRangeByte_39247_24 := dc_J7_copyOfRangeByte_39247_21.1.2.2
def dJ7_copyOfRangeByte_39247_27 := dc_J7_copyOfRangeByte_39247_21.2.1.1
def dJ7_copyOfRangeByte_39247_30 := dc_J7_copyOfRangeByte_39247_21.2.1.2
def dJ7_copyOfRangeByte_39247_32 := dc_J7_copyOfRangeByte_39247_21.2.2.1
def dc_J8_newLength_cabcc_0 := dk16 (show dka cJ8_newLength_cabcc [(0, .iload_n 0, 1), (1, .iload_n 1, 1), (2, .iload_n 2, 1), (3, .invokestatic 194, 3), (6, .iadd, 1), (7, .istore_n 3, 1), (8, .iconst 0, 1), (9, .iload_n 3, 1), (10, .if_icmp .ge 11, 3), (13, .iload_n 3, 1), (14, .ldc 200, 2), (16, .if_icmp .gt 5, 3), (19, .iload_n 3, 1), (20, .ireturn, 1), (21, .iload_n 0, 1), (22, .iload_n 1, 1)] = true by decide +kernel)
def dJ8_newLength_cabcc_0 := dc_J8_newLength_cabcc_0.1.1.1.1
def dJ8_newLength_cabcc_1 := dc_J8_newLength_cabcc_0.1.1.1.2
def dJ8_newLength_cabcc_2 := dc_J8_newLength_cabcc_0.1.1.2.1
def dJ8_newLength_cabcc_3 := dc_J8_newLength_cabcc_0.1.1.2.2
def dJ8_newLength_cabcc_6 := dc_J8_newLength_cabcc_0.1.2.1.1
def dJ8_newLength_cabcc_7 := dc_J8_newLength_cabcc_0.1.2.1.2
def dJ8_newLength_cabcc_8 := dc_J8_newLength_cabcc_0.1.2.2.1
def dJ8_newLength_cabcc_9 := dc_J8_newLength_cabcc_0.1.2.2.2
def dJ8_newLength_cabcc_10 := dc_J8_newLength_cabcc_0.2.1.1.1
def dJ8_newLength_cabcc_13 := dc_J8_newLength_cabcc_0.2.1.1.2
def dJ8_newLength_cabcc_14 := dc_J8_newLength_cabcc_0.2.1.2.1
def dJ8_newLength_cabcc_16 := dc_J8_newLength_cabcc_0.2.1.2.2
def dJ8_newLength_cabcc_19 := dc_J8_newLength_cabcc_0.2.2.1.1
def dJ8_newLength_cabcc_20 := dc_J8_newLength_cabcc_0.2.2.1.2
def dc_J15_checkIndex_7cf53_0 := dk8 (show dka cJ15_checkIndex_7cf53 [(0, .iload_n 0, 1), (1, .iload_n 1, 1), (2, .aconst_null, 1), (3, .invokestatic 105, 3), (6, .ireturn, 1), (6, .ireturn, 1), (6, .ireturn, 1), (6, .ireturn, 1)] = true by decide +kernel)
def dJ15_checkIndex_7cf53_0 := dc_J15_checkIndex_7cf53_0.1.1.1
def dJ15_checkIndex_7cf53_1 := dc_J15_checkIndex_7cf53_0.1.1.2
def dJ15_checkIndex_7cf53_2 := dc_J15_checkIndex_7cf53_0.1.2.1
def dJ15_checkIndex_7cf53_3 := dc_J15_checkIndex_7cf53_0.1.2.2
def dJ15_checkIndex_7cf53_6 := dc_J15_checkIndex_7cf53_0.2.1.1
def dc_J3_checkIndex_8e157_0 := dk16 (show dka cJ3_checkIndex_8e157 [(0, .iload_n 0, 1), (1, .ifCond .lt 8, 3), (4, .iload_n 0, 1), (5, .iload_n 1, 1), (6, .if_icmp .lt 10, 3), (9, .aload_n 2, 1), (10, .iload_n 0, 1), (11, .iload_n 1, 1), (12, .invokestatic 95, 3), (15, .athrow, 1), (16, .iload_n 0, 1), (17, .ireturn, 1), (17, .ireturn, 1), (17, .ireturn, 1), (17, .ireturn, 1), (17, .ireturn, 1)] = true by decide +kernel)
def dJ3_checkIndex_8e157_0 := dc_J3_checkIndex_8e157_0.1.1.1.1
def dJ3_checkIndex_8e157_1 := dc_J3_checkIndex_8e157_0.1.1.1.2
def dJ3_checkIndex_8e157_4 := dc_J3_checkIndex_8e157_0.1.1.2.1
def dJ3_checkIndex_8e157_5 := dc_J3_checkIndex_8e157_0.1.1.2.2
def dJ3_checkIndex_8e157_6 := dc_J3_checkIndex_8e157_0.1.2.1.1
def dJ3_checkIndex_8e157_16 := dc_J3_checkIndex_8e157_0.2.1.2.1
def dJ3_checkIndex_8e157_17 := dc_J3_checkIndex_8e157_0.2.1.2.2
def dc_J1_canEncode_fc78d_0 := dk8 (show dka cJ1_canEncode_fc78d [(0, .iload_n 0, 1), (1, .sipush 255, 3), (4, .if_icmp .gt 7, 3), (7, .iconst 1, 1), (8, .goto 4, 3), (11, .iconst 0, 1), (12, .ireturn, 1), (12, .ireturn, 1)] = true by decide +kernel)
def dJ1_canEncode_fc78d_0 := dc_J1_canEncode_fc78d_0.1.1.1
def dJ1_canEncode_fc78d_1 := dc_J1_canEncode_fc78d_0.1.1.2
def dJ1_canEncode_fc78d_4 := dc_J1_canEncode_fc78d_0.1.2.1
def dJ1_canEncode_fc78d_7 := dc_J1_canEncode_fc78d_0.1.2.2
def dJ1_canEncode_fc78d_8 := dc_J1_canEncode_fc78d_0.2.1.1
def dJ1_canEncode_fc78d_12 := dc_J1_canEncode_fc78d_0.2.2.1

