def dt_Jx4a65c_init_da8c8_0 : List (Nat × Jvm.ClassFile.Instr × Nat) := [(0, .aload_n 0, 1), (1, .invokespecial 1, 3), (4, .aload_n 0, 1), (5, .getstatic 39, 3), (8, .putfield 9, 3), (11, .return_, 1)]
theorem dc_Jx4a65c_init_da8c8_0 : dka cJx4a65c_init_da8c8 dt_Jx4a65c_init_da8c8_0 = true := by decide +kernel
def dJx4a65c_init_da8c8_0 := dk_at dc_Jx4a65c_init_da8c8_0 0 rfl
def dJx4a65c_init_da8c8_1 := dk_at dc_Jx4a65c_init_da8c8_0 1 rfl
def dJx4a65c_init_da8c8_4 := dk_at dc_Jx4a65c_init_da8c8_0 2 rfl
def dJx4a65c_init_da8c8_5 := dk_at dc_Jx4a65c_init_da8c8_0 3 rfl
def dJx4a65c_init_da8c8_8 := dk_at dc_Jx4a65c_init_da8c8_0 4 rfl
def dJx4a65c_init_da8c8_11 := dk_at dc_Jx4a65c_init_da8c8_0 5 rfl
def dt_Jx4a65c_grow_92f84_0 : List (Nat × Jvm.ClassFile.Instr × Nat) := [(0, .aload_n 0, 1), (1, .getfield 9, 3), (4, .arraylength, 1), (5, .istore_n 2, 1), (6, .iload_n 2, 1), (7, .ifCond .gt 13, 3), (10, .aload_n 0, 1), (11, .getfield 9, 3), (14, .getstatic 39, 3), (17, .if_acmp .eq 28, 3), (20, .iload_n 2, 1), (21, .iload_n 1, 1), (22, .iload_n 2, 1), (23, .isub, 1), (24, .iload_n 2, 1), (25, .iconst 1, 1)]
theorem dc_Jx4a65c_grow_92f84_0 : dka cJx4a65c_grow_92f84 dt_Jx4a65c_grow_92f84_0 = true := by decide +kernel
def dJx4a65c_grow_92f84_0 := dk_at dc_Jx4a65c_grow_92f84_0 0 rfl
def dJx4a65c_grow_92f84_1 := dk_at dc_Jx4a65c_grow_92f84_0 1 rfl
def dJx4a65c_grow_92f84_4 := dk_at dc_Jx4a65c_grow_92f84_0 2 rfl
def dJx4a65c_grow_92f84_5 := dk_at dc_Jx4a65c_grow_92f84_0 3 rfl
def dJx4a65c_grow_92f84_6 := dk_at dc_Jx4a65c_grow_92f84_0 4 rfl
def dJx4a65c_grow_92f84_7 := dk_at dc_Jx4a65c_grow_92f84_0 5 rfl
def dJx4a65c_grow_92f84_10 := dk_at dc_Jx4a65c_grow_92f84_0 6 rfl
def dJx4a65c_grow_92f84_11 := dk_at dc_Jx4a65c_grow_92f84_0 7 rfl
def dJx4a65c_grow_92f84_14 := dk_at dc_Jx4a65c_grow_92f84_0 8 rfl
def dJx4a65c_grow_92f84_17 := dk_at dc_Jx4a65c_grow_92f84_0 9 rfl
def dJx4a65c_grow_92f84_20 := dk_at dc_Jx4a65c_grow_92f84_0 10 rfl
def dJx4a65c_grow_92f84_21 := dk_at dc_Jx4a65c_grow_92f84_0 11 rfl
def dJx4a65c_grow_92f84_22 := dk_at dc_Jx4a65c_grow_92f84_0 12 rfl
def dJx4a65c_grow_92f84_23 := dk_at dc_Jx4a65c_grow_92f84_0 13 rfl
def dJx4a65c_grow_92f84_24 := dk_at dc_Jx4a65c_grow_92f84_0 14 rfl
def dJx4a65c_grow_92f84_25 := dk_at dc_Jx4a65c_grow_92f84_0 15 rfl
def dt_Jx4a65c_grow_92f84_26 : List (Nat × Jvm.ClassFile.Instr × Nat) := [(26, .ishr, 1), (27, .invokestatic 73, 3), (30, .istore_n 3, 1), (31, .aload_n 0, 1), (32, .aload_n 0, 1), (33, .getfield 9, 3), (36, .iload_n 3, 1), (37, .invokestatic 66, 3), (40, .dup_x1, 1), (41, .putfield 9, 3), (44, .areturn, 1), (45, .aload_n 0, 1), (46, .bipush 10, 2), (48, .iload_n 1, 1), (49, .invokestatic 79, 3), (52, .anewarray 7, 3)]
theorem dc_Jx4a65c_grow_92f84_26 : dka cJx4a65c_grow_92f84 dt_Jx4a65c_grow_92f84_26 = true := by decide +kernel
def dJx4a65c_grow_92f84_26 := dk_at dc_Jx4a65c_grow_92f84_26 0 rfl
def dJx4a65c_grow_92f84_27 := dk_at dc_Jx4a65c_grow_92f84_26 1 rfl
def dJx4a65c_grow_92f84_30 := dk_at dc_Jx4a65c_grow_92f84_26 2 rfl
def dJx4a65c_grow_92f84_31 := dk_at dc_Jx4a65c_grow_92f84_26 3 rfl
def dJx4a65c_grow_92f84_32 := dk_at dc_Jx4a65c_grow_92f84_26 4 rfl
def dJx4a65c_grow_92f84_33 := dk_at dc_Jx4a65c_grow_92f84_26 5 rfl
def dJx4a65c_grow_92f84_36 := dk_at dc_Jx4a65c_grow_92f84_26 6 rfl
def dJx4a65c_grow_92f84_37 := dk_at dc_Jx4a65c_grow_92f84_26 7 rfl
def dJx4a65c_grow_92f84_40 := dk_at dc_Jx4a65c_grow_92f84_26 8 rfl
def dJx4a65c_grow_92f84_41 := dk_at dc_Jx4a65c_grow_92f84_26 9 rfl
def dJx4a65c_grow_92f84_44 := dk_at dc_Jx4a65c_grow_92f84_26 10 rfl
def dJx4a65c_grow_92f84_45 := dk_at dc_Jx4a65c_grow_92f84_26 11 rfl
def dJx4a65c_grow_92f84_46 := dk_at dc_Jx4a65c_grow_92f84_26 12 rfl
def dJx4a65c_grow_92f84_48 := dk_at dc_Jx4a65c_grow_92f84_26 13 rfl
def dJx4a65c_grow_92f84_49 := dk_at dc_Jx4a65c_grow_92f84_26 14 rfl
def dJx4a65c_grow_92f84_52 := dk_at dc_Jx4a65c_grow_92f84_26 15 rfl
def dt_Jx4a65c_grow_92f84_55 : List (Nat × Jvm.ClassFile.Instr × Nat) := [(55, .dup_x1, 1), (56, .putfield 9, 3), (59, .areturn, 1)]
theorem dc_Jx4a65c_grow_92f84_55 : dka cJx4a65c_grow_92f84 dt_Jx4a65c_grow_92f84_55 = true := by decide +kernel
def dJx4a65c_grow_92f84_55 := dk_at dc_Jx4a65c_grow_92f84_55 0 rfl
def dJx4a65c_grow_92f84_56 := dk_at dc_Jx4a65c_grow_92f84_55 1 rfl
def dJx4a65c_grow_92f84_59 := dk_at dc_Jx4a65c_grow_92f84_55 2 rfl
def dt_Jx4a65c_grow_d5877_0 : List (Nat × Jvm.ClassFile.Instr × Nat) := [(0, .aload_n 0, 1), (1, .aload_n 0, 1), (2, .getfield 48, 3), (5, .iconst 1, 1), (6, .iadd, 1), (7, .invokevirtual 69, 3), (10, .areturn, 1)]
theorem dc_Jx4a65c_grow_d5877_0 : dka cJx4a65c_grow_d5877 dt_Jx4a65c_grow_d5877_0 = true := by decide +kernel
def dJx4a65c_grow_d5877_0 := dk_at dc_Jx4a65c_grow_d5877_0 0 rfl
def dJx4a65c_grow_d5877_1 := dk_at dc_Jx4a65c_grow_d5877_0 1 rfl
def dJx4a65c_grow_d5877_2 := dk_at dc_Jx4a65c_grow_d5877_0 2 rfl
def dJx4a65c_grow_d5877_5 := dk_at dc_Jx4a65c_grow_d5877_0 3 rfl
def dJx4a65c_grow_d5877_6 := dk_at dc_Jx4a65c_grow_d5877_0 4 rfl
def dJx4a65c_grow_d5877_7 := dk_at dc_Jx4a65c_grow_d5877_0 5 rfl
def dJx4a65c_grow_d5877_10 := dk_at dc_Jx4a65c_grow_d5877_0 6 rfl
def dt_Jx4a65c_size_8abf5_0 : List (Nat × Jvm.ClassFile.Instr × Nat) := [(0, .aload_n 0, 1), (1, .getfield 48, 3), (4, .ireturn, 1)]
theorem dc_Jx4a65c_size_8abf5_0 : dka cJx4a65c_size_8abf5 dt_Jx4a65c_size_8abf5_0 = true := by decide +kernel
def dJx4a65c_size_8abf5_0 := dk_at dc_Jx4a65c_size_8abf5_0 0 rfl
def dJx4a65c_size_8abf5_1 := dk_at dc_Jx4a65c_size_8abf5_0 1 rfl
def dJx4a65c_size_8abf5_4 := dk_at dc_Jx4a65c_size_8abf5_0 2 rfl
def dt_Jx4a65c_isEmpty_aae02_0 : List (Nat × Jvm.ClassFile.Instr × Nat) := [(0, .aload_n 0, 1), (1, .getfield 48, 3), (4, .ifCond .ne 7, 3), (7, .iconst 1, 1), (8, .goto 4, 3), (11, .iconst 0, 1), (12, .ireturn, 1)]
theorem dc_Jx4a65c_isEmpty_aae02_0 : dka cJx4a65c_isEmpty_aae02 dt_Jx4a65c_isEmpty_aae02_0 = true := by decide +kernel
def dJx4a65c_isEmpty_aae02_0 := dk_at dc_Jx4a65c_isEmpty_aae02_0 0 rfl
def dJx4a65c_isEmpty_aae02_1 := dk_at dc_Jx4a65c_isEmpty_aae02_0 1 rfl
def dJx4a65c_isEmpty_aae02_4 := dk_at dc_Jx4a65c_isEmpty_aae02_0 2 rfl
def dJx4a65c_isEmpty_aae02_7 := dk_at dc_Jx4a65c_isEmpty_aae02_0 3 rfl
def dJx4a65c_isEmpty_aae02_8 := dk_at dc_Jx4a65c_isEmpty_aae02_0 4 rfl
def dJx4a65c_isEmpty_aae02_11 := dk_at dc_Jx4a65c_isEmpty_aae02_0 5 rfl
def dJx4a65c_isEmpty_aae02_12 := dk_at dc_Jx4a65c_isEmpty_aae02_0 6 rfl
def dt_Jx4a65c_elementData_915e3_0 : List (Nat × Jvm.ClassFile.Instr × Nat) := [(0, .aload_n 0, 1), (1, .getfield 9, 3), (4, .iload_n 1, 1), (5, .aaload, 1), (6, .areturn, 1)]
theorem dc_Jx4a65c_elementData_915e3_0 : dka cJx4a65c_elementData_915e3 dt_Jx4a65c_elementData_915e3_0 = true := by decide +kernel
def dJx4a65c_elementData_915e3_0 := dk_at dc_Jx4a65c_elementData_915e3_0 0 rfl
def dJx4a65c_elementData_915e3_1 := dk_at dc_Jx4a65c_elementData_915e3_0 1 rfl
def dJx4a65c_elementData_915e3_4 := dk_at dc_Jx4a65c_elementData_915e3_0 2 rfl
def dJx4a65c_elementData_915e3_5 := dk_at dc_Jx4a65c_elementData_915e3_0 3 rfl
def dJx4a65c_elementData_915e3_6 := dk_at dc_Jx4a65c_elementData_915e3_0 4 rfl
def dt_Jx4a65c_get_915e3_0 : List (Nat × Jvm.ClassFile.Instr × Nat) := [(0, .iload_n 1, 1), (1, .aload_n 0, 1), (2, .getfield 48, 3), (5, .invokestatic 118, 3), (8, .pop, 1), (9, .aload_n 0, 1), (10, .iload_n 1, 1), (11, .invokevirtual 123, 3), (14, .areturn, 1)]
theorem dc_Jx4a65c_get_915e3_0 : dka cJx4a65c_get_915e3 dt_Jx4a65c_get_915e3_0 = true := by decide +kernel
def dJx4a65c_get_915e3_0 := dk_at dc_Jx4a65c_get_915e3_0 0 rfl
def dJx4a65c_get_915e3_1 := dk_at dc_Jx4a65c_get_915e3_0 1 rfl
def dJx4a65c_get_915e3_2 := dk_at dc_Jx4a65c_get_915e3_0 2 rfl
def dJx4a65c_get_915e3_5 := dk_at dc_Jx4a65c_get_915e3_0 3 rfl
def dJx4a65c_get_915e3_8 := dk_at dc_Jx4a65c_get_915e3_0 4 rfl
def dJx4a65c_get_915e3_9 := dk_at dc_Jx4a65c_get_915e3_0 5 rfl
def dJx4a65c_get_915e3_10 := dk_at dc_Jx4a65c_get_915e3_0 6 rfl
def dJx4a65c_get_915e3_11 := dk_at dc_Jx4a65c_get_915e3_0 7 rfl
def dJx4a65c_get_915e3_14 := dk_at dc_Jx4a65c_get_915e3_0 8 rfl
def dt_Jx4a65c_add_72be8_0 : List (Nat × Jvm.ClassFile.Instr × Nat) := [(0, .iload_n 3, 1), (1, .aload_n 2, 1), (2, .arraylength, 1), (3, .if_icmp .ne 8, 3), (6, .aload_n 0, 1), (7, .invokevirtual 129, 3), (10, .astore_n 2, 1), (11, .aload_n 2, 1), (12, .iload_n 3, 1), (13, .aload_n 1, 1), (14, .aastore, 1), (15, .aload_n 0, 1), (16, .iload_n 3, 1), (17, .iconst 1, 1), (18, .iadd, 1), (19, .putfield 48, 3)]
theorem dc_Jx4a65c_add_72be8_0 : dka cJx4a65c_add_72be8 dt_Jx4a65c_add_72be8_0 = true := by decide +kernel
def dJx4a65c_add_72be8_0 := dk_at dc_Jx4a65c_add_72be8_0 0 rfl
def dJx4a65c_add_72be8_1 := dk_at dc_Jx4a65c_add_72be8_0 1 rfl
def dJx4a65c_add_72be8_2 := dk_at dc_Jx4a65c_add_72be8_0 2 rfl
def dJx4a65c_add_72be8_3 := dk_at dc_Jx4a65c_add_72be8_0 3 rfl
def dJx4a65c_add_72be8_6 := dk_at dc_Jx4a65c_add_72be8_0 4 rfl
def dJx4a65c_add_72be8_7 := dk_at dc_Jx4a65c_add_72be8_0 5 rfl
def dJx4a65c_add_72be8_10 := dk_at dc_Jx4a65c_add_72be8_0 6 rfl
def dJx4a65c_add_72be8_11 := dk_at dc_Jx4a65c_add_72be8_0 7 rfl
def dJx4a65c_add_72be8_12 := dk_at dc_Jx4a65c_add_72be8_0 8 rfl
def dJx4a65c_add_72be8_13 := dk_at dc_Jx4a65c_add_72be8_0 9 rfl
def dJx4a65c_add_72be8_14 := dk_at dc_Jx4a65c_add_72be8_0 10 rfl
def dJx4a65c_add_72be8_15 := dk_at dc_Jx4a65c_add_72be8_0 11 rfl
def dJx4a65c_add_72be8_16 := dk_at dc_Jx4a65c_add_72be8_0 12 rfl
def dJx4a65c_add_72be8_17 := dk_at dc_Jx4a65c_add_72be8_0 13 rfl
def dJx4a65c_add_72be8_18 := dk_at dc_Jx4a65c_add_72be8_0 14 rfl
def dJx4a65c_add_72be8_19 := dk_at dc_Jx4a65c_add_72be8_0 15 rfl
def dt_Jx4a65c_add_72be8_22 : List (Nat × Jvm.ClassFile.Instr × Nat) := [(22, .return_, 1)]
theorem dc_Jx4a65c_add_72be8_22 : dka cJx4a65c_add_72be8 dt_Jx4a65c_add_72be8_22 = true := by decide +kernel
def dJx4a65c_add_72be8_22 := dk_at dc_Jx4a65c_add_72be8_22 0 rfl
def dt_Jx4a65c_add_9ea2d_0 : List (Nat × Jvm.ClassFile.Instr × Nat) := [(0, .aload_n 0, 1), (1, .dup, 1), (2, .getfield 63, 3), (5, .iconst 1, 1), (6, .iadd, 1), (7, .putfield 63, 3), (10, .aload_n 0, 1), (11, .aload_n 1, 1), (12, .aload_n 0, 1), (13, .getfield 9, 3), (16, .aload_n 0, 1), (17, .getfield 48, 3), (20, .invokevirtual 131, 3), (23, .iconst 1, 1), (24, .ireturn, 1)]
theorem dc_Jx4a65c_add_9ea2d_0 : dka cJx4a65c_add_9ea2d dt_Jx4a65c_add_9ea2d_0 = true := by decide +kernel
def dJx4a65c_add_9ea2d_0 := dk_at dc_Jx4a65c_add_9ea2d_0 0 rfl
def dJx4a65c_add_9ea2d_1 := dk_at dc_Jx4a65c_add_9ea2d_0 1 rfl
def dJx4a65c_add_9ea2d_2 := dk_at dc_Jx4a65c_add_9ea2d_0 2 rfl
def dJx4a65c_add_9ea2d_5 := dk_at dc_Jx4a65c_add_9ea2d_0 3 rfl
def dJx4a65c_add_9ea2d_6 := dk_at dc_Jx4a65c_add_9ea2d_0 4 rfl
def dJx4a65c_add_9ea2d_7 := dk_at dc_Jx4a65c_add_9ea2d_0 5 rfl
def dJx4a65c_add_9ea2d_10 := dk_at dc_Jx4a65c_add_9ea2d_0 6 rfl
def dJx4a65c_add_9ea2d_11 := dk_at dc_Jx4a65c_add_9ea2d_0 7 rfl
def dJx4a65c_add_9ea2d_12 := dk_at dc_Jx4a65c_add_9ea2d_0 8 rfl
def dJx4a65c_add_9ea2d_13 := dk_at dc_Jx4a65c_add_9ea2d_0 9 rfl
def dJx4a65c_add_9ea2d_16 := dk_at dc_Jx4a65c_add_9ea2d_0 10 rfl
def dJx4a65c_add_9ea2d_17 := dk_at dc_Jx4a65c_add_9ea2d_0 11 rfl
def dJx4a65c_add_9ea2d_20 := dk_at dc_Jx4a65c_add_9ea2d_0 12 rfl
def dJx4a65c_add_9ea2d_23 := dk_at dc_Jx4a65c_add_9ea2d_0 13 rfl
def dJx4a65c_add_9ea2d_24 := dk_at dc_Jx4a65c_add_9ea2d_0 14 rfl
def dt_Jx4a65c_remove_915e3_0 : List (Nat × Jvm.ClassFile.Instr × Nat) := [(0, .iload_n 1, 1), (1, .aload_n 0, 1), (2, .getfield 48, 3), (5, .invokestatic 118, 3), (8, .pop, 1), (9, .aload_n 0, 1), (10, .getfield 9, 3), (13, .astore_n 2, 1), (14, .aload_n 2, 1), (15, .iload_n 1, 1), (16, .aaload, 1), (17, .astore_n 3, 1), (18, .aload_n 0, 1), (19, .aload_n 2, 1), (20, .iload_n 1, 1), (21, .invokevirtual 144, 3)]
theorem dc_Jx4a65c_remove_915e3_0 : dka cJx4a65c_remove_915e3 dt_Jx4a65c_remove_915e3_0 = true := by decide +kernel
def dJx4a65c_remove_915e3_0 := dk_at dc_Jx4a65c_remove_915e3_0 0 rfl
def dJx4a65c_remove_915e3_1 := dk_at dc_Jx4a65c_remove_915e3_0 1 rfl
def dJx4a65c_remove_915e3_2 := dk_at dc_Jx4a65c_remove_915e3_0 2 rfl
def dJx4a65c_remove_915e3_5 := dk_at dc_Jx4a65c_remove_915e3_0 3 rfl
def dJx4a65c_remove_915e3_8 := dk_at dc_Jx4a65c_remove_915e3_0 4 rfl
def dJx4a65c_remove_915e3_9 := dk_at dc_Jx4a65c_remove_915e3_0 5 rfl
def dJx4a65c_remove_915e3_10 := dk_at dc_Jx4a65c_remove_915e3_0 6 rfl
def dJx4a65c_remove_915e3_13 := dk_at dc_Jx4a65c_remove_915e3_0 7 rfl
def dJx4a65c_remove_915e3_14 := dk_at dc_Jx4a65c_remove_915e3_0 8 rfl
def dJx4a65c_remove_915e3_15 := dk_at dc_Jx4a65c_remove_915e3_0 9 rfl
def dJx4a65c_remove_915e3_16 := dk_at dc_Jx4a65c_remove_915e3_0 10 rfl
def dJx4a65c_remove_915e3_17 := dk_at dc_Jx4a65c_remove_915e3_0 11 rfl
def dJx4a65c_remove_915e3_18 := dk_at dc_Jx4a65c_remove_915e3_0 12 rfl
def dJx4a65c_remove_915e3_19 := dk_at dc_Jx4a65c_remove_915e3_0 13 rfl
def dJx4a65c_remove_915e3_20 := dk_at dc_Jx4a65c_remove_915e3_0 14 rfl
def dJx4a65c_remove_915e3_21 := dk_at dc_Jx4a65c_remove_915e3_0 15 rfl
def dt_Jx4a65c_remove_915e3_24 : List (Nat × Jvm.ClassFile.Instr × Nat) := [(24, .aload_n 3, 1), (25, .areturn, 1)]
theorem dc_Jx4a65c_remove_915e3_24 : dka cJx4a65c_remove_915e3 dt_Jx4a65c_remove_915e3_24 = true := by decide +kernel
def dJx4a65c_remove_915e3_24 := dk_at dc_Jx4a65c_remove_915e3_24 0 rfl
def dJx4a65c_remove_915e3_25 := dk_at dc_Jx4a65c_remove_915e3_24 1 rfl
def dt_Jx4a65c_fastRemove_b59b0_0 : List (Nat × Jvm.ClassFile.Instr × Nat) := [(0, .aload_n 0, 1), (1, .dup, 1), (2, .getfield 63, 3), (5, .iconst 1, 1), (6, .iadd, 1), (7, .putfield 63, 3), (10, .aload_n 0, 1), (11, .getfield 48, 3), (14, .iconst 1, 1), (15, .isub, 1), (16, .dup, 1), (17, .istore_n 3, 1), (18, .iload_n 2, 1), (19, .if_icmp .le 15, 3), (22, .aload_n 1, 1), (23, .iload_n 2, 1)]
theorem dc_Jx4a65c_fastRemove_b59b0_0 : dka cJx4a65c_fastRemove_b59b0 dt_Jx4a65c_fastRemove_b59b0_0 = true := by decide +kernel
def dJx4a65c_fastRemove_b59b0_0 := dk_at dc_Jx4a65c_fastRemove_b59b0_0 0 rfl
def dJx4a65c_fastRemove_b59b0_1 := dk_at dc_Jx4a65c_fastRemove_b59b0_0 1 rfl
def dJx4a65c_fastRemove_b59b0_2 := dk_at dc_Jx4a65c_fastRemove_b59b0_0 2 rfl
def dJx4a65c_fastRemove_b59b0_5 := dk_at dc_Jx4a65c_fastRemove_b59b0_0 3 rfl
def dJx4a65c_fastRemove_b59b0_6 := dk_at dc_Jx4a65c_fastRemove_b59b0_0 4 rfl
def dJx4a65c_fastRemove_b59b0_7 := dk_at dc_Jx4a65c_fastRemove_b59b0_0 5 rfl
def dJx4a65c_fastRemove_b59b0_10 := dk_at dc_Jx4a65c_fastRemove_b59b0_0 6 rfl
def dJx4a65c_fastRemove_b59b0_11 := dk_at dc_Jx4a65c_fastRemove_b59b0_0 7 rfl
def dJx4a65c_fastRemove_b59b0_14 := dk_at dc_Jx4a65c_fastRemove_b59b0_0 8 rfl
def dJx4a65c_fastRemove_b59b0_15 := dk_at dc_Jx4a65c_fastRemove_b59b0_0 9 rfl
def dJx4a65c_fastRemove_b59b0_16 := dk_at dc_Jx4a65c_fastRemove_b59b0_0 10 rfl
def dJx4a65c_fastRemove_b59b0_17 := dk_at dc_Jx4a65c_fastRemove_b59b0_0 11 rfl
def dJx4a65c_fastRemove_b59b0_18 := dk_at dc_Jx4a65c_fastRemove_b59b0_0 12 rfl
def dJx4a65c_fastRemove_b59b0_19 := dk_at dc_Jx4a65c_fastRemove_b59b0_0 13 rfl
def dJx4a65c_fastRemove_b59b0_22 := dk_at dc_Jx4a65c_fastRemove_b59b0_0 14 rfl
def dJx4a65c_fastRemove_b59b0_23 := dk_at dc_Jx4a65c_fastRemove_b59b0_0 15 rfl
def dt_Jx4a65c_fastRemove_b59b0_24 : List (Nat × Jvm.ClassFile.Instr × Nat) := [(24, .iconst 1, 1), (25, .iadd, 1), (26, .aload_n 1, 1), (27, .iload_n 2, 1), (28, .iload_n 3, 1), (29, .iload_n 2, 1), (30, .isub, 1), (31, .invokestatic 112, 3), (34, .aload_n 1, 1), (35, .aload_n 0, 1), (36, .iload_n 3, 1), (37, .dup_x1, 1), (38, .putfield 48, 3), (41, .aconst_null, 1), (42, .aastore, 1), (43, .return_, 1)]
theorem dc_Jx4a65c_fastRemove_b59b0_24 : dka cJx4a65c_fastRemove_b59b0 dt_Jx4a65c_fastRemove_b59b0_24 = true := by decide +kernel
def dJx4a65c_fastRemove_b59b0_24 := dk_at dc_Jx4a65c_fastRemove_b59b0_24 0 rfl
def dJx4a65c_fastRemove_b59b0_25 := dk_at dc_Jx4a65c_fastRemove_b59b0_24 1 rfl
def dJx4a65c_fastRemove_b59b0_26 := dk_at dc_Jx4a65c_fastRemove_b59b0_24 2 rfl
def dJx4a65c_fastRemove_b59b0_27 := dk_at dc_Jx4a65c_fastRemove_b59b0_24 3 rfl
def dJx4a65c_fastRemove_b59b0_28 := dk_at dc_Jx4a65c_fastRemove_b59b0_24 4 rfl
def dJx4a65c_fastRemove_b59b0_29 := dk_at dc_Jx4a65c_fastRemove_b59b0_24 5 rfl
def dJx4a65c_fastRemove_b59b0_30 := dk_at dc_Jx4a65c_fastRemove_b59b0_24 6 rfl
def dJx4a65c_fastRemove_b59b0_31 := dk_at dc_Jx4a65c_fastRemove_b59b0_24 7 rfl
def dJx4a65c_fastRemove_b59b0_34 := dk_at dc_Jx4a65c_fastRemove_b59b0_24 8 rfl
def dJx4a65c_fastRemove_b59b0_35 := dk_at dc_Jx4a65c_fastRemove_b59b0_24 9 rfl
def dJx4a65c_fastRemove_b59b0_36 := dk_at dc_Jx4a65c_fastRemove_b59b0_24 10 rfl
def dJx4a65c_fastRemove_b59b0_37 := dk_at dc_Jx4a65c_fastRemove_b59b0_24 11 rfl
def dJx4a65c_fastRemove_b59b0_38 := dk_at dc_Jx4a65c_fastRemove_b59b0_24 12 rfl
def dJx4a65c_fastRemove_b59b0_41 := dk_at dc_Jx4a65c_fastRemove_b59b0_24 13 rfl
def dJx4a65c_fastRemove_b59b0_42 := dk_at dc_Jx4a65c_fastRemove_b59b0_24 14 rfl
def dJx4a65c_fastRemove_b59b0_43 := dk_at dc_Jx4a65c_fastRemove_b59b0_24 15 rfl
def dt_Jxc12de_init_da8c8_0 : List (Nat × Jvm.ClassFile.Instr × Nat) := [(0, .aload_n 0, 1), (1, .invokespecial 1, 3), (4, .aload_n 0, 1), (5, .iconst 0, 1), (6, .putfield 7, 3), (9, .return_, 1)]
theorem dc_Jxc12de_init_da8c8_0 : dka cJxc12de_init_da8c8 dt_Jxc12de_init_da8c8_0 = true := by decide +kernel
def dJxc12de_init_da8c8_0 := dk_at dc_Jxc12de_init_da8c8_0 0 rfl
def dJxc12de_init_da8c8_1 := dk_at dc_Jxc12de_init_da8c8_0 1 rfl
def dJxc12de_init_da8c8_4 := dk_at dc_Jxc12de_init_da8c8_0 2 rfl
def dJxc12de_init_da8c8_5 := dk_at dc_Jxc12de_init_da8c8_0 3 rfl
def dJxc12de_init_da8c8_6 := dk_at dc_Jxc12de_init_da8c8_0 4 rfl
def dJxc12de_init_da8c8_9 := dk_at dc_Jxc12de_init_da8c8_0 5 rfl
def dt_Jxa1e45_init_da8c8_0 : List (Nat × Jvm.ClassFile.Instr × Nat) := [(0, .aload_n 0, 1), (1, .invokespecial 1, 3), (4, .return_, 1)]
theorem dc_Jxa1e45_init_da8c8_0 : dka cJxa1e45_init_da8c8 dt_Jxa1e45_init_da8c8_0 = true := by decide +kernel
def dJxa1e45_init_da8c8_0 := dk_at dc_Jxa1e45_init_da8c8_0 0 rfl
def dJxa1e45_init_da8c8_1 := dk_at dc_Jxa1e45_init_da8c8_0 1 rfl
def dJxa1e45_init_da8c8_4 := dk_at dc_Jxa1e45_init_da8c8_0 2 rfl
def dt_J4_init_da8c8_0 : List (Nat × Jvm.ClassFile.Instr × Nat) := [(0, .aload_n 0, 1), (1, .bipush 16, 2), (3, .invokespecial 1, 3), (6, .return_, 1)]
theorem dc_J4_init_da8c8_0 : dka cJ4_init_da8c8 dt_J4_init_da8c8_0 = true := by decide +kernel
def dJ4_init_da8c8_0 := dk_at dc_J4_init_da8c8_0 0 rfl
def dJ4_init_da8c8_1 := dk_at dc_J4_init_da8c8_0 1 rfl
def dJ4_init_da8c8_3 := dk_at dc_J4_init_da8c8_0 2 rfl
def dJ4_init_da8c8_6 := dk_at dc_J4_init_da8c8_0 3 rfl
def dt_J4_append_15ec4_0 : List (Nat × Jvm.ClassFile.Instr × Nat) := [(0, .aload_n 0, 1), (1, .aload_n 1, 1), (2, .invokespecial 29, 3), (5, .pop, 1), (6, .aload_n 0, 1), (7, .areturn, 1)]
theorem dc_J4_append_15ec4_0 : dka cJ4_append_15ec4 dt_J4_append_15ec4_0 = true := by decide +kernel
def dJ4_append_15ec4_0 := dk_at dc_J4_append_15ec4_0 0 rfl
def dJ4_append_15ec4_1 := dk_at dc_J4_append_15ec4_0 1 rfl
def dJ4_append_15ec4_2 := dk_at dc_J4_append_15ec4_0 2 rfl
def dJ4_append_15ec4_5 := dk_at dc_J4_append_15ec4_0 3 rfl
def dJ4_append_15ec4_6 := dk_at dc_J4_append_15ec4_0 4 rfl
def dJ4_append_15ec4_7 := dk_at dc_J4_append_15ec4_0 5 rfl
def dt_J4_append_cf468_0 : List (Nat × Jvm.ClassFile.Instr × Nat) := [(0, .aload_n 0, 1), (1, .iload_n 1, 1), (2, .invokespecial 50, 3), (5, .pop, 1), (6, .aload_n 0, 1), (7, .areturn, 1)]
theorem dc_J4_append_cf468_0 : dka cJ4_append_cf468 dt_J4_append_cf468_0 = true := by decide +kernel
def dJ4_append_cf468_0 := dk_at dc_J4_append_cf468_0 0 rfl
def dJ4_append_cf468_1 := dk_at dc_J4_append_cf468_0 1 rfl
def dJ4_append_cf468_2 := dk_at dc_J4_append_cf468_0 2 rfl
def dJ4_append_cf468_5 := dk_at dc_J4_append_cf468_0 3 rfl
def dJ4_append_cf468_6 := dk_at dc_J4_append_cf468_0 4 rfl
def dJ4_append_cf468_7 := dk_at dc_J4_append_cf468_0 5 rfl
def dt_J4_toString_0e30d_0 : List (Nat × Jvm.ClassFile.Instr × Nat) := [(0, .new 18, 3), (3, .dup, 1), (4, .aload_n 0, 1), (5, .invokespecial 137, 3), (8, .areturn, 1)]
theorem dc_J4_toString_0e30d_0 : dka cJ4_toString_0e30d dt_J4_toString_0e30d_0 = true := by decide +kernel
def dJ4_toString_0e30d_0 := dk_at dc_J4_toString_0e30d_0 0 rfl
def dJ4_toString_0e30d_3 := dk_at dc_J4_toString_0e30d_0 1 rfl
def dJ4_toString_0e30d_4 := dk_at dc_J4_toString_0e30d_0 2 rfl
def dJ4_toString_0e30d_5 := dk_at dc_J4_toString_0e30d_0 3 rfl
def dJ4_toString_0e30d_8 := dk_at dc_J4_toString_0e30d_0 4 rfl
def dt_J4_length_8abf5_0 : List (Nat × Jvm.ClassFile.Instr × Nat) := [(0, .aload_n 0, 1), (1, .invokespecial 343, 3), (4, .ireturn, 1)]
theorem dc_J4_length_8abf5_0 : dka cJ4_length_8abf5 dt_J4_length_8abf5_0 = true := by decide +kernel
def dJ4_length_8abf5_0 := dk_at dc_J4_length_8abf5_0 0 rfl
def dJ4_length_8abf5_1 := dk_at dc_J4_length_8abf5_0 1 rfl
def dJ4_length_8abf5_4 := dk_at dc_J4_length_8abf5_0 2 rfl
def dt_J5_init_d00df_0 : List (Nat × Jvm.ClassFile.Instr × Nat) := [(0, .aload_n 0, 1), (1, .invokespecial 3, 3), (4, .getstatic 18, 3), (7, .ifCond .eq 18, 3), (10, .aload_n 0, 1), (11, .iload_n 1, 1), (12, .newarray .byte, 2), (14, .putfield 15, 3), (17, .aload_n 0, 1), (18, .iconst 0, 1), (19, .putfield 22, 3), (22, .goto 16, 3), (25, .aload_n 0, 1), (26, .iload_n 1, 1), (27, .invokestatic 26, 3), (30, .putfield 15, 3)]
theorem dc_J5_init_d00df_0 : dka cJ5_init_d00df dt_J5_init_d00df_0 = true := by decide +kernel
def dJ5_init_d00df_0 := dk_at dc_J5_init_d00df_0 0 rfl
def dJ5_init_d00df_1 := dk_at dc_J5_init_d00df_0 1 rfl
def dJ5_init_d00df_4 := dk_at dc_J5_init_d00df_0 2 rfl
def dJ5_init_d00df_7 := dk_at dc_J5_init_d00df_0 3 rfl
def dJ5_init_d00df_10 := dk_at dc_J5_init_d00df_0 4 rfl
def dJ5_init_d00df_11 := dk_at dc_J5_init_d00df_0 5 rfl
def dJ5_init_d00df_12 := dk_at dc_J5_init_d00df_0 6 rfl
def dJ5_init_d00df_14 := dk_at dc_J5_init_d00df_0 7 rfl
def dJ5_init_d00df_17 := dk_at dc_J5_init_d00df_0 8 rfl
def dJ5_init_d00df_18 := dk_at dc_J5_init_d00df_0 9 rfl
def dJ5_init_d00df_19 := dk_at dc_J5_init_d00df_0 10 rfl
def dJ5_init_d00df_22 := dk_at dc_J5_init_d00df_0 11 rfl
def dt_J5_init_d00df_33 : List (Nat × Jvm.ClassFile.Instr × Nat) := [(33, .aload_n 0, 1), (34, .iconst 1, 1), (35, .putfield 22, 3), (38, .return_, 1)]
theorem dc_J5_init_d00df_33 : dka cJ5_init_d00df dt_J5_init_d00df_33 = true := by decide +kernel
def dJ5_init_d00df_38 := dk_at dc_J5_init_d00df_33 3 rfl
def dt_J5_length_8abf5_0 : List (Nat × Jvm.ClassFile.Instr × Nat) := [(0, .aload_n 0, 1), (1, .getfield 79, 3), (4, .ireturn, 1)]
theorem dc_J5_length_8abf5_0 : dka cJ5_length_8abf5 dt_J5_length_8abf5_0 = true := by decide +kernel
def dJ5_length_8abf5_0 := dk_at dc_J5_length_8abf5_0 0 rfl
def dJ5_length_8abf5_1 := dk_at dc_J5_length_8abf5_0 1 rfl
def dJ5_length_8abf5_4 := dk_at dc_J5_length_8abf5_0 2 rfl
def dt_J5_ensureCapacityInternal_d00df_0 : List (Nat × Jvm.ClassFile.Instr × Nat) := [(0, .aload_n 0, 1), (1, .getfield 15, 3), (4, .arraylength, 1), (5, .aload_n 0, 1), (6, .getfield 22, 3), (9, .ishr, 1), (10, .istore_n 2, 1), (11, .iload_n 1, 1), (12, .iload_n 2, 1), (13, .isub, 1), (14, .ifCond .le 24, 3), (17, .aload_n 0, 1), (18, .aload_n 0, 1), (19, .getfield 15, 3), (22, .aload_n 0, 1), (23, .iload_n 1, 1)]
theorem dc_J5_ensureCapacityInternal_d00df_0 : dka cJ5_ensureCapacityInternal_d00df dt_J5_ensureCapacityInternal_d00df_0 = true := by decide +kernel
def dJ5_ensureCapacityInternal_d00df_0 := dk_at dc_J5_ensureCapacityInternal_d00df_0 0 rfl
def dJ5_ensureCapacityInternal_d00df_1 := dk_at dc_J5_ensureCapacityInternal_d00df_0 1 rfl
def dJ5_ensureCapacityInternal_d00df_4 := dk_at dc_J5_ensureCapacityInternal_d00df_0 2 rfl
def dJ5_ensureCapacityInternal_d00df_5 := dk_at dc_J5_ensureCapacityInternal_d00df_0 3 rfl
def dJ5_ensureCapacityInternal_d00df_6 := dk_at dc_J5_ensureCapacityInternal_d00df_0 4 rfl
def dJ5_ensureCapacityInternal_d00df_9 := dk_at dc_J5_ensureCapacityInternal_d00df_0 5 rfl
def dJ5_ensureCapacityInternal_d00df_10 := dk_at dc_J5_ensureCapacityInternal_d00df_0 6 rfl
def dJ5_ensureCapacityInternal_d00df_11 := dk_at dc_J5_ensureCapacityInternal_d00df_0 7 rfl
def dJ5_ensureCapacityInternal_d00df_12 := dk_at dc_J5_ensureCapacityInternal_d00df_0 8 rfl
def dJ5_ensureCapacityInternal_d00df_13 := dk_at dc_J5_ensureCapacityInternal_d00df_0 9 rfl
def dJ5_ensureCapacityInternal_d00df_14 := dk_at dc_J5_ensureCapacityInternal_d00df_0 10 rfl
def dJ5_ensureCapacityInternal_d00df_17 := dk_at dc_J5_ensureCapacityInternal_d00df_0 11 rfl
def dJ5_ensureCapacityInternal_d00df_18 := dk_at dc_J5_ensureCapacityInternal_d00df_0 12 rfl
def dJ5_ensureCapacityInternal_d00df_19 := dk_at dc_J5_ensureCapacityInternal_d00df_0 13 rfl
def dJ5_ensureCapacityInternal_d00df_22 := dk_at dc_J5_ensureCapacityInternal_d00df_0 14 rfl
def dJ5_ensureCapacityInternal_d00df_23 := dk_at dc_J5_ensureCapacityInternal_d00df_0 15 rfl
def dt_J5_ensureCapacityInternal_d00df_24 : List (Nat × Jvm.ClassFile.Instr × Nat) := [(24, .invokevirtual 104, 3), (27, .aload_n 0, 1), (28, .getfield 22, 3), (31, .ishl, 1), (32, .invokestatic 108, 3), (35, .putfield 15, 3), (38, .return_, 1)]
theorem dc_J5_ensureCapacityInternal_d00df_24 : dka cJ5_ensureCapacityInternal_d00df dt_J5_ensureCapacityInternal_d00df_24 = true := by decide +kernel
def dJ5_ensureCapacityInternal_d00df_24 := dk_at dc_J5_ensureCapacityInternal_d00df_24 0 rfl
def dJ5_ensureCapacityInternal_d00df_27 := dk_at dc_J5_ensureCapacityInternal_d00df_24 1 rfl
def dJ5_ensureCapacityInternal_d00df_28 := dk_at dc_J5_ensureCapacityInternal_d00df_24 2 rfl
def dJ5_ensureCapacityInternal_d00df_31 := dk_at dc_J5_ensureCapacityInternal_d00df_24 3 rfl
def dJ5_ensureCapacityInternal_d00df_32 := dk_at dc_J5_ensureCapacityInternal_d00df_24 4 rfl
def dJ5_ensureCapacityInternal_d00df_35 := dk_at dc_J5_ensureCapacityInternal_d00df_24 5 rfl
def dJ5_ensureCapacityInternal_d00df_38 := dk_at dc_J5_ensureCapacityInternal_d00df_24 6 rfl
def dt_J5_newCapacity_0f7a4_0 : List (Nat × Jvm.ClassFile.Instr × Nat) := [(0, .aload_n 0, 1), (1, .getfield 15, 3), (4, .arraylength, 1), (5, .istore_n 2, 1), (6, .iload_n 1, 1), (7, .aload_n 0, 1), (8, .getfield 22, 3), (11, .ishl, 1), (12, .istore_n 3, 1), (13, .iload_n 3, 1), (14, .iload_n 2, 1), (15, .isub, 1), (16, .istore 4, 2), (18, .iload_n 2, 1), (19, .iload 4, 2), (21, .iload_n 2, 1)]
theorem dc_J5_newCapacity_0f7a4_0 : dka cJ5_newCapacity_0f7a4 dt_J5_newCapacity_0f7a4_0 = true := by decide +kernel
def dJ5_newCapacity_0f7a4_0 := dk_at dc_J5_newCapacity_0f7a4_0 0 rfl
def dJ5_newCapacity_0f7a4_1 := dk_at dc_J5_newCapacity_0f7a4_0 1 rfl
def dJ5_newCapacity_0f7a4_4 := dk_at dc_J5_newCapacity_0f7a4_0 2 rfl
def dJ5_newCapacity_0f7a4_5 := dk_at dc_J5_newCapacity_0f7a4_0 3 rfl
def dJ5_newCapacity_0f7a4_6 := dk_at dc_J5_newCapacity_0f7a4_0 4 rfl
def dJ5_newCapacity_0f7a4_7 := dk_at dc_J5_newCapacity_0f7a4_0 5 rfl
def dJ5_newCapacity_0f7a4_8 := dk_at dc_J5_newCapacity_0f7a4_0 6 rfl
def dJ5_newCapacity_0f7a4_11 := dk_at dc_J5_newCapacity_0f7a4_0 7 rfl
def dJ5_newCapacity_0f7a4_12 := dk_at dc_J5_newCapacity_0f7a4_0 8 rfl
def dJ5_newCapacity_0f7a4_13 := dk_at dc_J5_newCapacity_0f7a4_0 9 rfl
def dJ5_newCapacity_0f7a4_14 := dk_at dc_J5_newCapacity_0f7a4_0 10 rfl
def dJ5_newCapacity_0f7a4_15 := dk_at dc_J5_newCapacity_0f7a4_0 11 rfl
def dJ5_newCapacity_0f7a4_16 := dk_at dc_J5_newCapacity_0f7a4_0 12 rfl
def dJ5_newCapacity_0f7a4_18 := dk_at dc_J5_newCapacity_0f7a4_0 13 rfl
def dJ5_newCapacity_0f7a4_19 := dk_at dc_J5_newCapacity_0f7a4_0 14 rfl
def dJ5_newCapacity_0f7a4_21 := dk_at dc_J5_newCapacity_0f7a4_0 15 rfl
def dt_J5_newCapacity_0f7a4_22 : List (Nat × Jvm.ClassFile.Instr × Nat) := [(22, .iconst 2, 1), (23, .aload_n 0, 1), (24, .getfield 22, 3), (27, .ishl, 1), (28, .iadd, 1), (29, .invokestatic 114, 3), (32, .istore 5, 2), (34, .iload 5, 2), (36, .ldc 39, 2), (38, .if_icmp .ne 13, 3), (41, .new 120, 3), (44, .dup, 1), (45, .ldc 122, 2), (47, .invokespecial 124, 3), (50, .athrow, 1), (51, .iload 5, 2)]
theorem dc_J5_newCapacity_0f7a4_22 : dka cJ5_newCapacity_0f7a4 dt_J5_newCapacity_0f7a4_22 = true := by decide +kernel
def dJ5_newCapacity_0f7a4_22 := dk_at dc_J5_newCapacity_0f7a4_22 0 rfl
def dJ5_newCapacity_0f7a4_23 := dk_at dc_J5_newCapacity_0f7a4_22 1 rfl
def dJ5_newCapacity_0f7a4_24 := dk_at dc_J5_newCapacity_0f7a4_22 2 rfl
def dJ5_newCapacity_0f7a4_27 := dk_at dc_J5_newCapacity_0f7a4_22 3 rfl
def dJ5_newCapacity_0f7a4_28 := dk_at dc_J5_newCapacity_0f7a4_22 4 rfl
def dJ5_newCapacity_0f7a4_29 := dk_at dc_J5_newCapacity_0f7a4_22 5 rfl
def dJ5_newCapacity_0f7a4_32 := dk_at dc_J5_newCapacity_0f7a4_22 6 rfl
def dJ5_newCapacity_0f7a4_34 := dk_at dc_J5_newCapacity_0f7a4_22 7 rfl
def dJ5_newCapacity_0f7a4_36 := dk_at dc_J5_newCapacity_0f7a4_22 8 rfl
def dJ5_newCapacity_0f7a4_38 := dk_at dc_J5_newCapacity_0f7a4_22 9 rfl
def dJ5_newCapacity_0f7a4_51 := dk_at dc_J5_newCapacity_0f7a4_22 15 rfl
def dt_J5_newCapacity_0f7a4_53 : List (Nat × Jvm.ClassFile.Instr × Nat) := [(53, .aload_n 0, 1), (54, .getfield 22, 3), (57, .ishr, 1), (58, .ireturn, 1)]
theorem dc_J5_newCapacity_0f7a4_53 : dka cJ5_newCapacity_0f7a4 dt_J5_newCapacity_0f7a4_53 = true := by decide +kernel
def dJ5_newCapacity_0f7a4_53 := dk_at dc_J5_newCapacity_0f7a4_53 0 rfl
def dJ5_newCapacity_0f7a4_54 := dk_at dc_J5_newCapacity_0f7a4_53 1 rfl
def dJ5_newCapacity_0f7a4_57 := dk_at dc_J5_newCapacity_0f7a4_53 2 rfl
def dJ5_newCapacity_0f7a4_58 := dk_at dc_J5_newCapacity_0f7a4_53 3 rfl
def dt_J5_append_cf1ce_0 : List (Nat × Jvm.ClassFile.Instr × Nat) := [(0, .aload_n 1, 1), (1, .ifnonnull 8, 3), (4, .aload_n 0, 1), (5, .invokevirtual 204, 3), (8, .areturn, 1), (9, .aload_n 1, 1), (10, .invokevirtual 32, 3), (13, .istore_n 2, 1), (14, .aload_n 0, 1), (15, .aload_n 0, 1), (16, .getfield 79, 3), (19, .iload_n 2, 1), (20, .iadd, 1), (21, .invokevirtual 100, 3), (24, .aload_n 0, 1), (25, .aload_n 0, 1)]
theorem dc_J5_append_cf1ce_0 : dka cJ5_append_cf1ce dt_J5_append_cf1ce_0 = true := by decide +kernel
def dJ5_append_cf1ce_0 := dk_at dc_J5_append_cf1ce_0 0 rfl
def dJ5_append_cf1ce_1 := dk_at dc_J5_append_cf1ce_0 1 rfl
def dJ5_append_cf1ce_9 := dk_at dc_J5_append_cf1ce_0 5 rfl
def dJ5_append_cf1ce_10 := dk_at dc_J5_append_cf1ce_0 6 rfl
def dJ5_append_cf1ce_13 := dk_at dc_J5_append_cf1ce_0 7 rfl
def dJ5_append_cf1ce_14 := dk_at dc_J5_append_cf1ce_0 8 rfl
def dJ5_append_cf1ce_15 := dk_at dc_J5_append_cf1ce_0 9 rfl
def dJ5_append_cf1ce_16 := dk_at dc_J5_append_cf1ce_0 10 rfl
def dJ5_append_cf1ce_19 := dk_at dc_J5_append_cf1ce_0 11 rfl
def dJ5_append_cf1ce_20 := dk_at dc_J5_append_cf1ce_0 12 rfl
def dJ5_append_cf1ce_21 := dk_at dc_J5_append_cf1ce_0 13 rfl
def dJ5_append_cf1ce_24 := dk_at dc_J5_append_cf1ce_0 14 rfl
def dJ5_append_cf1ce_25 := dk_at dc_J5_append_cf1ce_0 15 rfl
def dt_J5_append_cf1ce_26 : List (Nat × Jvm.ClassFile.Instr × Nat) := [(26, .getfield 79, 3), (29, .aload_n 1, 1), (30, .invokevirtual 208, 3), (33, .aload_n 0, 1), (34, .dup, 1), (35, .getfield 79, 3), (38, .iload_n 2, 1), (39, .iadd, 1), (40, .putfield 79, 3), (43, .aload_n 0, 1), (44, .areturn, 1)]
theorem dc_J5_append_cf1ce_26 : dka cJ5_append_cf1ce dt_J5_append_cf1ce_26 = true := by decide +kernel
def dJ5_append_cf1ce_26 := dk_at dc_J5_append_cf1ce_26 0 rfl
def dJ5_append_cf1ce_29 := dk_at dc_J5_append_cf1ce_26 1 rfl
def dJ5_append_cf1ce_30 := dk_at dc_J5_append_cf1ce_26 2 rfl
def dJ5_append_cf1ce_33 := dk_at dc_J5_append_cf1ce_26 3 rfl
def dJ5_append_cf1ce_34 := dk_at dc_J5_append_cf1ce_26 4 rfl
def dJ5_append_cf1ce_35 := dk_at dc_J5_append_cf1ce_26 5 rfl
def dJ5_append_cf1ce_38 := dk_at dc_J5_append_cf1ce_26 6 rfl
def dJ5_append_cf1ce_39 := dk_at dc_J5_append_cf1ce_26 7 rfl
def dJ5_append_cf1ce_40 := dk_at dc_J5_append_cf1ce_26 8 rfl
def dJ5_append_cf1ce_43 := dk_at dc_J5_append_cf1ce_26 9 rfl
def dJ5_append_cf1ce_44 := dk_at dc_J5_append_cf1ce_26 10 rfl
def dt_J5_append_3fe6f_0 : List (Nat × Jvm.ClassFile.Instr × Nat) := [(0, .aload_n 0, 1), (1, .aload_n 0, 1), (2, .getfield 79, 3), (5, .iconst 1, 1), (6, .iadd, 1), (7, .invokevirtual 100, 3), (10, .aload_n 0, 1), (11, .invokevirtual 83, 3), (14, .ifCond .eq 31, 3), (17, .iload_n 1, 1), (18, .invokestatic 191, 3), (21, .ifCond .eq 24, 3), (24, .aload_n 0, 1), (25, .getfield 15, 3), (28, .aload_n 0, 1), (29, .dup, 1)]
theorem dc_J5_append_3fe6f_0 : dka cJ5_append_3fe6f dt_J5_append_3fe6f_0 = true := by decide +kernel
def dJ5_append_3fe6f_0 := dk_at dc_J5_append_3fe6f_0 0 rfl
def dJ5_append_3fe6f_1 := dk_at dc_J5_append_3fe6f_0 1 rfl
def dJ5_append_3fe6f_2 := dk_at dc_J5_append_3fe6f_0 2 rfl
def dJ5_append_3fe6f_5 := dk_at dc_J5_append_3fe6f_0 3 rfl
def dJ5_append_3fe6f_6 := dk_at dc_J5_append_3fe6f_0 4 rfl
def dJ5_append_3fe6f_7 := dk_at dc_J5_append_3fe6f_0 5 rfl
def dJ5_append_3fe6f_10 := dk_at dc_J5_append_3fe6f_0 6 rfl
def dJ5_append_3fe6f_11 := dk_at dc_J5_append_3fe6f_0 7 rfl
def dJ5_append_3fe6f_14 := dk_at dc_J5_append_3fe6f_0 8 rfl
def dJ5_append_3fe6f_17 := dk_at dc_J5_append_3fe6f_0 9 rfl
def dJ5_append_3fe6f_18 := dk_at dc_J5_append_3fe6f_0 10 rfl
def dJ5_append_3fe6f_21 := dk_at dc_J5_append_3fe6f_0 11 rfl
def dJ5_append_3fe6f_24 := dk_at dc_J5_append_3fe6f_0 12 rfl
def dJ5_append_3fe6f_25 := dk_at dc_J5_append_3fe6f_0 13 rfl
def dJ5_append_3fe6f_28 := dk_at dc_J5_append_3fe6f_0 14 rfl
def dJ5_append_3fe6f_29 := dk_at dc_J5_append_3fe6f_0 15 rfl
def dt_J5_append_3fe6f_30 : List (Nat × Jvm.ClassFile.Instr × Nat) := [(30, .getfield 79, 3), (33, .dup_x1, 1), (34, .iconst 1, 1), (35, .iadd, 1), (36, .putfield 79, 3), (39, .iload_n 1, 1), (40, .i2b, 1), (41, .bastore, 1), (42, .goto 33, 3), (45, .aload_n 0, 1), (46, .invokevirtual 83, 3), (49, .ifCond .eq 7, 3), (52, .aload_n 0, 1), (53, .invokevirtual 195, 3), (56, .aload_n 0, 1), (57, .getfield 15, 3)]
theorem dc_J5_append_3fe6f_30 : dka cJ5_append_3fe6f dt_J5_append_3fe6f_30 = true := by decide +kernel
def dJ5_append_3fe6f_30 := dk_at dc_J5_append_3fe6f_30 0 rfl
def dJ5_append_3fe6f_33 := dk_at dc_J5_append_3fe6f_30 1 rfl
def dJ5_append_3fe6f_34 := dk_at dc_J5_append_3fe6f_30 2 rfl
def dJ5_append_3fe6f_35 := dk_at dc_J5_append_3fe6f_30 3 rfl
def dJ5_append_3fe6f_36 := dk_at dc_J5_append_3fe6f_30 4 rfl
def dJ5_append_3fe6f_39 := dk_at dc_J5_append_3fe6f_30 5 rfl
def dJ5_append_3fe6f_40 := dk_at dc_J5_append_3fe6f_30 6 rfl
def dJ5_append_3fe6f_41 := dk_at dc_J5_append_3fe6f_30 7 rfl
def dJ5_append_3fe6f_42 := dk_at dc_J5_append_3fe6f_30 8 rfl
def dt_J5_append_3fe6f_60 : List (Nat × Jvm.ClassFile.Instr × Nat) := [(60, .aload_n 0, 1), (61, .dup, 1), (62, .getfield 79, 3), (65, .dup_x1, 1), (66, .iconst 1, 1), (67, .iadd, 1), (68, .putfield 79, 3), (71, .iload_n 1, 1), (72, .invokestatic 197, 3), (75, .aload_n 0, 1), (76, .areturn, 1)]
theorem dc_J5_append_3fe6f_60 : dka cJ5_append_3fe6f dt_J5_append_3fe6f_60 = true := by decide +kernel
def dJ5_append_3fe6f_75 := dk_at dc_J5_append_3fe6f_60 9 rfl
def dJ5_append_3fe6f_76 := dk_at dc_J5_append_3fe6f_60 10 rfl
def dt_J5_getValue_6d5f1_0 : List (Nat × Jvm.ClassFile.Instr × Nat) := [(0, .aload_n 0, 1), (1, .getfield 15, 3), (4, .areturn, 1)]
theorem dc_J5_getValue_6d5f1_0 : dka cJ5_getValue_6d5f1 dt_J5_getValue_6d5f1_0 = true := by decide +kernel
def dJ5_getValue_6d5f1_0 := dk_at dc_J5_getValue_6d5f1_0 0 rfl
def dJ5_getValue_6d5f1_1 := dk_at dc_J5_getValue_6d5f1_0 1 rfl
def dJ5_getValue_6d5f1_4 := dk_at dc_J5_getValue_6d5f1_0 2 rfl
def dt_J5_isLatin1_aae02_0 : List (Nat × Jvm.ClassFile.Instr × Nat) := [(0, .getstatic 18, 3), (3, .ifCond .eq 14, 3), (6, .aload_n 0, 1), (7, .getfield 22, 3), (10, .ifCond .ne 7, 3), (13, .iconst 1, 1), (14, .goto 4, 3), (17, .iconst 0, 1), (18, .ireturn, 1)]
theorem dc_J5_isLatin1_aae02_0 : dka cJ5_isLatin1_aae02 dt_J5_isLatin1_aae02_0 = true := by decide +kernel
def dJ5_isLatin1_aae02_0 := dk_at dc_J5_isLatin1_aae02_0 0 rfl
def dJ5_isLatin1_aae02_3 := dk_at dc_J5_isLatin1_aae02_0 1 rfl
def dJ5_isLatin1_aae02_6 := dk_at dc_J5_isLatin1_aae02_0 2 rfl
def dJ5_isLatin1_aae02_7 := dk_at dc_J5_isLatin1_aae02_0 3 rfl
def dJ5_isLatin1_aae02_10 := dk_at dc_J5_isLatin1_aae02_0 4 rfl
def dJ5_isLatin1_aae02_13 := dk_at dc_J5_isLatin1_aae02_0 5 rfl
def dJ5_isLatin1_aae02_14 := dk_at dc_J5_isLatin1_aae02_0 6 rfl
def dJ5_isLatin1_aae02_18 := dk_at dc_J5_isLatin1_aae02_0 8 rfl
def dt_J5_inflateIfNeededFor_a7421_0 : List (Nat × Jvm.ClassFile.Instr × Nat) := [(0, .getstatic 18, 3), (3, .ifCond .eq 18, 3), (6, .aload_n 0, 1), (7, .getfield 22, 3), (10, .aload_n 1, 1), (11, .invokevirtual 40, 3), (14, .if_icmp .eq 7, 3), (17, .aload_n 0, 1), (18, .invokevirtual 195, 3), (21, .return_, 1)]
theorem dc_J5_inflateIfNeededFor_a7421_0 : dka cJ5_inflateIfNeededFor_a7421 dt_J5_inflateIfNeededFor_a7421_0 = true := by decide +kernel
def dJ5_inflateIfNeededFor_a7421_0 := dk_at dc_J5_inflateIfNeededFor_a7421_0 0 rfl
def dJ5_inflateIfNeededFor_a7421_3 := dk_at dc_J5_inflateIfNeededFor_a7421_0 1 rfl
def dJ5_inflateIfNeededFor_a7421_6 := dk_at dc_J5_inflateIfNeededFor_a7421_0 2 rfl
def dJ5_inflateIfNeededFor_a7421_7 := dk_at dc_J5_inflateIfNeededFor_a7421_0 3 rfl
def dJ5_inflateIfNeededFor_a7421_10 := dk_at dc_J5_inflateIfNeededFor_a7421_0 4 rfl
def dJ5_inflateIfNeededFor_a7421_11 := dk_at dc_J5_inflateIfNeededFor_a7421_0 5 rfl
def dJ5_inflateIfNeededFor_a7421_14 := dk_at dc_J5_inflateIfNeededFor_a7421_0 6 rfl
def dJ5_inflateIfNeededFor_a7421_21 := dk_at dc_J5_inflateIfNeededFor_a7421_0 9 rfl
def dt_J5_putStringAt_47b60_0 : List (Nat × Jvm.ClassFile.Instr × Nat) := [(0, .aload_n 0, 1), (1, .aload_n 2, 1), (2, .invokevirtual 397, 3), (5, .aload_n 2, 1), (6, .aload_n 0, 1), (7, .getfield 15, 3), (10, .iload_n 1, 1), (11, .aload_n 0, 1), (12, .getfield 22, 3), (15, .invokevirtual 399, 3), (18, .return_, 1)]
theorem dc_J5_putStringAt_47b60_0 : dka cJ5_putStringAt_47b60 dt_J5_putStringAt_47b60_0 = true := by decide +kernel
def dJ5_putStringAt_47b60_0 := dk_at dc_J5_putStringAt_47b60_0 0 rfl
def dJ5_putStringAt_47b60_1 := dk_at dc_J5_putStringAt_47b60_0 1 rfl
def dJ5_putStringAt_47b60_2 := dk_at dc_J5_putStringAt_47b60_0 2 rfl
def dJ5_putStringAt_47b60_5 := dk_at dc_J5_putStringAt_47b60_0 3 rfl
def dJ5_putStringAt_47b60_6 := dk_at dc_J5_putStringAt_47b60_0 4 rfl
def dJ5_putStringAt_47b60_7 := dk_at dc_J5_putStringAt_47b60_0 5 rfl
def dJ5_putStringAt_47b60_10 := dk_at dc_J5_putStringAt_47b60_0 6 rfl
def dJ5_putStringAt_47b60_11 := dk_at dc_J5_putStringAt_47b60_0 7 rfl
def dJ5_putStringAt_47b60_12 := dk_at dc_J5_putStringAt_47b60_0 8 rfl
def dJ5_putStringAt_47b60_15 := dk_at dc_J5_putStringAt_47b60_0 9 rfl
def dJ5_putStringAt_47b60_18 := dk_at dc_J5_putStringAt_47b60_0 10 rfl
def dt_J0_init_81219_0 : List (Nat × Jvm.ClassFile.Instr × Nat) := [(0, .aload_n 0, 1), (1, .aload_n 1, 1), (2, .aconst_null, 1), (3, .invokespecial 489, 3), (6, .return_, 1)]
theorem dc_J0_init_81219_0 : dka cJ0_init_81219 dt_J0_init_81219_0 = true := by decide +kernel
def dJ0_init_81219_0 := dk_at dc_J0_init_81219_0 0 rfl
def dJ0_init_81219_1 := dk_at dc_J0_init_81219_0 1 rfl
def dJ0_init_81219_2 := dk_at dc_J0_init_81219_0 2 rfl
def dJ0_init_81219_3 := dk_at dc_J0_init_81219_0 3 rfl
def dJ0_init_81219_6 := dk_at dc_J0_init_81219_0 4 rfl
def dt_J0_init_db425_0 : List (Nat × Jvm.ClassFile.Instr × Nat) := [(0, .aload_n 0, 1), (1, .invokespecial 1, 3), (4, .aload_n 1, 1), (5, .invokevirtual 552, 3), (8, .astore_n 3, 1), (9, .aload_n 1, 1), (10, .invokevirtual 549, 3), (13, .istore 4, 2), (15, .aload_n 1, 1), (16, .invokevirtual 1047, 3), (19, .ifCond .eq 22, 3), (22, .aload_n 0, 1), (23, .iconst 0, 1), (24, .putfield 15, 3), (27, .aload_n 0, 1), (28, .aload_n 3, 1)]
theorem dc_J0_init_db425_0 : dka cJ0_init_db425 dt_J0_init_db425_0 = true := by decide +kernel
def dJ0_init_db425_0 := dk_at dc_J0_init_db425_0 0 rfl
def dJ0_init_db425_1 := dk_at dc_J0_init_db425_0 1 rfl
def dJ0_init_db425_4 := dk_at dc_J0_init_db425_0 2 rfl
def dJ0_init_db425_5 := dk_at dc_J0_init_db425_0 3 rfl
def dJ0_init_db425_8 := dk_at dc_J0_init_db425_0 4 rfl
def dJ0_init_db425_9 := dk_at dc_J0_init_db425_0 5 rfl
def dJ0_init_db425_10 := dk_at dc_J0_init_db425_0 6 rfl
def dJ0_init_db425_13 := dk_at dc_J0_init_db425_0 7 rfl
def dJ0_init_db425_15 := dk_at dc_J0_init_db425_0 8 rfl
def dJ0_init_db425_16 := dk_at dc_J0_init_db425_0 9 rfl
def dJ0_init_db425_19 := dk_at dc_J0_init_db425_0 10 rfl
def dJ0_init_db425_22 := dk_at dc_J0_init_db425_0 11 rfl
def dJ0_init_db425_23 := dk_at dc_J0_init_db425_0 12 rfl
def dJ0_init_db425_24 := dk_at dc_J0_init_db425_0 13 rfl
def dJ0_init_db425_27 := dk_at dc_J0_init_db425_0 14 rfl
def dJ0_init_db425_28 := dk_at dc_J0_init_db425_0 15 rfl
def dt_J0_init_db425_29 : List (Nat × Jvm.ClassFile.Instr × Nat) := [(29, .iconst 0, 1), (30, .iload 4, 2), (32, .invokestatic 54, 3), (35, .putfield 9, 3), (38, .goto 59, 3), (41, .getstatic 38, 3), (44, .ifCond .eq 35, 3), (47, .aload_n 1, 1), (48, .getfield 1048, 3), (51, .ifCond .eq 28, 3), (54, .aload_n 0, 1), (55, .aload_n 3, 1), (56, .iconst 0, 1), (57, .iload 4, 2), (59, .invokestatic 1051, 3), (62, .putfield 9, 3)]
theorem dc_J0_init_db425_29 : dka cJ0_init_db425 dt_J0_init_db425_29 = true := by decide +kernel
def dJ0_init_db425_29 := dk_at dc_J0_init_db425_29 0 rfl
def dJ0_init_db425_30 := dk_at dc_J0_init_db425_29 1 rfl
def dJ0_init_db425_32 := dk_at dc_J0_init_db425_29 2 rfl
def dJ0_init_db425_35 := dk_at dc_J0_init_db425_29 3 rfl
def dJ0_init_db425_38 := dk_at dc_J0_init_db425_29 4 rfl
def dt_J0_init_db425_91 : List (Nat × Jvm.ClassFile.Instr × Nat) := [(91, .invokestatic 54, 3), (94, .putfield 9, 3), (97, .return_, 1)]
theorem dc_J0_init_db425_91 : dka cJ0_init_db425 dt_J0_init_db425_91 = true := by decide +kernel
def dJ0_init_db425_97 := dk_at dc_J0_init_db425_91 2 rfl
def dt_J0_length_8abf5_0 : List (Nat × Jvm.ClassFile.Instr × Nat) := [(0, .aload_n 0, 1), (1, .getfield 9, 3), (4, .arraylength, 1), (5, .aload_n 0, 1), (6, .invokevirtual 335, 3), (9, .ishr, 1), (10, .ireturn, 1)]
theorem dc_J0_length_8abf5_0 : dka cJ0_length_8abf5 dt_J0_length_8abf5_0 = true := by decide +kernel
def dJ0_length_8abf5_0 := dk_at dc_J0_length_8abf5_0 0 rfl
def dJ0_length_8abf5_1 := dk_at dc_J0_length_8abf5_0 1 rfl
def dJ0_length_8abf5_4 := dk_at dc_J0_length_8abf5_0 2 rfl
def dJ0_length_8abf5_5 := dk_at dc_J0_length_8abf5_0 3 rfl
def dJ0_length_8abf5_6 := dk_at dc_J0_length_8abf5_0 4 rfl
def dJ0_length_8abf5_9 := dk_at dc_J0_length_8abf5_0 5 rfl
def dJ0_length_8abf5_10 := dk_at dc_J0_length_8abf5_0 6 rfl
def dt_J0_getBytes_840e7_0 : List (Nat × Jvm.ClassFile.Instr × Nat) := [(0, .aload_n 0, 1), (1, .invokevirtual 335, 3), (4, .iload_n 3, 1), (5, .if_icmp .ne 23, 3), (8, .aload_n 0, 1), (9, .getfield 9, 3), (12, .iconst 0, 1), (13, .aload_n 1, 1), (14, .iload_n 2, 1), (15, .iload_n 3, 1), (16, .ishl, 1), (17, .aload_n 0, 1), (18, .getfield 9, 3), (21, .arraylength, 1), (22, .invokestatic 212, 3), (25, .goto 18, 3)]
theorem dc_J0_getBytes_840e7_0 : dka cJ0_getBytes_840e7 dt_J0_getBytes_840e7_0 = true := by decide +kernel
def dJ0_getBytes_840e7_0 := dk_at dc_J0_getBytes_840e7_0 0 rfl
def dJ0_getBytes_840e7_1 := dk_at dc_J0_getBytes_840e7_0 1 rfl
def dJ0_getBytes_840e7_4 := dk_at dc_J0_getBytes_840e7_0 2 rfl
def dJ0_getBytes_840e7_5 := dk_at dc_J0_getBytes_840e7_0 3 rfl
def dJ0_getBytes_840e7_8 := dk_at dc_J0_getBytes_840e7_0 4 rfl
def dJ0_getBytes_840e7_9 := dk_at dc_J0_getBytes_840e7_0 5 rfl
def dJ0_getBytes_840e7_12 := dk_at dc_J0_getBytes_840e7_0 6 rfl
def dJ0_getBytes_840e7_13 := dk_at dc_J0_getBytes_840e7_0 7 rfl
def dJ0_getBytes_840e7_14 := dk_at dc_J0_getBytes_840e7_0 8 rfl
def dJ0_getBytes_840e7_15 := dk_at dc_J0_getBytes_840e7_0 9 rfl
def dJ0_getBytes_840e7_16 := dk_at dc_J0_getBytes_840e7_0 10 rfl
def dJ0_getBytes_840e7_17 := dk_at dc_J0_getBytes_840e7_0 11 rfl
def dJ0_getBytes_840e7_18 := dk_at dc_J0_getBytes_840e7_0 12 rfl
def dJ0_getBytes_840e7_21 := dk_at dc_J0_getBytes_840e7_0 13 rfl
def dJ0_getBytes_840e7_22 := dk_at dc_J0_getBytes_840e7_0 14 rfl
def dJ0_getBytes_840e7_25 := dk_at dc_J0_getBytes_840e7_0 15 rfl
def dt_J0_getBytes_840e7_28 : List (Nat × Jvm.ClassFile.Instr × Nat) := [(28, .aload_n 0, 1), (29, .getfield 9, 3), (32, .iconst 0, 1), (33, .aload_n 1, 1), (34, .iload_n 2, 1), (35, .aload_n 0, 1), (36, .getfield 9, 3), (39, .arraylength, 1), (40, .invokestatic 106, 3), (43, .return_, 1)]
theorem dc_J0_getBytes_840e7_28 : dka cJ0_getBytes_840e7 dt_J0_getBytes_840e7_28 = true := by decide +kernel
def dJ0_getBytes_840e7_43 := dk_at dc_J0_getBytes_840e7_28 9 rfl
def dt_J0_coder_7d493_0 : List (Nat × Jvm.ClassFile.Instr × Nat) := [(0, .getstatic 38, 3), (3, .ifCond .eq 10, 3), (6, .aload_n 0, 1), (7, .getfield 15, 3), (10, .goto 4, 3), (13, .iconst 1, 1), (14, .ireturn, 1)]
theorem dc_J0_coder_7d493_0 : dka cJ0_coder_7d493 dt_J0_coder_7d493_0 = true := by decide +kernel
def dJ0_coder_7d493_0 := dk_at dc_J0_coder_7d493_0 0 rfl
def dJ0_coder_7d493_3 := dk_at dc_J0_coder_7d493_0 1 rfl
def dJ0_coder_7d493_6 := dk_at dc_J0_coder_7d493_0 2 rfl
def dJ0_coder_7d493_7 := dk_at dc_J0_coder_7d493_0 3 rfl
def dJ0_coder_7d493_10 := dk_at dc_J0_coder_7d493_0 4 rfl
def dJ0_coder_7d493_14 := dk_at dc_J0_coder_7d493_0 6 rfl
def dt_J7_copyOf_1904c_0 : List (Nat × Jvm.ClassFile.Instr × Nat) := [(0, .aload_n 0, 1), (1, .iload_n 1, 1), (2, .aload_n 0, 1), (3, .invokevirtual 86, 3), (6, .invokestatic 300, 3), (9, .areturn, 1)]
theorem dc_J7_copyOf_1904c_0 : dka cJ7_copyOf_1904c dt_J7_copyOf_1904c_0 = true := by decide +kernel
def dJ7_copyOf_1904c_0 := dk_at dc_J7_copyOf_1904c_0 0 rfl
def dJ7_copyOf_1904c_1 := dk_at dc_J7_copyOf_1904c_0 1 rfl
def dJ7_copyOf_1904c_2 := dk_at dc_J7_copyOf_1904c_0 2 rfl
def dJ7_copyOf_1904c_3 := dk_at dc_J7_copyOf_1904c_0 3 rfl
def dJ7_copyOf_1904c_6 := dk_at dc_J7_copyOf_1904c_0 4 rfl
def dJ7_copyOf_1904c_9 := dk_at dc_J7_copyOf_1904c_0 5 rfl
def dt_J7_copyOf_6403c_0 : List (Nat × Jvm.ClassFile.Instr × Nat) := [(0, .aload_n 2, 1), (1, .ldc 110, 2), (3, .if_acmp .ne 10, 3), (6, .iload_n 1, 1), (7, .anewarray 2, 3), (10, .goto 14, 3), (13, .aload_n 2, 1), (14, .invokevirtual 90, 3), (17, .iload_n 1, 1), (18, .invokestatic 95, 3), (21, .checkcast 110, 3), (24, .astore_n 3, 1), (25, .aload_n 0, 1), (26, .iconst 0, 1), (27, .aload_n 3, 1), (28, .iconst 0, 1)]
theorem dc_J7_copyOf_6403c_0 : dka cJ7_copyOf_6403c dt_J7_copyOf_6403c_0 = true := by decide +kernel
def dJ7_copyOf_6403c_0 := dk_at dc_J7_copyOf_6403c_0 0 rfl
def dJ7_copyOf_6403c_1 := dk_at dc_J7_copyOf_6403c_0 1 rfl
def dJ7_copyOf_6403c_3 := dk_at dc_J7_copyOf_6403c_0 2 rfl
def dJ7_copyOf_6403c_6 := dk_at dc_J7_copyOf_6403c_0 3 rfl
def dJ7_copyOf_6403c_7 := dk_at dc_J7_copyOf_6403c_0 4 rfl
def dJ7_copyOf_6403c_10 := dk_at dc_J7_copyOf_6403c_0 5 rfl
def dJ7_copyOf_6403c_24 := dk_at dc_J7_copyOf_6403c_0 11 rfl
def dJ7_copyOf_6403c_25 := dk_at dc_J7_copyOf_6403c_0 12 rfl
def dJ7_copyOf_6403c_26 := dk_at dc_J7_copyOf_6403c_0 13 rfl
def dJ7_copyOf_6403c_27 := dk_at dc_J7_copyOf_6403c_0 14 rfl
def dJ7_copyOf_6403c_28 := dk_at dc_J7_copyOf_6403c_0 15 rfl
def dt_J7_copyOf_6403c_29 : List (Nat × Jvm.ClassFile.Instr × Nat) := [(29, .aload_n 0, 1), (30, .arraylength, 1), (31, .iload_n 1, 1), (32, .invokestatic 304, 3), (35, .invokestatic 150, 3), (38, .aload_n 3, 1), (39, .areturn, 1)]
theorem dc_J7_copyOf_6403c_29 : dka cJ7_copyOf_6403c dt_J7_copyOf_6403c_29 = true := by decide +kernel
def dJ7_copyOf_6403c_29 := dk_at dc_J7_copyOf_6403c_29 0 rfl
def dJ7_copyOf_6403c_30 := dk_at dc_J7_copyOf_6403c_29 1 rfl
def dJ7_copyOf_6403c_31 := dk_at dc_J7_copyOf_6403c_29 2 rfl
def dJ7_copyOf_6403c_32 := dk_at dc_J7_copyOf_6403c_29 3 rfl
def dJ7_copyOf_6403c_35 := dk_at dc_J7_copyOf_6403c_29 4 rfl
def dJ7_copyOf_6403c_38 := dk_at dc_J7_copyOf_6403c_29 5 rfl
def dJ7_copyOf_6403c_39 := dk_at dc_J7_copyOf_6403c_29 6 rfl
def dt_J7_copyOf_9075b_0 : List (Nat × Jvm.ClassFile.Instr × Nat) := [(0, .iload_n 1, 1), (1, .aload_n 0, 1), (2, .arraylength, 1), (3, .if_icmp .ne 11, 3), (6, .aload_n 0, 1), (7, .invokevirtual 310, 3), (10, .checkcast 311, 3), (13, .areturn, 1), (14, .iload_n 1, 1), (15, .newarray .byte, 2), (17, .astore_n 2, 1), (18, .aload_n 0, 1), (19, .iconst 0, 1), (20, .aload_n 2, 1), (21, .iconst 0, 1), (22, .aload_n 0, 1)]
theorem dc_J7_copyOf_9075b_0 : dka cJ7_copyOf_9075b dt_J7_copyOf_9075b_0 = true := by decide +kernel
def dJ7_copyOf_9075b_0 := dk_at dc_J7_copyOf_9075b_0 0 rfl
def dJ7_copyOf_9075b_1 := dk_at dc_J7_copyOf_9075b_0 1 rfl
def dJ7_copyOf_9075b_2 := dk_at dc_J7_copyOf_9075b_0 2 rfl
def dJ7_copyOf_9075b_3 := dk_at dc_J7_copyOf_9075b_0 3 rfl
def dJ7_copyOf_9075b_14 := dk_at dc_J7_copyOf_9075b_0 8 rfl
def dJ7_copyOf_9075b_15 := dk_at dc_J7_copyOf_9075b_0 9 rfl
def dJ7_copyOf_9075b_17 := dk_at dc_J7_copyOf_9075b_0 10 rfl
def dJ7_copyOf_9075b_18 := dk_at dc_J7_copyOf_9075b_0 11 rfl
def dJ7_copyOf_9075b_19 := dk_at dc_J7_copyOf_9075b_0 12 rfl
def dJ7_copyOf_9075b_20 := dk_at dc_J7_copyOf_9075b_0 13 rfl
def dJ7_copyOf_9075b_21 := dk_at dc_J7_copyOf_9075b_0 14 rfl
def dJ7_copyOf_9075b_22 := dk_at dc_J7_copyOf_9075b_0 15 rfl
def dt_J7_copyOf_9075b_23 : List (Nat × Jvm.ClassFile.Instr × Nat) := [(23, .arraylength, 1), (24, .iload_n 1, 1), (25, .invokestatic 304, 3), (28, .invokestatic 150, 3), (31, .aload_n 2, 1), (32, .areturn, 1)]
theorem dc_J7_copyOf_9075b_23 : dka cJ7_copyOf_9075b dt_J7_copyOf_9075b_23 = true := by decide +kernel
def dJ7_copyOf_9075b_23 := dk_at dc_J7_copyOf_9075b_23 0 rfl
def dJ7_copyOf_9075b_24 := dk_at dc_J7_copyOf_9075b_23 1 rfl
def dJ7_copyOf_9075b_25 := dk_at dc_J7_copyOf_9075b_23 2 rfl
def dJ7_copyOf_9075b_28 := dk_at dc_J7_copyOf_9075b_23 3 rfl
def dJ7_copyOf_9075b_31 := dk_at dc_J7_copyOf_9075b_23 4 rfl
def dJ7_copyOf_9075b_32 := dk_at dc_J7_copyOf_9075b_23 5 rfl
def dt_J7_checkLength_df160_0 : List (Nat × Jvm.ClassFile.Instr × Nat) := [(0, .iload_n 1, 1), (1, .iload_n 0, 1), (2, .if_icmp .ge 35, 3), (5, .new 43, 3), (8, .dup, 1), (9, .new 45, 3), (12, .dup, 1), (13, .invokespecial 47, 3), (16, .iload_n 0, 1), (17, .invokevirtual 54, 3), (20, .ldc_w 337, 3), (23, .invokevirtual 50, 3), (26, .iload_n 1, 1), (27, .invokevirtual 54, 3), (30, .invokevirtual 61, 3), (33, .invokespecial 65, 3)]
theorem dc_J7_checkLength_df160_0 : dka cJ7_checkLength_df160 dt_J7_checkLength_df160_0 = true := by decide +kernel
def dJ7_checkLength_df160_0 := dk_at dc_J7_checkLength_df160_0 0 rfl
def dJ7_checkLength_df160_1 := dk_at dc_J7_checkLength_df160_0 1 rfl
def dJ7_checkLength_df160_2 := dk_at dc_J7_checkLength_df160_0 2 rfl
def dt_J7_checkLength_df160_36 : List (Nat × Jvm.ClassFile.Instr × Nat) := [(36, .athrow, 1), (37, .return_, 1)]
theorem dc_J7_checkLength_df160_36 : dka cJ7_checkLength_df160 dt_J7_checkLength_df160_36 = true := by decide +kernel
def dJ7_checkLength_df160_37 := dk_at dc_J7_checkLength_df160_36 1 rfl
def dt_J7_copyOfRange_39247_0 : List (Nat × Jvm.ClassFile.Instr × Nat) := [(0, .iload_n 1, 1), (1, .ifCond .ne 9, 3), (4, .iload_n 2, 1), (5, .aload_n 0, 1), (6, .arraylength, 1), (7, .if_icmp .eq 10, 3), (10, .aload_n 0, 1), (11, .iload_n 1, 1), (12, .iload_n 2, 1), (13, .invokestatic 339, 3), (16, .areturn, 1), (17, .aload_n 0, 1), (18, .invokevirtual 310, 3), (21, .checkcast 311, 3), (24, .areturn, 1)]
theorem dc_J7_copyOfRange_39247_0 : dka cJ7_copyOfRange_39247 dt_J7_copyOfRange_39247_0 = true := by decide +kernel
def dJ7_copyOfRange_39247_0 := dk_at dc_J7_copyOfRange_39247_0 0 rfl
def dJ7_copyOfRange_39247_1 := dk_at dc_J7_copyOfRange_39247_0 1 rfl
def dJ7_copyOfRange_39247_4 := dk_at dc_J7_copyOfRange_39247_0 2 rfl
def dJ7_copyOfRange_39247_5 := dk_at dc_J7_copyOfRange_39247_0 3 rfl
def dJ7_copyOfRange_39247_6 := dk_at dc_J7_copyOfRange_39247_0 4 rfl
def dJ7_copyOfRange_39247_7 := dk_at dc_J7_copyOfRange_39247_0 5 rfl
def dJ7_copyOfRange_39247_10 := dk_at dc_J7_copyOfRange_39247_0 6 rfl
def dJ7_copyOfRange_39247_11 := dk_at dc_J7_copyOfRange_39247_0 7 rfl
def dJ7_copyOfRange_39247_12 := dk_at dc_J7_copyOfRange_39247_0 8 rfl
def dJ7_copyOfRange_39247_13 := dk_at dc_J7_copyOfRange_39247_0 9 rfl
def dJ7_copyOfRange_39247_16 := dk_at dc_J7_copyOfRange_39247_0 10 rfl
def dJ7_copyOfRange_39247_17 := dk_at dc_J7_copyOfRange_39247_0 11 rfl
def dJ7_copyOfRange_39247_18 := dk_at dc_J7_copyOfRange_39247_0 12 rfl
def dJ7_copyOfRange_39247_21 := dk_at dc_J7_copyOfRange_39247_0 13 rfl
def dJ7_copyOfRange_39247_24 := dk_at dc_J7_copyOfRange_39247_0 14 rfl
def dt_J7_copyOfRangeByte_39247_0 : List (Nat × Jvm.ClassFile.Instr × Nat) := [(0, .iload_n 1, 1), (1, .iload_n 2, 1), (2, .invokestatic 343, 3), (5, .iload_n 2, 1), (6, .iload_n 1, 1), (7, .isub, 1), (8, .istore_n 3, 1), (9, .iload_n 3, 1), (10, .newarray .byte, 2), (12, .astore 4, 2), (14, .aload_n 0, 1), (15, .iload_n 1, 1), (16, .aload 4, 2), (18, .iconst 0, 1), (19, .aload_n 0, 1), (20, .arraylength, 1)]
theorem dc_J7_copyOfRangeByte_39247_0 : dka cJ7_copyOfRangeByte_39247 dt_J7_copyOfRangeByte_39247_0 = true := by decide +kernel
def dJ7_copyOfRangeByte_39247_0 := dk_at dc_J7_copyOfRangeByte_39247_0 0 rfl
def dJ7_copyOfRangeByte_39247_1 := dk_at dc_J7_copyOfRangeByte_39247_0 1 rfl
def dJ7_copyOfRangeByte_39247_2 := dk_at dc_J7_copyOfRangeByte_39247_0 2 rfl
def dJ7_copyOfRangeByte_39247_5 := dk_at dc_J7_copyOfRangeByte_39247_0 3 rfl
def dJ7_copyOfRangeByte_39247_6 := dk_at dc_J7_copyOfRangeByte_39247_0 4 rfl
def dJ7_copyOfRangeByte_39247_7 := dk_at dc_J7_copyOfRangeByte_39247_0 5 rfl
def dJ7_copyOfRangeByte_39247_8 := dk_at dc_J7_copyOfRangeByte_39247_0 6 rfl
def dJ7_copyOfRangeByte_39247_9 := dk_at dc_J7_copyOfRangeByte_39247_0 7 rfl
def dJ7_copyOfRangeByte_39247_10 := dk_at dc_J7_copyOfRangeByte_39247_0 8 rfl
def dJ7_copyOfRangeByte_39247_12 := dk_at dc_J7_copyOfRangeByte_39247_0 9 rfl
def dJ7_copyOfRangeByte_39247_14 := dk_at dc_J7_copyOfRangeByte_39247_0 10 rfl
def dJ7_copyOfRangeByte_39247_15 := dk_at dc_J7_copyOfRangeByte_39247_0 11 rfl
def dJ7_copyOfRangeByte_39247_16 := dk_at dc_J7_copyOfRangeByte_39247_0 12 rfl
def dJ7_copyOfRangeByte_39247_18 := dk_at dc_J7_copyOfRangeByte_39247_0 13 rfl
def dJ7_copyOfRangeByte_39247_19 := dk_at dc_J7_copyOfRangeByte_39247_0 14 rfl
def dJ7_copyOfRangeByte_39247_20 := dk_at dc_J7_copyOfRangeByte_39247_0 15 rfl
def dt_J7_copyOfRangeByte_39247_21 : List (Nat × Jvm.ClassFile.Instr × Nat) := [(21, .iload_n 1, 1), (22, .isub, 1), (23, .iload_n 3, 1), (24, .invokestatic 304, 3), (27, .invokestatic 150, 3), (30, .aload 4, 2), (32, .areturn, 1)]
theorem dc_J7_copyOfRangeByte_39247_21 : dka cJ7_copyOfRangeByte_39247 dt_J7_copyOfRangeByte_39247_21 = true := by decide +kernel
def dJ7_copyOfRangeByte_39247_21 := dk_at dc_J7_copyOfRangeByte_39247_21 0 rfl
def dJ7_copyOfRangeByte_39247_22 := dk_at dc_J7_copyOfRangeByte_39247_21 1 rfl
def dJ7_copyOfRangeByte_39247_23 := dk_at dc_J7_copyOfRangeByte_39247_21 2 rfl
def dJ7_copyOfRangeByte_39247_24 := dk_at dc_J7_copyOfRangeByte_39247_21 3 rfl
def dJ7_copyOfRangeByte_39247_27 := dk_at dc_J7_copyOfRangeByte_39247_21 4 rfl
def dJ7_copyOfRangeByte_39247_30 := dk_at dc_J7_copyOfRangeByte_39247_21 5 rfl
def dJ7_copyOfRangeByte_39247_32 := dk_at dc_J7_copyOfRangeByte_39247_21 6 rfl
def dt_J8_newLength_cabcc_0 : List (Nat × Jvm.ClassFile.Instr × Nat) := [(0, .iload_n 0, 1), (1, .iload_n 1, 1), (2, .iload_n 2, 1), (3, .invokestatic 194, 3), (6, .iadd, 1), (7, .istore_n 3, 1), (8, .iconst 0, 1), (9, .iload_n 3, 1), (10, .if_icmp .ge 11, 3), (13, .iload_n 3, 1), (14, .ldc 200, 2), (16, .if_icmp .gt 5, 3), (19, .iload_n 3, 1), (20, .ireturn, 1), (21, .iload_n 0, 1), (22, .iload_n 1, 1)]
theorem dc_J8_newLength_cabcc_0 : dka cJ8_newLength_cabcc dt_J8_newLength_cabcc_0 = true := by decide +kernel
def dJ8_newLength_cabcc_0 := dk_at dc_J8_newLength_cabcc_0 0 rfl
def dJ8_newLength_cabcc_1 := dk_at dc_J8_newLength_cabcc_0 1 rfl
def dJ8_newLength_cabcc_2 := dk_at dc_J8_newLength_cabcc_0 2 rfl
def dJ8_newLength_cabcc_3 := dk_at dc_J8_newLength_cabcc_0 3 rfl
def dJ8_newLength_cabcc_6 := dk_at dc_J8_newLength_cabcc_0 4 rfl
def dJ8_newLength_cabcc_7 := dk_at dc_J8_newLength_cabcc_0 5 rfl
def dJ8_newLength_cabcc_8 := dk_at dc_J8_newLength_cabcc_0 6 rfl
def dJ8_newLength_cabcc_9 := dk_at dc_J8_newLength_cabcc_0 7 rfl
def dJ8_newLength_cabcc_10 := dk_at dc_J8_newLength_cabcc_0 8 rfl
def dJ8_newLength_cabcc_13 := dk_at dc_J8_newLength_cabcc_0 9 rfl
def dJ8_newLength_cabcc_14 := dk_at dc_J8_newLength_cabcc_0 10 rfl
def dJ8_newLength_cabcc_16 := dk_at dc_J8_newLength_cabcc_0 11 rfl
def dJ8_newLength_cabcc_19 := dk_at dc_J8_newLength_cabcc_0 12 rfl
def dJ8_newLength_cabcc_20 := dk_at dc_J8_newLength_cabcc_0 13 rfl
def dt_J15_checkIndex_7cf53_0 : List (Nat × Jvm.ClassFile.Instr × Nat) := [(0, .iload_n 0, 1), (1, .iload_n 1, 1), (2, .aconst_null, 1), (3, .invokestatic 105, 3), (6, .ireturn, 1)]
theorem dc_J15_checkIndex_7cf53_0 : dka cJ15_checkIndex_7cf53 dt_J15_checkIndex_7cf53_0 = true := by decide +kernel
def dJ15_checkIndex_7cf53_0 := dk_at dc_J15_checkIndex_7cf53_0 0 rfl
def dJ15_checkIndex_7cf53_1 := dk_at dc_J15_checkIndex_7cf53_0 1 rfl
def dJ15_checkIndex_7cf53_2 := dk_at dc_J15_checkIndex_7cf53_0 2 rfl
def dJ15_checkIndex_7cf53_3 := dk_at dc_J15_checkIndex_7cf53_0 3 rfl
def dJ15_checkIndex_7cf53_6 := dk_at dc_J15_checkIndex_7cf53_0 4 rfl
def dt_J3_checkIndex_8e157_0 : List (Nat × Jvm.ClassFile.Instr × Nat) := [(0, .iload_n 0, 1), (1, .ifCond .lt 8, 3), (4, .iload_n 0, 1), (5, .iload_n 1, 1), (6, .if_icmp .lt 10, 3), (9, .aload_n 2, 1), (10, .iload_n 0, 1), (11, .iload_n 1, 1), (12, .invokestatic 95, 3), (15, .athrow, 1), (16, .iload_n 0, 1), (17, .ireturn, 1)]
theorem dc_J3_checkIndex_8e157_0 : dka cJ3_checkIndex_8e157 dt_J3_checkIndex_8e157_0 = true := by decide +kernel
def dJ3_checkIndex_8e157_0 := dk_at dc_J3_checkIndex_8e157_0 0 rfl
def dJ3_checkIndex_8e157_1 := dk_at dc_J3_checkIndex_8e157_0 1 rfl
def dJ3_checkIndex_8e157_4 := dk_at dc_J3_checkIndex_8e157_0 2 rfl
def dJ3_checkIndex_8e157_5 := dk_at dc_J3_checkIndex_8e157_0 3 rfl
def dJ3_checkIndex_8e157_6 := dk_at dc_J3_checkIndex_8e157_0 4 rfl
def dJ3_checkIndex_8e157_16 := dk_at dc_J3_checkIndex_8e157_0 10 rfl
def dJ3_checkIndex_8e157_17 := dk_at dc_J3_checkIndex_8e157_0 11 rfl
def dt_J1_canEncode_fc78d_0 : List (Nat × Jvm.ClassFile.Instr × Nat) := [(0, .iload_n 0, 1), (1, .sipush 255, 3), (4, .if_icmp .gt 7, 3), (7, .iconst 1, 1), (8, .goto 4, 3), (11, .iconst 0, 1), (12, .ireturn, 1)]
theorem dc_J1_canEncode_fc78d_0 : dka cJ1_canEncode_fc78d dt_J1_canEncode_fc78d_0 = true := by decide +kernel
def dJ1_canEncode_fc78d_0 := dk_at dc_J1_canEncode_fc78d_0 0 rfl
def dJ1_canEncode_fc78d_1 := dk_at dc_J1_canEncode_fc78d_0 1 rfl
def dJ1_canEncode_fc78d_4 := dk_at dc_J1_canEncode_fc78d_0 2 rfl
def dJ1_canEncode_fc78d_7 := dk_at dc_J1_canEncode_fc78d_0 3 rfl
def dJ1_canEncode_fc78d_8 := dk_at dc_J1_canEncode_fc78d_0 4 rfl
def dJ1_canEncode_fc78d_12 := dk_at dc_J1_canEncode_fc78d_0 6 rfl

