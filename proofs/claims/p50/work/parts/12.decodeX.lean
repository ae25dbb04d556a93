theorem dX5_init_0 : decode cX5_init 0 = .ok (.aload_n 0, 1) := by decide +kernel
theorem dX5_init_1 : decode cX5_init 1 = .ok (.invokespecial 1, 3) := by decide +kernel
theorem dX5_init_4 : decode cX5_init 4 = .ok (.aload_n 0, 1) := by decide +kernel
theorem dX5_init_5 : decode cX5_init 5 = .ok (.new 7, 3) := by decide +kernel
theorem dX5_init_8 : decode cX5_init 8 = .ok (.dup, 1) := by decide +kernel
theorem dX5_init_9 : decode cX5_init 9 = .ok (.invokespecial 9, 3) := by decide +kernel
theorem dX5_init_12 : decode cX5_init 12 = .ok (.putfield 10, 3) := by decide +kernel
theorem dX5_init_15 : decode cX5_init 15 = .ok (.aload_n 0, 1) := by decide +kernel
theorem dX5_init_16 : decode cX5_init 16 = .ok (.new 16, 3) := by decide +kernel
theorem dX5_init_19 : decode cX5_init 19 = .ok (.dup, 1) := by decide +kernel
theorem dX5_init_20 : decode cX5_init 20 = .ok (.invokespecial 18, 3) := by decide +kernel
theorem dX5_init_23 : decode cX5_init 23 = .ok (.putfield 19, 3) := by decide +kernel
theorem dX5_init_26 : decode cX5_init 26 = .ok (.aload_n 0, 1) := by decide +kernel
theorem dX5_init_27 : decode cX5_init 27 = .ok (.new 23, 3) := by decide +kernel
theorem dX5_init_30 : decode cX5_init 30 = .ok (.dup, 1) := by decide +kernel
theorem dX5_init_31 : decode cX5_init 31 = .ok (.bipush 24, 2) := by decide +kernel
theorem dX5_init_33 : decode cX5_init 33 = .ok (.invokespecial 25, 3) := by decide +kernel
theorem dX5_init_36 : decode cX5_init 36 = .ok (.putfield 28, 3) := by decide +kernel
theorem dX5_init_39 : decode cX5_init 39 = .ok (.aload_n 0, 1) := by decide +kernel
theorem dX5_init_40 : decode cX5_init 40 = .ok (.iconst 0, 1) := by decide +kernel
theorem dX5_init_41 : decode cX5_init 41 = .ok (.putfield 32, 3) := by decide +kernel
theorem dX5_init_44 : decode cX5_init 44 = .ok (.return_, 1) := by decide +kernel
theorem dX5_lay_0 : decode cX5_lay 0 = .ok (.aload_n 0, 1) := by decide +kernel
theorem dX5_lay_1 : decode cX5_lay 1 = .ok (.iload_n 1, 1) := by decide +kernel
theorem dX5_lay_2 : decode cX5_lay 2 = .ok (.invokevirtual 36, 3) := by decide +kernel
theorem dX5_lay_5 : decode cX5_lay 5 = .ok (.astore 6, 2) := by decide +kernel
theorem dX5_lay_7 : decode cX5_lay 7 = .ok (.iload_n 2, 1) := by decide +kernel
theorem dX5_lay_8 : decode cX5_lay 8 = .ok (.invokestatic 40, 3) := by decide +kernel
theorem dX5_lay_11 : decode cX5_lay 11 = .ok (.iload_n 3, 1) := by decide +kernel
theorem dX5_lay_12 : decode cX5_lay 12 = .ok (.invokestatic 40, 3) := by decide +kernel
theorem dX5_lay_15 : decode cX5_lay 15 = .ok (.iadd, 1) := by decide +kernel
theorem dX5_lay_16 : decode cX5_lay 16 = .ok (.iload 4, 2) := by decide +kernel
theorem dX5_lay_18 : decode cX5_lay 18 = .ok (.invokestatic 40, 3) := by decide +kernel
theorem dX5_lay_21 : decode cX5_lay 21 = .ok (.iadd, 1) := by decide +kernel
theorem dX5_lay_22 : decode cX5_lay 22 = .ok (.iload 5, 2) := by decide +kernel
theorem dX5_lay_24 : decode cX5_lay 24 = .ok (.invokestatic 40, 3) := by decide +kernel
theorem dX5_lay_27 : decode cX5_lay 27 = .ok (.iadd, 1) := by decide +kernel
theorem dX5_lay_28 : decode cX5_lay 28 = .ok (.istore 7, 2) := by decide +kernel
theorem dX5_lay_30 : decode cX5_lay 30 = .ok (.aload 6, 2) := by decide +kernel
theorem dX5_lay_32 : decode cX5_lay 32 = .ok (.iload 7, 2) := by decide +kernel
theorem dX5_lay_34 : decode cX5_lay 34 = .ok (.invokevirtual 44, 3) := by decide +kernel
theorem dX5_lay_37 : decode cX5_lay 37 = .ok (.ifCond .ne 13, 3) := by decide +kernel
theorem dX5_lay_40 : decode cX5_lay 40 = .ok (.new 48, 3) := by decide +kernel
theorem dX5_lay_43 : decode cX5_lay 43 = .ok (.dup, 1) := by decide +kernel
theorem dX5_lay_44 : decode cX5_lay 44 = .ok (.ldc 50, 2) := by decide +kernel
theorem dX5_lay_46 : decode cX5_lay 46 = .ok (.invokespecial 52, 3) := by decide +kernel
theorem dX5_lay_49 : decode cX5_lay 49 = .ok (.athrow, 1) := by decide +kernel
theorem dX5_lay_50 : decode cX5_lay 50 = .ok (.aload_n 0, 1) := by decide +kernel
theorem dX5_lay_51 : decode cX5_lay 51 = .ok (.getfield 19, 3) := by decide +kernel
theorem dX5_lay_54 : decode cX5_lay 54 = .ok (.aload_n 0, 1) := by decide +kernel
theorem dX5_lay_55 : decode cX5_lay 55 = .ok (.getfield 10, 3) := by decide +kernel
theorem dX5_lay_58 : decode cX5_lay 58 = .ok (.invokevirtual 55, 3) := by decide +kernel
theorem dX5_lay_61 : decode cX5_lay 61 = .ok (.aload 6, 2) := by decide +kernel
theorem dX5_lay_63 : decode cX5_lay 63 = .ok (.iload_n 2, 1) := by decide +kernel
theorem dX5_lay_64 : decode cX5_lay 64 = .ok (.invokestatic 59, 3) := by decide +kernel
theorem dX5_lay_67 : decode cX5_lay 67 = .ok (.aload 6, 2) := by decide +kernel
theorem dX5_lay_69 : decode cX5_lay 69 = .ok (.iload_n 3, 1) := by decide +kernel
theorem dX5_lay_70 : decode cX5_lay 70 = .ok (.invokestatic 59, 3) := by decide +kernel
theorem dX5_lay_73 : decode cX5_lay 73 = .ok (.aload 6, 2) := by decide +kernel
theorem dX5_lay_75 : decode cX5_lay 75 = .ok (.iload 4, 2) := by decide +kernel
theorem dX5_lay_77 : decode cX5_lay 77 = .ok (.invokestatic 59, 3) := by decide +kernel
theorem dX5_lay_80 : decode cX5_lay 80 = .ok (.aload 6, 2) := by decide +kernel
theorem dX5_lay_82 : decode cX5_lay 82 = .ok (.iload 5, 2) := by decide +kernel
theorem dX5_lay_84 : decode cX5_lay 84 = .ok (.invokestatic 59, 3) := by decide +kernel
theorem dX5_lay_87 : decode cX5_lay 87 = .ok (.aload 6, 2) := by decide +kernel
theorem dX5_lay_89 : decode cX5_lay 89 = .ok (.invokevirtual 63, 3) := by decide +kernel
theorem dX5_lay_92 : decode cX5_lay 92 = .ok (.ireturn, 1) := by decide +kernel
theorem dX5_drop_0 : decode cX5_drop 0 = .ok (.aload_n 0, 1) := by decide +kernel
theorem dX5_drop_1 : decode cX5_drop 1 = .ok (.aload_n 0, 1) := by decide +kernel
theorem dX5_drop_2 : decode cX5_drop 2 = .ok (.iload_n 1, 1) := by decide +kernel
theorem dX5_drop_3 : decode cX5_drop 3 = .ok (.invokevirtual 36, 3) := by decide +kernel
theorem dX5_drop_6 : decode cX5_drop 6 = .ok (.iload_n 2, 1) := by decide +kernel
theorem dX5_drop_7 : decode cX5_drop 7 = .ok (.invokevirtual 67, 3) := by decide +kernel
theorem dX5_drop_10 : decode cX5_drop 10 = .ok (.ireturn, 1) := by decide +kernel
theorem dX5_copy_0 : decode cX5_copy 0 = .ok (.aload_n 0, 1) := by decide +kernel
theorem dX5_copy_1 : decode cX5_copy 1 = .ok (.iload_n 1, 1) := by decide +kernel
theorem dX5_copy_2 : decode cX5_copy 2 = .ok (.invokevirtual 36, 3) := by decide +kernel
theorem dX5_copy_5 : decode cX5_copy 5 = .ok (.astore_n 3, 1) := by decide +kernel
theorem dX5_copy_6 : decode cX5_copy 6 = .ok (.aload_n 0, 1) := by decide +kernel
theorem dX5_copy_7 : decode cX5_copy 7 = .ok (.iload_n 2, 1) := by decide +kernel
theorem dX5_copy_8 : decode cX5_copy 8 = .ok (.invokevirtual 36, 3) := by decide +kernel
theorem dX5_copy_11 : decode cX5_copy 11 = .ok (.astore 4, 2) := by decide +kernel
theorem dX5_copy_13 : decode cX5_copy 13 = .ok (.aload 4, 2) := by decide +kernel
theorem dX5_copy_15 : decode cX5_copy 15 = .ok (.invokevirtual 63, 3) := by decide +kernel
theorem dX5_copy_18 : decode cX5_copy 18 = .ok (.istore 5, 2) := by decide +kernel
theorem dX5_copy_20 : decode cX5_copy 20 = .ok (.aload_n 0, 1) := by decide +kernel
theorem dX5_copy_21 : decode cX5_copy 21 = .ok (.getfield 19, 3) := by decide +kernel
theorem dX5_copy_24 : decode cX5_copy 24 = .ok (.aload_n 0, 1) := by decide +kernel
theorem dX5_copy_25 : decode cX5_copy 25 = .ok (.getfield 10, 3) := by decide +kernel
theorem dX5_copy_28 : decode cX5_copy 28 = .ok (.invokevirtual 55, 3) := by decide +kernel
theorem dX5_copy_31 : decode cX5_copy 31 = .ok (.iload_n 1, 1) := by decide +kernel
theorem dX5_copy_32 : decode cX5_copy 32 = .ok (.iload_n 2, 1) := by decide +kernel
theorem dX5_copy_33 : decode cX5_copy 33 = .ok (.if_icmp .eq 9, 3) := by decide +kernel
theorem dX5_copy_36 : decode cX5_copy 36 = .ok (.aload 4, 2) := by decide +kernel
theorem dX5_copy_38 : decode cX5_copy 38 = .ok (.aload_n 3, 1) := by decide +kernel
theorem dX5_copy_39 : decode cX5_copy 39 = .ok (.invokevirtual 71, 3) := by decide +kernel
theorem dX5_copy_42 : decode cX5_copy 42 = .ok (.iload 5, 2) := by decide +kernel
theorem dX5_copy_44 : decode cX5_copy 44 = .ok (.ireturn, 1) := by decide +kernel
theorem dX5_raise_0 : decode cX5_raise 0 = .ok (.aload_n 0, 1) := by decide +kernel
theorem dX5_raise_1 : decode cX5_raise 1 = .ok (.iload_n 1, 1) := by decide +kernel
theorem dX5_raise_2 : decode cX5_raise 2 = .ok (.invokevirtual 36, 3) := by decide +kernel
theorem dX5_raise_5 : decode cX5_raise 5 = .ok (.astore_n 2, 1) := by decide +kernel
theorem dX5_raise_6 : decode cX5_raise 6 = .ok (.aload_n 0, 1) := by decide +kernel
theorem dX5_raise_7 : decode cX5_raise 7 = .ok (.getfield 19, 3) := by decide +kernel
theorem dX5_raise_10 : decode cX5_raise 10 = .ok (.aload_n 0, 1) := by decide +kernel
theorem dX5_raise_11 : decode cX5_raise 11 = .ok (.getfield 10, 3) := by decide +kernel
theorem dX5_raise_14 : decode cX5_raise 14 = .ok (.invokevirtual 55, 3) := by decide +kernel
theorem dX5_raise_17 : decode cX5_raise 17 = .ok (.iconst 0, 1) := by decide +kernel
theorem dX5_raise_18 : decode cX5_raise 18 = .ok (.istore_n 3, 1) := by decide +kernel
theorem dX5_raise_19 : decode cX5_raise 19 = .ok (.iconst 0, 1) := by decide +kernel
theorem dX5_raise_20 : decode cX5_raise 20 = .ok (.istore 4, 2) := by decide +kernel
theorem dX5_raise_22 : decode cX5_raise 22 = .ok (.iload 4, 2) := by decide +kernel
theorem dX5_raise_24 : decode cX5_raise 24 = .ok (.aload_n 2, 1) := by decide +kernel
theorem dX5_raise_25 : decode cX5_raise 25 = .ok (.invokevirtual 63, 3) := by decide +kernel
theorem dX5_raise_28 : decode cX5_raise 28 = .ok (.if_icmp .ge 50, 3) := by decide +kernel
theorem dX5_raise_31 : decode cX5_raise 31 = .ok (.aload_n 2, 1) := by decide +kernel
theorem dX5_raise_32 : decode cX5_raise 32 = .ok (.iload 4, 2) := by decide +kernel
theorem dX5_raise_34 : decode cX5_raise 34 = .ok (.invokevirtual 75, 3) := by decide +kernel
theorem dX5_raise_37 : decode cX5_raise 37 = .ok (.invokestatic 78, 3) := by decide +kernel
theorem dX5_raise_40 : decode cX5_raise 40 = .ok (.istore 5, 2) := by decide +kernel
theorem dX5_raise_42 : decode cX5_raise 42 = .ok (.iload 5, 2) := by decide +kernel
theorem dX5_raise_44 : decode cX5_raise 44 = .ok (.invokestatic 83, 3) := by decide +kernel
theorem dX5_raise_47 : decode cX5_raise 47 = .ok (.ifCond .eq 25, 3) := by decide +kernel
theorem dX5_raise_50 : decode cX5_raise 50 = .ok (.iload 5, 2) := by decide +kernel
theorem dX5_raise_52 : decode cX5_raise 52 = .ok (.aload_n 2, 1) := by decide +kernel
theorem dX5_raise_53 : decode cX5_raise 53 = .ok (.iload 4, 2) := by decide +kernel
theorem dX5_raise_55 : decode cX5_raise 55 = .ok (.invokevirtual 75, 3) := by decide +kernel
theorem dX5_raise_58 : decode cX5_raise 58 = .ok (.if_icmp .eq 14, 3) := by decide +kernel
theorem dX5_raise_61 : decode cX5_raise 61 = .ok (.aload_n 2, 1) := by decide +kernel
theorem dX5_raise_62 : decode cX5_raise 62 = .ok (.iload 4, 2) := by decide +kernel
theorem dX5_raise_64 : decode cX5_raise 64 = .ok (.iload 5, 2) := by decide +kernel
theorem dX5_raise_66 : decode cX5_raise 66 = .ok (.invokevirtual 86, 3) := by decide +kernel
theorem dX5_raise_69 : decode cX5_raise 69 = .ok (.iinc 3 1, 3) := by decide +kernel
theorem dX5_raise_72 : decode cX5_raise 72 = .ok (.iinc 4 1, 3) := by decide +kernel
theorem dX5_raise_75 : decode cX5_raise 75 = .ok (.goto (-53), 3) := by decide +kernel
theorem dX5_raise_78 : decode cX5_raise 78 = .ok (.iload_n 3, 1) := by decide +kernel
theorem dX5_raise_79 : decode cX5_raise 79 = .ok (.ireturn, 1) := by decide +kernel
theorem dX5_sink_0 : decode cX5_sink 0 = .ok (.aload_n 0, 1) := by decide +kernel
theorem dX5_sink_1 : decode cX5_sink 1 = .ok (.iload_n 1, 1) := by decide +kernel
theorem dX5_sink_2 : decode cX5_sink 2 = .ok (.invokevirtual 36, 3) := by decide +kernel
theorem dX5_sink_5 : decode cX5_sink 5 = .ok (.astore_n 2, 1) := by decide +kernel
theorem dX5_sink_6 : decode cX5_sink 6 = .ok (.aload_n 0, 1) := by decide +kernel
theorem dX5_sink_7 : decode cX5_sink 7 = .ok (.getfield 19, 3) := by decide +kernel
theorem dX5_sink_10 : decode cX5_sink 10 = .ok (.aload_n 0, 1) := by decide +kernel
theorem dX5_sink_11 : decode cX5_sink 11 = .ok (.getfield 10, 3) := by decide +kernel
theorem dX5_sink_14 : decode cX5_sink 14 = .ok (.invokevirtual 55, 3) := by decide +kernel
theorem dX5_sink_17 : decode cX5_sink 17 = .ok (.iconst 0, 1) := by decide +kernel
theorem dX5_sink_18 : decode cX5_sink 18 = .ok (.istore_n 3, 1) := by decide +kernel
theorem dX5_sink_19 : decode cX5_sink 19 = .ok (.iconst 0, 1) := by decide +kernel
theorem dX5_sink_20 : decode cX5_sink 20 = .ok (.istore 4, 2) := by decide +kernel
theorem dX5_sink_22 : decode cX5_sink 22 = .ok (.iload 4, 2) := by decide +kernel
theorem dX5_sink_24 : decode cX5_sink 24 = .ok (.aload_n 2, 1) := by decide +kernel
theorem dX5_sink_25 : decode cX5_sink 25 = .ok (.invokevirtual 63, 3) := by decide +kernel
theorem dX5_sink_28 : decode cX5_sink 28 = .ok (.if_icmp .ge 42, 3) := by decide +kernel
theorem dX5_sink_31 : decode cX5_sink 31 = .ok (.aload_n 2, 1) := by decide +kernel
theorem dX5_sink_32 : decode cX5_sink 32 = .ok (.iload 4, 2) := by decide +kernel
theorem dX5_sink_34 : decode cX5_sink 34 = .ok (.invokevirtual 75, 3) := by decide +kernel
theorem dX5_sink_37 : decode cX5_sink 37 = .ok (.invokestatic 90, 3) := by decide +kernel
theorem dX5_sink_40 : decode cX5_sink 40 = .ok (.istore 5, 2) := by decide +kernel
theorem dX5_sink_42 : decode cX5_sink 42 = .ok (.iload 5, 2) := by decide +kernel
theorem dX5_sink_44 : decode cX5_sink 44 = .ok (.aload_n 2, 1) := by decide +kernel
theorem dX5_sink_45 : decode cX5_sink 45 = .ok (.iload 4, 2) := by decide +kernel
theorem dX5_sink_47 : decode cX5_sink 47 = .ok (.invokevirtual 75, 3) := by decide +kernel
theorem dX5_sink_50 : decode cX5_sink 50 = .ok (.if_icmp .eq 14, 3) := by decide +kernel
theorem dX5_sink_53 : decode cX5_sink 53 = .ok (.aload_n 2, 1) := by decide +kernel
theorem dX5_sink_54 : decode cX5_sink 54 = .ok (.iload 4, 2) := by decide +kernel
theorem dX5_sink_56 : decode cX5_sink 56 = .ok (.iload 5, 2) := by decide +kernel
theorem dX5_sink_58 : decode cX5_sink 58 = .ok (.invokevirtual 86, 3) := by decide +kernel
theorem dX5_sink_61 : decode cX5_sink 61 = .ok (.iinc 3 1, 3) := by decide +kernel
theorem dX5_sink_64 : decode cX5_sink 64 = .ok (.iinc 4 1, 3) := by decide +kernel
theorem dX5_sink_67 : decode cX5_sink 67 = .ok (.goto (-45), 3) := by decide +kernel
theorem dX5_sink_70 : decode cX5_sink 70 = .ok (.iload_n 3, 1) := by decide +kernel
theorem dX5_sink_71 : decode cX5_sink 71 = .ok (.ireturn, 1) := by decide +kernel
theorem dX5_sieve_0 : decode cX5_sieve 0 = .ok (.aload_n 0, 1) := by decide +kernel
theorem dX5_sieve_1 : decode cX5_sieve 1 = .ok (.iload_n 1, 1) := by decide +kernel
theorem dX5_sieve_2 : decode cX5_sieve 2 = .ok (.invokevirtual 36, 3) := by decide +kernel
theorem dX5_sieve_5 : decode cX5_sieve 5 = .ok (.astore 4, 2) := by decide +kernel
theorem dX5_sieve_7 : decode cX5_sieve 7 = .ok (.iload_n 2, 1) := by decide +kernel
theorem dX5_sieve_8 : decode cX5_sieve 8 = .ok (.invokestatic 93, 3) := by decide +kernel
theorem dX5_sieve_11 : decode cX5_sieve 11 = .ok (.aload_n 0, 1) := by decide +kernel
theorem dX5_sieve_12 : decode cX5_sieve 12 = .ok (.getfield 19, 3) := by decide +kernel
theorem dX5_sieve_15 : decode cX5_sieve 15 = .ok (.aload_n 0, 1) := by decide +kernel
theorem dX5_sieve_16 : decode cX5_sieve 16 = .ok (.getfield 10, 3) := by decide +kernel
theorem dX5_sieve_19 : decode cX5_sieve 19 = .ok (.invokevirtual 55, 3) := by decide +kernel
theorem dX5_sieve_22 : decode cX5_sieve 22 = .ok (.iconst 0, 1) := by decide +kernel
theorem dX5_sieve_23 : decode cX5_sieve 23 = .ok (.istore 5, 2) := by decide +kernel
theorem dX5_sieve_25 : decode cX5_sieve 25 = .ok (.iconst 0, 1) := by decide +kernel
theorem dX5_sieve_26 : decode cX5_sieve 26 = .ok (.istore 6, 2) := by decide +kernel
theorem dX5_sieve_28 : decode cX5_sieve 28 = .ok (.iload 6, 2) := by decide +kernel
theorem dX5_sieve_30 : decode cX5_sieve 30 = .ok (.aload 4, 2) := by decide +kernel
theorem dX5_sieve_32 : decode cX5_sieve 32 = .ok (.invokevirtual 63, 3) := by decide +kernel
theorem dX5_sieve_35 : decode cX5_sieve 35 = .ok (.if_icmp .ge 40, 3) := by decide +kernel
theorem dX5_sieve_38 : decode cX5_sieve 38 = .ok (.aload 4, 2) := by decide +kernel
theorem dX5_sieve_40 : decode cX5_sieve 40 = .ok (.iload 6, 2) := by decide +kernel
theorem dX5_sieve_42 : decode cX5_sieve 42 = .ok (.invokevirtual 75, 3) := by decide +kernel
theorem dX5_sieve_45 : decode cX5_sieve 45 = .ok (.istore 7, 2) := by decide +kernel
theorem dX5_sieve_47 : decode cX5_sieve 47 = .ok (.iload 7, 2) := by decide +kernel
theorem dX5_sieve_49 : decode cX5_sieve 49 = .ok (.iload_n 2, 1) := by decide +kernel
theorem dX5_sieve_50 : decode cX5_sieve 50 = .ok (.invokestatic 96, 3) := by decide +kernel
theorem dX5_sieve_53 : decode cX5_sieve 53 = .ok (.iload_n 3, 1) := by decide +kernel
theorem dX5_sieve_54 : decode cX5_sieve 54 = .ok (.if_icmp .ne 15, 3) := by decide +kernel
theorem dX5_sieve_57 : decode cX5_sieve 57 = .ok (.aload 4, 2) := by decide +kernel
theorem dX5_sieve_59 : decode cX5_sieve 59 = .ok (.iload 5, 2) := by decide +kernel
theorem dX5_sieve_61 : decode cX5_sieve 61 = .ok (.iload 7, 2) := by decide +kernel
theorem dX5_sieve_63 : decode cX5_sieve 63 = .ok (.invokevirtual 86, 3) := by decide +kernel
theorem dX5_sieve_66 : decode cX5_sieve 66 = .ok (.iinc 5 1, 3) := by decide +kernel
theorem dX5_sieve_69 : decode cX5_sieve 69 = .ok (.iinc 6 1, 3) := by decide +kernel
theorem dX5_sieve_72 : decode cX5_sieve 72 = .ok (.goto (-44), 3) := by decide +kernel
theorem dX5_sieve_75 : decode cX5_sieve 75 = .ok (.aload 4, 2) := by decide +kernel
theorem dX5_sieve_77 : decode cX5_sieve 77 = .ok (.invokevirtual 63, 3) := by decide +kernel
theorem dX5_sieve_80 : decode cX5_sieve 80 = .ok (.iload 5, 2) := by decide +kernel
theorem dX5_sieve_82 : decode cX5_sieve 82 = .ok (.isub, 1) := by decide +kernel
theorem dX5_sieve_83 : decode cX5_sieve 83 = .ok (.istore 6, 2) := by decide +kernel
theorem dX5_sieve_85 : decode cX5_sieve 85 = .ok (.aload 4, 2) := by decide +kernel
theorem dX5_sieve_87 : decode cX5_sieve 87 = .ok (.iload 6, 2) := by decide +kernel
theorem dX5_sieve_89 : decode cX5_sieve 89 = .ok (.invokevirtual 100, 3) := by decide +kernel
theorem dX5_sieve_92 : decode cX5_sieve 92 = .ok (.iload 6, 2) := by decide +kernel
theorem dX5_sieve_94 : decode cX5_sieve 94 = .ok (.ireturn, 1) := by decide +kernel
theorem dX5_strip_0 : decode cX5_strip 0 = .ok (.aload_n 0, 1) := by decide +kernel
theorem dX5_strip_1 : decode cX5_strip 1 = .ok (.iload_n 1, 1) := by decide +kernel
theorem dX5_strip_2 : decode cX5_strip 2 = .ok (.invokevirtual 36, 3) := by decide +kernel
theorem dX5_strip_5 : decode cX5_strip 5 = .ok (.astore_n 2, 1) := by decide +kernel
theorem dX5_strip_6 : decode cX5_strip 6 = .ok (.aload_n 0, 1) := by decide +kernel
theorem dX5_strip_7 : decode cX5_strip 7 = .ok (.getfield 19, 3) := by decide +kernel
theorem dX5_strip_10 : decode cX5_strip 10 = .ok (.aload_n 0, 1) := by decide +kernel
theorem dX5_strip_11 : decode cX5_strip 11 = .ok (.getfield 10, 3) := by decide +kernel
theorem dX5_strip_14 : decode cX5_strip 14 = .ok (.invokevirtual 55, 3) := by decide +kernel
theorem dX5_strip_17 : decode cX5_strip 17 = .ok (.aload_n 2, 1) := by decide +kernel
theorem dX5_strip_18 : decode cX5_strip 18 = .ok (.invokevirtual 63, 3) := by decide +kernel
theorem dX5_strip_21 : decode cX5_strip 21 = .ok (.istore_n 3, 1) := by decide +kernel
theorem dX5_strip_22 : decode cX5_strip 22 = .ok (.iconst 0, 1) := by decide +kernel
theorem dX5_strip_23 : decode cX5_strip 23 = .ok (.istore 4, 2) := by decide +kernel
theorem dX5_strip_25 : decode cX5_strip 25 = .ok (.iload 4, 2) := by decide +kernel
theorem dX5_strip_27 : decode cX5_strip 27 = .ok (.iload_n 3, 1) := by decide +kernel
theorem dX5_strip_28 : decode cX5_strip 28 = .ok (.if_icmp .ge 22, 3) := by decide +kernel
theorem dX5_strip_31 : decode cX5_strip 31 = .ok (.aload_n 2, 1) := by decide +kernel
theorem dX5_strip_32 : decode cX5_strip 32 = .ok (.iload 4, 2) := by decide +kernel
theorem dX5_strip_34 : decode cX5_strip 34 = .ok (.invokevirtual 75, 3) := by decide +kernel
theorem dX5_strip_37 : decode cX5_strip 37 = .ok (.iconst 3, 1) := by decide +kernel
theorem dX5_strip_38 : decode cX5_strip 38 = .ok (.invokestatic 96, 3) := by decide +kernel
theorem dX5_strip_41 : decode cX5_strip 41 = .ok (.ifCond .eq 9, 3) := by decide +kernel
theorem dX5_strip_44 : decode cX5_strip 44 = .ok (.iinc 4 1, 3) := by decide +kernel
theorem dX5_strip_47 : decode cX5_strip 47 = .ok (.goto (-22), 3) := by decide +kernel
theorem dX5_strip_50 : decode cX5_strip 50 = .ok (.iload_n 3, 1) := by decide +kernel
theorem dX5_strip_51 : decode cX5_strip 51 = .ok (.istore 5, 2) := by decide +kernel
theorem dX5_strip_53 : decode cX5_strip 53 = .ok (.iload 5, 2) := by decide +kernel
theorem dX5_strip_55 : decode cX5_strip 55 = .ok (.iload 4, 2) := by decide +kernel
theorem dX5_strip_57 : decode cX5_strip 57 = .ok (.if_icmp .le 24, 3) := by decide +kernel
theorem dX5_strip_60 : decode cX5_strip 60 = .ok (.aload_n 2, 1) := by decide +kernel
theorem dX5_strip_61 : decode cX5_strip 61 = .ok (.iload 5, 2) := by decide +kernel
theorem dX5_strip_63 : decode cX5_strip 63 = .ok (.iconst 1, 1) := by decide +kernel
theorem dX5_strip_64 : decode cX5_strip 64 = .ok (.isub, 1) := by decide +kernel
theorem dX5_strip_65 : decode cX5_strip 65 = .ok (.invokevirtual 75, 3) := by decide +kernel
theorem dX5_strip_68 : decode cX5_strip 68 = .ok (.iconst 3, 1) := by decide +kernel
theorem dX5_strip_69 : decode cX5_strip 69 = .ok (.invokestatic 96, 3) := by decide +kernel
theorem dX5_strip_72 : decode cX5_strip 72 = .ok (.ifCond .eq 9, 3) := by decide +kernel
theorem dX5_strip_75 : decode cX5_strip 75 = .ok (.iinc 5 (-1), 3) := by decide +kernel
theorem dX5_strip_78 : decode cX5_strip 78 = .ok (.goto (-25), 3) := by decide +kernel
theorem dX5_strip_81 : decode cX5_strip 81 = .ok (.aload_n 2, 1) := by decide +kernel
theorem dX5_strip_82 : decode cX5_strip 82 = .ok (.iload 4, 2) := by decide +kernel
theorem dX5_strip_84 : decode cX5_strip 84 = .ok (.iload 5, 2) := by decide +kernel
theorem dX5_strip_86 : decode cX5_strip 86 = .ok (.invokevirtual 103, 3) := by decide +kernel
theorem dX5_strip_89 : decode cX5_strip 89 = .ok (.iload_n 3, 1) := by decide +kernel
theorem dX5_strip_90 : decode cX5_strip 90 = .ok (.aload_n 2, 1) := by decide +kernel
theorem dX5_strip_91 : decode cX5_strip 91 = .ok (.invokevirtual 63, 3) := by decide +kernel
theorem dX5_strip_94 : decode cX5_strip 94 = .ok (.isub, 1) := by decide +kernel
theorem dX5_strip_95 : decode cX5_strip 95 = .ok (.ireturn, 1) := by decide +kernel
theorem dX5_turn_0 : decode cX5_turn 0 = .ok (.aload_n 0, 1) := by decide +kernel
theorem dX5_turn_1 : decode cX5_turn 1 = .ok (.iload_n 1, 1) := by decide +kernel
theorem dX5_turn_2 : decode cX5_turn 2 = .ok (.invokevirtual 36, 3) := by decide +kernel
theorem dX5_turn_5 : decode cX5_turn 5 = .ok (.astore_n 2, 1) := by decide +kernel
theorem dX5_turn_6 : decode cX5_turn 6 = .ok (.aload_n 0, 1) := by decide +kernel
theorem dX5_turn_7 : decode cX5_turn 7 = .ok (.getfield 19, 3) := by decide +kernel
theorem dX5_turn_10 : decode cX5_turn 10 = .ok (.aload_n 0, 1) := by decide +kernel
theorem dX5_turn_11 : decode cX5_turn 11 = .ok (.getfield 10, 3) := by decide +kernel
theorem dX5_turn_14 : decode cX5_turn 14 = .ok (.invokevirtual 55, 3) := by decide +kernel
theorem dX5_turn_17 : decode cX5_turn 17 = .ok (.aload_n 2, 1) := by decide +kernel
theorem dX5_turn_18 : decode cX5_turn 18 = .ok (.invokevirtual 106, 3) := by decide +kernel
theorem dX5_turn_21 : decode cX5_turn 21 = .ok (.aload_n 2, 1) := by decide +kernel
theorem dX5_turn_22 : decode cX5_turn 22 = .ok (.invokevirtual 63, 3) := by decide +kernel
theorem dX5_turn_25 : decode cX5_turn 25 = .ok (.ireturn, 1) := by decide +kernel
theorem dX5_write_0 : decode cX5_write 0 = .ok (.aload_n 0, 1) := by decide +kernel
theorem dX5_write_1 : decode cX5_write 1 = .ok (.iload_n 1, 1) := by decide +kernel
theorem dX5_write_2 : decode cX5_write 2 = .ok (.invokevirtual 36, 3) := by decide +kernel
theorem dX5_write_5 : decode cX5_write 5 = .ok (.astore 4, 2) := by decide +kernel
theorem dX5_write_7 : decode cX5_write 7 = .ok (.iload_n 2, 1) := by decide +kernel
theorem dX5_write_8 : decode cX5_write 8 = .ok (.ifCond .lt 9, 3) := by decide +kernel
theorem dX5_write_11 : decode cX5_write 11 = .ok (.iload_n 2, 1) := by decide +kernel
theorem dX5_write_12 : decode cX5_write 12 = .ok (.ldc 109, 2) := by decide +kernel
theorem dX5_write_14 : decode cX5_write 14 = .ok (.if_icmp .le 13, 3) := by decide +kernel
theorem dX5_write_17 : decode cX5_write 17 = .ok (.new 110, 3) := by decide +kernel
theorem dX5_write_20 : decode cX5_write 20 = .ok (.dup, 1) := by decide +kernel
theorem dX5_write_21 : decode cX5_write 21 = .ok (.ldc 112, 2) := by decide +kernel
theorem dX5_write_23 : decode cX5_write 23 = .ok (.invokespecial 114, 3) := by decide +kernel
theorem dX5_write_26 : decode cX5_write 26 = .ok (.athrow, 1) := by decide +kernel
theorem dX5_write_27 : decode cX5_write 27 = .ok (.iload_n 3, 1) := by decide +kernel
theorem dX5_write_28 : decode cX5_write 28 = .ok (.invokestatic 115, 3) := by decide +kernel
theorem dX5_write_31 : decode cX5_write 31 = .ok (.iload_n 2, 1) := by decide +kernel
theorem dX5_write_32 : decode cX5_write 32 = .ok (.iload_n 3, 1) := by decide +kernel
theorem dX5_write_33 : decode cX5_write 33 = .ok (.invokestatic 118, 3) := by decide +kernel
theorem dX5_write_36 : decode cX5_write 36 = .ok (.istore 5, 2) := by decide +kernel
theorem dX5_write_38 : decode cX5_write 38 = .ok (.aload 4, 2) := by decide +kernel
theorem dX5_write_40 : decode cX5_write 40 = .ok (.iload 5, 2) := by decide +kernel
theorem dX5_write_42 : decode cX5_write 42 = .ok (.invokevirtual 44, 3) := by decide +kernel
theorem dX5_write_45 : decode cX5_write 45 = .ok (.ifCond .ne 6, 3) := by decide +kernel
theorem dX5_write_48 : decode cX5_write 48 = .ok (.bipush (-9), 2) := by decide +kernel
theorem dX5_write_50 : decode cX5_write 50 = .ok (.ireturn, 1) := by decide +kernel
theorem dX5_write_51 : decode cX5_write 51 = .ok (.aload_n 0, 1) := by decide +kernel
theorem dX5_write_52 : decode cX5_write 52 = .ok (.getfield 19, 3) := by decide +kernel
theorem dX5_write_55 : decode cX5_write 55 = .ok (.aload_n 0, 1) := by decide +kernel
theorem dX5_write_56 : decode cX5_write 56 = .ok (.getfield 10, 3) := by decide +kernel
theorem dX5_write_59 : decode cX5_write 59 = .ok (.invokevirtual 55, 3) := by decide +kernel
theorem dX5_write_62 : decode cX5_write 62 = .ok (.iload 5, 2) := by decide +kernel
theorem dX5_write_64 : decode cX5_write 64 = .ok (.iconst 1, 1) := by decide +kernel
theorem dX5_write_65 : decode cX5_write 65 = .ok (.isub, 1) := by decide +kernel
theorem dX5_write_66 : decode cX5_write 66 = .ok (.istore 6, 2) := by decide +kernel
theorem dX5_write_68 : decode cX5_write 68 = .ok (.iload 6, 2) := by decide +kernel
theorem dX5_write_70 : decode cX5_write 70 = .ok (.ifCond .lt 25, 3) := by decide +kernel
theorem dX5_write_73 : decode cX5_write 73 = .ok (.aload 4, 2) := by decide +kernel
theorem dX5_write_75 : decode cX5_write 75 = .ok (.iload_n 2, 1) := by decide +kernel
theorem dX5_write_76 : decode cX5_write 76 = .ok (.iload_n 3, 1) := by decide +kernel
theorem dX5_write_77 : decode cX5_write 77 = .ok (.iload 6, 2) := by decide +kernel
theorem dX5_write_79 : decode cX5_write 79 = .ok (.invokestatic 122, 3) := by decide +kernel
theorem dX5_write_82 : decode cX5_write 82 = .ok (.iload_n 3, 1) := by decide +kernel
theorem dX5_write_83 : decode cX5_write 83 = .ok (.invokestatic 126, 3) := by decide +kernel
theorem dX5_write_86 : decode cX5_write 86 = .ok (.invokevirtual 129, 3) := by decide +kernel
theorem dX5_write_89 : decode cX5_write 89 = .ok (.iinc 6 (-1), 3) := by decide +kernel
theorem dX5_write_92 : decode cX5_write 92 = .ok (.goto (-24), 3) := by decide +kernel
theorem dX5_write_95 : decode cX5_write 95 = .ok (.iload 5, 2) := by decide +kernel
theorem dX5_write_97 : decode cX5_write 97 = .ok (.ireturn, 1) := by decide +kernel
theorem dX5_spell_0 : decode cX5_spell 0 = .ok (.aload_n 0, 1) := by decide +kernel
theorem dX5_spell_1 : decode cX5_spell 1 = .ok (.iload_n 1, 1) := by decide +kernel
theorem dX5_spell_2 : decode cX5_spell 2 = .ok (.invokevirtual 36, 3) := by decide +kernel
theorem dX5_spell_5 : decode cX5_spell 5 = .ok (.astore_n 3, 1) := by decide +kernel
theorem dX5_spell_6 : decode cX5_spell 6 = .ok (.aload_n 0, 1) := by decide +kernel
theorem dX5_spell_7 : decode cX5_spell 7 = .ok (.iload_n 2, 1) := by decide +kernel
theorem dX5_spell_8 : decode cX5_spell 8 = .ok (.invokevirtual 36, 3) := by decide +kernel
theorem dX5_spell_11 : decode cX5_spell 11 = .ok (.astore 4, 2) := by decide +kernel
theorem dX5_spell_13 : decode cX5_spell 13 = .ok (.iload_n 1, 1) := by decide +kernel
theorem dX5_spell_14 : decode cX5_spell 14 = .ok (.iload_n 2, 1) := by decide +kernel
theorem dX5_spell_15 : decode cX5_spell 15 = .ok (.invokestatic 132, 3) := by decide +kernel
theorem dX5_spell_18 : decode cX5_spell 18 = .ok (.aload_n 3, 1) := by decide +kernel
theorem dX5_spell_19 : decode cX5_spell 19 = .ok (.invokevirtual 63, 3) := by decide +kernel
theorem dX5_spell_22 : decode cX5_spell 22 = .ok (.iconst 2, 1) := by decide +kernel
theorem dX5_spell_23 : decode cX5_spell 23 = .ok (.imul, 1) := by decide +kernel
theorem dX5_spell_24 : decode cX5_spell 24 = .ok (.bipush 40, 2) := by decide +kernel
theorem dX5_spell_26 : decode cX5_spell 26 = .ok (.if_icmp .le 6, 3) := by decide +kernel
theorem dX5_spell_29 : decode cX5_spell 29 = .ok (.bipush (-9), 2) := by decide +kernel
theorem dX5_spell_31 : decode cX5_spell 31 = .ok (.ireturn, 1) := by decide +kernel
theorem dX5_spell_32 : decode cX5_spell 32 = .ok (.aload_n 0, 1) := by decide +kernel
theorem dX5_spell_33 : decode cX5_spell 33 = .ok (.getfield 19, 3) := by decide +kernel
theorem dX5_spell_36 : decode cX5_spell 36 = .ok (.aload_n 0, 1) := by decide +kernel
theorem dX5_spell_37 : decode cX5_spell 37 = .ok (.getfield 10, 3) := by decide +kernel
theorem dX5_spell_40 : decode cX5_spell 40 = .ok (.invokevirtual 55, 3) := by decide +kernel
theorem dX5_spell_43 : decode cX5_spell 43 = .ok (.aload 4, 2) := by decide +kernel
theorem dX5_spell_45 : decode cX5_spell 45 = .ok (.invokevirtual 135, 3) := by decide +kernel
theorem dX5_spell_48 : decode cX5_spell 48 = .ok (.iconst 0, 1) := by decide +kernel
theorem dX5_spell_49 : decode cX5_spell 49 = .ok (.istore 5, 2) := by decide +kernel
theorem dX5_spell_51 : decode cX5_spell 51 = .ok (.iload 5, 2) := by decide +kernel
theorem dX5_spell_53 : decode cX5_spell 53 = .ok (.aload_n 3, 1) := by decide +kernel
theorem dX5_spell_54 : decode cX5_spell 54 = .ok (.invokevirtual 63, 3) := by decide +kernel
theorem dX5_spell_57 : decode cX5_spell 57 = .ok (.if_icmp .ge 37, 3) := by decide +kernel
theorem dX5_spell_60 : decode cX5_spell 60 = .ok (.aload 4, 2) := by decide +kernel
theorem dX5_spell_62 : decode cX5_spell 62 = .ok (.aload_n 3, 1) := by decide +kernel
theorem dX5_spell_63 : decode cX5_spell 63 = .ok (.iload 5, 2) := by decide +kernel
theorem dX5_spell_65 : decode cX5_spell 65 = .ok (.invokevirtual 75, 3) := by decide +kernel
theorem dX5_spell_68 : decode cX5_spell 68 = .ok (.invokestatic 138, 3) := by decide +kernel
theorem dX5_spell_71 : decode cX5_spell 71 = .ok (.invokevirtual 129, 3) := by decide +kernel
theorem dX5_spell_74 : decode cX5_spell 74 = .ok (.aload 4, 2) := by decide +kernel
theorem dX5_spell_76 : decode cX5_spell 76 = .ok (.aload_n 3, 1) := by decide +kernel
theorem dX5_spell_77 : decode cX5_spell 77 = .ok (.iload 5, 2) := by decide +kernel
theorem dX5_spell_79 : decode cX5_spell 79 = .ok (.invokevirtual 75, 3) := by decide +kernel
theorem dX5_spell_82 : decode cX5_spell 82 = .ok (.invokestatic 141, 3) := by decide +kernel
theorem dX5_spell_85 : decode cX5_spell 85 = .ok (.invokevirtual 129, 3) := by decide +kernel
theorem dX5_spell_88 : decode cX5_spell 88 = .ok (.iinc 5 1, 3) := by decide +kernel
theorem dX5_spell_91 : decode cX5_spell 91 = .ok (.goto (-40), 3) := by decide +kernel
theorem dX5_spell_94 : decode cX5_spell 94 = .ok (.aload 4, 2) := by decide +kernel
theorem dX5_spell_96 : decode cX5_spell 96 = .ok (.invokevirtual 63, 3) := by decide +kernel
theorem dX5_spell_99 : decode cX5_spell 99 = .ok (.ireturn, 1) := by decide +kernel
theorem dX5_read_0 : decode cX5_read 0 = .ok (.aload_n 0, 1) := by decide +kernel
theorem dX5_read_1 : decode cX5_read 1 = .ok (.iload_n 1, 1) := by decide +kernel
theorem dX5_read_2 : decode cX5_read 2 = .ok (.invokevirtual 36, 3) := by decide +kernel
theorem dX5_read_5 : decode cX5_read 5 = .ok (.astore_n 3, 1) := by decide +kernel
theorem dX5_read_6 : decode cX5_read 6 = .ok (.aload_n 0, 1) := by decide +kernel
theorem dX5_read_7 : decode cX5_read 7 = .ok (.iload_n 2, 1) := by decide +kernel
theorem dX5_read_8 : decode cX5_read 8 = .ok (.invokevirtual 36, 3) := by decide +kernel
theorem dX5_read_11 : decode cX5_read 11 = .ok (.astore 4, 2) := by decide +kernel
theorem dX5_read_13 : decode cX5_read 13 = .ok (.iload_n 1, 1) := by decide +kernel
theorem dX5_read_14 : decode cX5_read 14 = .ok (.iload_n 2, 1) := by decide +kernel
theorem dX5_read_15 : decode cX5_read 15 = .ok (.invokestatic 132, 3) := by decide +kernel
theorem dX5_read_18 : decode cX5_read 18 = .ok (.aload_n 3, 1) := by decide +kernel
theorem dX5_read_19 : decode cX5_read 19 = .ok (.invokestatic 144, 3) := by decide +kernel
theorem dX5_read_22 : decode cX5_read 22 = .ok (.ifCond .ne 6, 3) := by decide +kernel
theorem dX5_read_25 : decode cX5_read 25 = .ok (.bipush (-9), 2) := by decide +kernel
theorem dX5_read_27 : decode cX5_read 27 = .ok (.ireturn, 1) := by decide +kernel
theorem dX5_read_28 : decode cX5_read 28 = .ok (.aload_n 0, 1) := by decide +kernel
theorem dX5_read_29 : decode cX5_read 29 = .ok (.getfield 19, 3) := by decide +kernel
theorem dX5_read_32 : decode cX5_read 32 = .ok (.aload_n 0, 1) := by decide +kernel
theorem dX5_read_33 : decode cX5_read 33 = .ok (.getfield 10, 3) := by decide +kernel
theorem dX5_read_36 : decode cX5_read 36 = .ok (.invokevirtual 55, 3) := by decide +kernel
theorem dX5_read_39 : decode cX5_read 39 = .ok (.aload 4, 2) := by decide +kernel
theorem dX5_read_41 : decode cX5_read 41 = .ok (.invokevirtual 135, 3) := by decide +kernel
theorem dX5_read_44 : decode cX5_read 44 = .ok (.iconst 0, 1) := by decide +kernel
theorem dX5_read_45 : decode cX5_read 45 = .ok (.istore 5, 2) := by decide +kernel
theorem dX5_read_47 : decode cX5_read 47 = .ok (.iload 5, 2) := by decide +kernel
theorem dX5_read_49 : decode cX5_read 49 = .ok (.iconst 1, 1) := by decide +kernel
theorem dX5_read_50 : decode cX5_read 50 = .ok (.iadd, 1) := by decide +kernel
theorem dX5_read_51 : decode cX5_read 51 = .ok (.aload_n 3, 1) := by decide +kernel
theorem dX5_read_52 : decode cX5_read 52 = .ok (.invokevirtual 63, 3) := by decide +kernel
theorem dX5_read_55 : decode cX5_read 55 = .ok (.if_icmp .ge 50, 3) := by decide +kernel
theorem dX5_read_58 : decode cX5_read 58 = .ok (.aload_n 3, 1) := by decide +kernel
theorem dX5_read_59 : decode cX5_read 59 = .ok (.iload 5, 2) := by decide +kernel
theorem dX5_read_61 : decode cX5_read 61 = .ok (.invokevirtual 75, 3) := by decide +kernel
theorem dX5_read_64 : decode cX5_read 64 = .ok (.bipush 16, 2) := by decide +kernel
theorem dX5_read_66 : decode cX5_read 66 = .ok (.invokestatic 148, 3) := by decide +kernel
theorem dX5_read_69 : decode cX5_read 69 = .ok (.istore 6, 2) := by decide +kernel
theorem dX5_read_71 : decode cX5_read 71 = .ok (.aload_n 3, 1) := by decide +kernel
theorem dX5_read_72 : decode cX5_read 72 = .ok (.iload 5, 2) := by decide +kernel
theorem dX5_read_74 : decode cX5_read 74 = .ok (.iconst 1, 1) := by decide +kernel
theorem dX5_read_75 : decode cX5_read 75 = .ok (.iadd, 1) := by decide +kernel
theorem dX5_read_76 : decode cX5_read 76 = .ok (.invokevirtual 75, 3) := by decide +kernel
theorem dX5_read_79 : decode cX5_read 79 = .ok (.bipush 16, 2) := by decide +kernel
theorem dX5_read_81 : decode cX5_read 81 = .ok (.invokestatic 148, 3) := by decide +kernel
theorem dX5_read_84 : decode cX5_read 84 = .ok (.istore 7, 2) := by decide +kernel
theorem dX5_read_86 : decode cX5_read 86 = .ok (.aload 4, 2) := by decide +kernel
theorem dX5_read_88 : decode cX5_read 88 = .ok (.iload 6, 2) := by decide +kernel
theorem dX5_read_90 : decode cX5_read 90 = .ok (.bipush 16, 2) := by decide +kernel
theorem dX5_read_92 : decode cX5_read 92 = .ok (.imul, 1) := by decide +kernel
theorem dX5_read_93 : decode cX5_read 93 = .ok (.iload 7, 2) := by decide +kernel
theorem dX5_read_95 : decode cX5_read 95 = .ok (.iadd, 1) := by decide +kernel
theorem dX5_read_96 : decode cX5_read 96 = .ok (.invokevirtual 129, 3) := by decide +kernel
theorem dX5_read_99 : decode cX5_read 99 = .ok (.iinc 5 2, 3) := by decide +kernel
theorem dX5_read_102 : decode cX5_read 102 = .ok (.goto (-55), 3) := by decide +kernel
theorem dX5_read_105 : decode cX5_read 105 = .ok (.aload 4, 2) := by decide +kernel
theorem dX5_read_107 : decode cX5_read 107 = .ok (.invokevirtual 63, 3) := by decide +kernel
theorem dX5_read_110 : decode cX5_read 110 = .ok (.ireturn, 1) := by decide +kernel
theorem dX5_send_0 : decode cX5_send 0 = .ok (.aload_n 0, 1) := by decide +kernel
theorem dX5_send_1 : decode cX5_send 1 = .ok (.iload_n 1, 1) := by decide +kernel
theorem dX5_send_2 : decode cX5_send 2 = .ok (.invokevirtual 151, 3) := by decide +kernel
theorem dX5_send_5 : decode cX5_send 5 = .ok (.astore_n 3, 1) := by decide +kernel
theorem dX5_send_6 : decode cX5_send 6 = .ok (.iload_n 2, 1) := by decide +kernel
theorem dX5_send_7 : decode cX5_send 7 = .ok (.invokestatic 154, 3) := by decide +kernel
theorem dX5_send_10 : decode cX5_send 10 = .ok (.ifCond .ne 13, 3) := by decide +kernel
theorem dX5_send_13 : decode cX5_send 13 = .ok (.new 110, 3) := by decide +kernel
theorem dX5_send_16 : decode cX5_send 16 = .ok (.dup, 1) := by decide +kernel
theorem dX5_send_17 : decode cX5_send 17 = .ok (.ldc 159, 2) := by decide +kernel
theorem dX5_send_19 : decode cX5_send 19 = .ok (.invokespecial 114, 3) := by decide +kernel
theorem dX5_send_22 : decode cX5_send 22 = .ok (.athrow, 1) := by decide +kernel
theorem dX5_send_23 : decode cX5_send 23 = .ok (.aload_n 3, 1) := by decide +kernel
theorem dX5_send_24 : decode cX5_send 24 = .ok (.iload_n 2, 1) := by decide +kernel
theorem dX5_send_25 : decode cX5_send 25 = .ok (.invokestatic 161, 3) := by decide +kernel
theorem dX5_send_28 : decode cX5_send 28 = .ok (.invokevirtual 44, 3) := by decide +kernel
theorem dX5_send_31 : decode cX5_send 31 = .ok (.ifCond .ne 6, 3) := by decide +kernel
theorem dX5_send_34 : decode cX5_send 34 = .ok (.bipush (-9), 2) := by decide +kernel
theorem dX5_send_36 : decode cX5_send 36 = .ok (.ireturn, 1) := by decide +kernel
theorem dX5_send_37 : decode cX5_send 37 = .ok (.aload_n 0, 1) := by decide +kernel
theorem dX5_send_38 : decode cX5_send 38 = .ok (.getfield 19, 3) := by decide +kernel
theorem dX5_send_41 : decode cX5_send 41 = .ok (.aload_n 0, 1) := by decide +kernel
theorem dX5_send_42 : decode cX5_send 42 = .ok (.getfield 10, 3) := by decide +kernel
theorem dX5_send_45 : decode cX5_send 45 = .ok (.invokevirtual 55, 3) := by decide +kernel
theorem dX5_send_48 : decode cX5_send 48 = .ok (.aload_n 3, 1) := by decide +kernel
theorem dX5_send_49 : decode cX5_send 49 = .ok (.iload_n 2, 1) := by decide +kernel
theorem dX5_send_50 : decode cX5_send 50 = .ok (.invokestatic 164, 3) := by decide +kernel
theorem dX5_send_53 : decode cX5_send 53 = .ok (.aload_n 3, 1) := by decide +kernel
theorem dX5_send_54 : decode cX5_send 54 = .ok (.invokevirtual 63, 3) := by decide +kernel
theorem dX5_send_57 : decode cX5_send 57 = .ok (.ireturn, 1) := by decide +kernel
theorem dX5_put_0 : decode cX5_put 0 = .ok (.aload_n 0, 1) := by decide +kernel
theorem dX5_put_1 : decode cX5_put 1 = .ok (.iload_n 1, 1) := by decide +kernel
theorem dX5_put_2 : decode cX5_put 2 = .ok (.invokevirtual 151, 3) := by decide +kernel
theorem dX5_put_5 : decode cX5_put 5 = .ok (.astore_n 3, 1) := by decide +kernel
theorem dX5_put_6 : decode cX5_put 6 = .ok (.iload_n 2, 1) := by decide +kernel
theorem dX5_put_7 : decode cX5_put 7 = .ok (.invokestatic 167, 3) := by decide +kernel
theorem dX5_put_10 : decode cX5_put 10 = .ok (.aload_n 3, 1) := by decide +kernel
theorem dX5_put_11 : decode cX5_put 11 = .ok (.iconst 1, 1) := by decide +kernel
theorem dX5_put_12 : decode cX5_put 12 = .ok (.invokevirtual 44, 3) := by decide +kernel
theorem dX5_put_15 : decode cX5_put 15 = .ok (.ifCond .ne 6, 3) := by decide +kernel
theorem dX5_put_18 : decode cX5_put 18 = .ok (.bipush (-9), 2) := by decide +kernel
theorem dX5_put_20 : decode cX5_put 20 = .ok (.ireturn, 1) := by decide +kernel
theorem dX5_put_21 : decode cX5_put 21 = .ok (.aload_n 0, 1) := by decide +kernel
theorem dX5_put_22 : decode cX5_put 22 = .ok (.getfield 19, 3) := by decide +kernel
theorem dX5_put_25 : decode cX5_put 25 = .ok (.aload_n 0, 1) := by decide +kernel
theorem dX5_put_26 : decode cX5_put 26 = .ok (.getfield 10, 3) := by decide +kernel
theorem dX5_put_29 : decode cX5_put 29 = .ok (.invokevirtual 55, 3) := by decide +kernel
theorem dX5_put_32 : decode cX5_put 32 = .ok (.aload_n 3, 1) := by decide +kernel
theorem dX5_put_33 : decode cX5_put 33 = .ok (.iload_n 2, 1) := by decide +kernel
theorem dX5_put_34 : decode cX5_put 34 = .ok (.invokevirtual 129, 3) := by decide +kernel
theorem dX5_put_37 : decode cX5_put 37 = .ok (.aload_n 3, 1) := by decide +kernel
theorem dX5_put_38 : decode cX5_put 38 = .ok (.invokevirtual 63, 3) := by decide +kernel
theorem dX5_put_41 : decode cX5_put 41 = .ok (.ireturn, 1) := by decide +kernel
theorem dX5_cut_0 : decode cX5_cut 0 = .ok (.aload_n 0, 1) := by decide +kernel
theorem dX5_cut_1 : decode cX5_cut 1 = .ok (.aload_n 0, 1) := by decide +kernel
theorem dX5_cut_2 : decode cX5_cut 2 = .ok (.iload_n 1, 1) := by decide +kernel
theorem dX5_cut_3 : decode cX5_cut 3 = .ok (.invokevirtual 151, 3) := by decide +kernel
theorem dX5_cut_6 : decode cX5_cut 6 = .ok (.iload_n 2, 1) := by decide +kernel
theorem dX5_cut_7 : decode cX5_cut 7 = .ok (.invokevirtual 67, 3) := by decide +kernel
theorem dX5_cut_10 : decode cX5_cut 10 = .ok (.ireturn, 1) := by decide +kernel
theorem dX5_flip_0 : decode cX5_flip 0 = .ok (.aload_n 0, 1) := by decide +kernel
theorem dX5_flip_1 : decode cX5_flip 1 = .ok (.iload_n 1, 1) := by decide +kernel
theorem dX5_flip_2 : decode cX5_flip 2 = .ok (.invokevirtual 151, 3) := by decide +kernel
theorem dX5_flip_5 : decode cX5_flip 5 = .ok (.astore_n 2, 1) := by decide +kernel
theorem dX5_flip_6 : decode cX5_flip 6 = .ok (.aload_n 0, 1) := by decide +kernel
theorem dX5_flip_7 : decode cX5_flip 7 = .ok (.getfield 19, 3) := by decide +kernel
theorem dX5_flip_10 : decode cX5_flip 10 = .ok (.aload_n 0, 1) := by decide +kernel
theorem dX5_flip_11 : decode cX5_flip 11 = .ok (.getfield 10, 3) := by decide +kernel
theorem dX5_flip_14 : decode cX5_flip 14 = .ok (.invokevirtual 55, 3) := by decide +kernel
theorem dX5_flip_17 : decode cX5_flip 17 = .ok (.iconst 0, 1) := by decide +kernel
theorem dX5_flip_18 : decode cX5_flip 18 = .ok (.istore_n 3, 1) := by decide +kernel
theorem dX5_flip_19 : decode cX5_flip 19 = .ok (.iconst 0, 1) := by decide +kernel
theorem dX5_flip_20 : decode cX5_flip 20 = .ok (.istore 4, 2) := by decide +kernel
theorem dX5_flip_22 : decode cX5_flip 22 = .ok (.iload 4, 2) := by decide +kernel
theorem dX5_flip_24 : decode cX5_flip 24 = .ok (.aload_n 2, 1) := by decide +kernel
theorem dX5_flip_25 : decode cX5_flip 25 = .ok (.invokevirtual 63, 3) := by decide +kernel
theorem dX5_flip_28 : decode cX5_flip 28 = .ok (.if_icmp .ge 39, 3) := by decide +kernel
theorem dX5_flip_31 : decode cX5_flip 31 = .ok (.aload_n 2, 1) := by decide +kernel
theorem dX5_flip_32 : decode cX5_flip 32 = .ok (.iload 4, 2) := by decide +kernel
theorem dX5_flip_34 : decode cX5_flip 34 = .ok (.invokevirtual 75, 3) := by decide +kernel
theorem dX5_flip_37 : decode cX5_flip 37 = .ok (.invokestatic 170, 3) := by decide +kernel
theorem dX5_flip_40 : decode cX5_flip 40 = .ok (.istore 5, 2) := by decide +kernel
theorem dX5_flip_42 : decode cX5_flip 42 = .ok (.aload_n 2, 1) := by decide +kernel
theorem dX5_flip_43 : decode cX5_flip 43 = .ok (.iload 4, 2) := by decide +kernel
theorem dX5_flip_45 : decode cX5_flip 45 = .ok (.iload 5, 2) := by decide +kernel
theorem dX5_flip_47 : decode cX5_flip 47 = .ok (.invokevirtual 86, 3) := by decide +kernel
theorem dX5_flip_50 : decode cX5_flip 50 = .ok (.iload 5, 2) := by decide +kernel
theorem dX5_flip_52 : decode cX5_flip 52 = .ok (.invokestatic 173, 3) := by decide +kernel
theorem dX5_flip_55 : decode cX5_flip 55 = .ok (.ifCond .eq 6, 3) := by decide +kernel
theorem dX5_flip_58 : decode cX5_flip 58 = .ok (.iinc 3 1, 3) := by decide +kernel
theorem dX5_flip_61 : decode cX5_flip 61 = .ok (.iinc 4 1, 3) := by decide +kernel
theorem dX5_flip_64 : decode cX5_flip 64 = .ok (.goto (-42), 3) := by decide +kernel
theorem dX5_flip_67 : decode cX5_flip 67 = .ok (.iload_n 3, 1) := by decide +kernel
theorem dX5_flip_68 : decode cX5_flip 68 = .ok (.ireturn, 1) := by decide +kernel
theorem dX5_reverse_0 : decode cX5_reverse 0 = .ok (.aload_n 0, 1) := by decide +kernel
theorem dX5_reverse_1 : decode cX5_reverse 1 = .ok (.iload_n 1, 1) := by decide +kernel
theorem dX5_reverse_2 : decode cX5_reverse 2 = .ok (.invokevirtual 151, 3) := by decide +kernel
theorem dX5_reverse_5 : decode cX5_reverse 5 = .ok (.astore_n 2, 1) := by decide +kernel
theorem dX5_reverse_6 : decode cX5_reverse 6 = .ok (.aload_n 0, 1) := by decide +kernel
theorem dX5_reverse_7 : decode cX5_reverse 7 = .ok (.getfield 19, 3) := by decide +kernel
theorem dX5_reverse_10 : decode cX5_reverse 10 = .ok (.aload_n 0, 1) := by decide +kernel
theorem dX5_reverse_11 : decode cX5_reverse 11 = .ok (.getfield 10, 3) := by decide +kernel
theorem dX5_reverse_14 : decode cX5_reverse 14 = .ok (.invokevirtual 55, 3) := by decide +kernel
theorem dX5_reverse_17 : decode cX5_reverse 17 = .ok (.aload_n 2, 1) := by decide +kernel
theorem dX5_reverse_18 : decode cX5_reverse 18 = .ok (.aload_n 0, 1) := by decide +kernel
theorem dX5_reverse_19 : decode cX5_reverse 19 = .ok (.getfield 28, 3) := by decide +kernel
theorem dX5_reverse_22 : decode cX5_reverse 22 = .ok (.invokestatic 176, 3) := by decide +kernel
theorem dX5_reverse_25 : decode cX5_reverse 25 = .ok (.aload_n 2, 1) := by decide +kernel
theorem dX5_reverse_26 : decode cX5_reverse 26 = .ok (.invokevirtual 135, 3) := by decide +kernel
theorem dX5_reverse_29 : decode cX5_reverse 29 = .ok (.aload_n 0, 1) := by decide +kernel
theorem dX5_reverse_30 : decode cX5_reverse 30 = .ok (.getfield 28, 3) := by decide +kernel
theorem dX5_reverse_33 : decode cX5_reverse 33 = .ok (.invokevirtual 63, 3) := by decide +kernel
theorem dX5_reverse_36 : decode cX5_reverse 36 = .ok (.iconst 1, 1) := by decide +kernel
theorem dX5_reverse_37 : decode cX5_reverse 37 = .ok (.isub, 1) := by decide +kernel
theorem dX5_reverse_38 : decode cX5_reverse 38 = .ok (.istore_n 3, 1) := by decide +kernel
theorem dX5_reverse_39 : decode cX5_reverse 39 = .ok (.iload_n 3, 1) := by decide +kernel
theorem dX5_reverse_40 : decode cX5_reverse 40 = .ok (.ifCond .lt 21, 3) := by decide +kernel
theorem dX5_reverse_43 : decode cX5_reverse 43 = .ok (.aload_n 2, 1) := by decide +kernel
theorem dX5_reverse_44 : decode cX5_reverse 44 = .ok (.aload_n 0, 1) := by decide +kernel
theorem dX5_reverse_45 : decode cX5_reverse 45 = .ok (.getfield 28, 3) := by decide +kernel
theorem dX5_reverse_48 : decode cX5_reverse 48 = .ok (.iload_n 3, 1) := by decide +kernel
theorem dX5_reverse_49 : decode cX5_reverse 49 = .ok (.invokevirtual 75, 3) := by decide +kernel
theorem dX5_reverse_52 : decode cX5_reverse 52 = .ok (.invokestatic 164, 3) := by decide +kernel
theorem dX5_reverse_55 : decode cX5_reverse 55 = .ok (.iinc 3 (-1), 3) := by decide +kernel
theorem dX5_reverse_58 : decode cX5_reverse 58 = .ok (.goto (-19), 3) := by decide +kernel
theorem dX5_reverse_61 : decode cX5_reverse 61 = .ok (.aload_n 2, 1) := by decide +kernel
theorem dX5_reverse_62 : decode cX5_reverse 62 = .ok (.iconst 1, 1) := by decide +kernel
theorem dX5_reverse_63 : decode cX5_reverse 63 = .ok (.invokestatic 180, 3) := by decide +kernel
theorem dX5_reverse_66 : decode cX5_reverse 66 = .ok (.ireturn, 1) := by decide +kernel
theorem dX5_undo_0 : decode cX5_undo 0 = .ok (.aload_n 0, 1) := by decide +kernel
theorem dX5_undo_1 : decode cX5_undo 1 = .ok (.getfield 19, 3) := by decide +kernel
theorem dX5_undo_4 : decode cX5_undo 4 = .ok (.invokevirtual 183, 3) := by decide +kernel
theorem dX5_undo_7 : decode cX5_undo 7 = .ok (.ifCond .ne 13, 3) := by decide +kernel
theorem dX5_undo_10 : decode cX5_undo 10 = .ok (.new 48, 3) := by decide +kernel
theorem dX5_undo_13 : decode cX5_undo 13 = .ok (.dup, 1) := by decide +kernel
theorem dX5_undo_14 : decode cX5_undo 14 = .ok (.ldc 184, 2) := by decide +kernel
theorem dX5_undo_16 : decode cX5_undo 16 = .ok (.invokespecial 52, 3) := by decide +kernel
theorem dX5_undo_19 : decode cX5_undo 19 = .ok (.athrow, 1) := by decide +kernel
theorem dX5_undo_20 : decode cX5_undo 20 = .ok (.aload_n 0, 1) := by decide +kernel
theorem dX5_undo_21 : decode cX5_undo 21 = .ok (.getfield 19, 3) := by decide +kernel
theorem dX5_undo_24 : decode cX5_undo 24 = .ok (.aload_n 0, 1) := by decide +kernel
theorem dX5_undo_25 : decode cX5_undo 25 = .ok (.getfield 10, 3) := by decide +kernel
theorem dX5_undo_28 : decode cX5_undo 28 = .ok (.invokevirtual 186, 3) := by decide +kernel
theorem dX5_undo_31 : decode cX5_undo 31 = .ok (.aload_n 0, 1) := by decide +kernel
theorem dX5_undo_32 : decode cX5_undo 32 = .ok (.getfield 19, 3) := by decide +kernel
theorem dX5_undo_35 : decode cX5_undo 35 = .ok (.invokevirtual 183, 3) := by decide +kernel
theorem dX5_undo_38 : decode cX5_undo 38 = .ok (.ireturn, 1) := by decide +kernel
theorem dX5_knock_0 : decode cX5_knock 0 = .ok (.aload_n 0, 1) := by decide +kernel
theorem dX5_knock_1 : decode cX5_knock 1 = .ok (.dup, 1) := by decide +kernel
theorem dX5_knock_2 : decode cX5_knock 2 = .ok (.getfield 32, 3) := by decide +kernel
theorem dX5_knock_5 : decode cX5_knock 5 = .ok (.iconst 1, 1) := by decide +kernel
theorem dX5_knock_6 : decode cX5_knock 6 = .ok (.iadd, 1) := by decide +kernel
theorem dX5_knock_7 : decode cX5_knock 7 = .ok (.putfield 32, 3) := by decide +kernel
theorem dX5_knock_10 : decode cX5_knock 10 = .ok (.aload_n 0, 1) := by decide +kernel
theorem dX5_knock_11 : decode cX5_knock 11 = .ok (.getfield 32, 3) := by decide +kernel
theorem dX5_knock_14 : decode cX5_knock 14 = .ok (.ireturn, 1) := by decide +kernel
theorem dX5_isDigit_0 : decode cX5_isDigit 0 = .ok (.iload_n 1, 1) := by decide +kernel
theorem dX5_isDigit_1 : decode cX5_isDigit 1 = .ok (.invokestatic 189, 3) := by decide +kernel
theorem dX5_isDigit_4 : decode cX5_isDigit 4 = .ok (.iload_n 1, 1) := by decide +kernel
theorem dX5_isDigit_5 : decode cX5_isDigit 5 = .ok (.iconst 0, 1) := by decide +kernel
theorem dX5_isDigit_6 : decode cX5_isDigit 6 = .ok (.invokestatic 96, 3) := by decide +kernel
theorem dX5_isDigit_9 : decode cX5_isDigit 9 = .ok (.ireturn, 1) := by decide +kernel
theorem dX5_isLetter_0 : decode cX5_isLetter 0 = .ok (.iload_n 1, 1) := by decide +kernel
theorem dX5_isLetter_1 : decode cX5_isLetter 1 = .ok (.invokestatic 189, 3) := by decide +kernel
theorem dX5_isLetter_4 : decode cX5_isLetter 4 = .ok (.iload_n 1, 1) := by decide +kernel
theorem dX5_isLetter_5 : decode cX5_isLetter 5 = .ok (.iconst 1, 1) := by decide +kernel
theorem dX5_isLetter_6 : decode cX5_isLetter 6 = .ok (.invokestatic 96, 3) := by decide +kernel
theorem dX5_isLetter_9 : decode cX5_isLetter 9 = .ok (.ireturn, 1) := by decide +kernel
theorem dX5_isLetterOrDigit_0 : decode cX5_isLetterOrDigit 0 = .ok (.iload_n 1, 1) := by decide +kernel
theorem dX5_isLetterOrDigit_1 : decode cX5_isLetterOrDigit 1 = .ok (.invokestatic 189, 3) := by decide +kernel
theorem dX5_isLetterOrDigit_4 : decode cX5_isLetterOrDigit 4 = .ok (.iload_n 1, 1) := by decide +kernel
theorem dX5_isLetterOrDigit_5 : decode cX5_isLetterOrDigit 5 = .ok (.iconst 2, 1) := by decide +kernel
theorem dX5_isLetterOrDigit_6 : decode cX5_isLetterOrDigit 6 = .ok (.invokestatic 96, 3) := by decide +kernel
theorem dX5_isLetterOrDigit_9 : decode cX5_isLetterOrDigit 9 = .ok (.ireturn, 1) := by decide +kernel
theorem dX5_isWhite_0 : decode cX5_isWhite 0 = .ok (.iload_n 1, 1) := by decide +kernel
theorem dX5_isWhite_1 : decode cX5_isWhite 1 = .ok (.invokestatic 189, 3) := by decide +kernel
theorem dX5_isWhite_4 : decode cX5_isWhite 4 = .ok (.iload_n 1, 1) := by decide +kernel
theorem dX5_isWhite_5 : decode cX5_isWhite 5 = .ok (.iconst 3, 1) := by decide +kernel
theorem dX5_isWhite_6 : decode cX5_isWhite 6 = .ok (.invokestatic 96, 3) := by decide +kernel
theorem dX5_isWhite_9 : decode cX5_isWhite 9 = .ok (.ireturn, 1) := by decide +kernel
theorem dX5_isGreat_0 : decode cX5_isGreat 0 = .ok (.iload_n 1, 1) := by decide +kernel
theorem dX5_isGreat_1 : decode cX5_isGreat 1 = .ok (.invokestatic 189, 3) := by decide +kernel
theorem dX5_isGreat_4 : decode cX5_isGreat 4 = .ok (.iload_n 1, 1) := by decide +kernel
theorem dX5_isGreat_5 : decode cX5_isGreat 5 = .ok (.iconst 4, 1) := by decide +kernel
theorem dX5_isGreat_6 : decode cX5_isGreat 6 = .ok (.invokestatic 96, 3) := by decide +kernel
theorem dX5_isGreat_9 : decode cX5_isGreat 9 = .ok (.ireturn, 1) := by decide +kernel
theorem dX5_kinds_0 : decode cX5_kinds 0 = .ok (.iload_n 1, 1) := by decide +kernel
theorem dX5_kinds_1 : decode cX5_kinds 1 = .ok (.invokestatic 189, 3) := by decide +kernel
theorem dX5_kinds_4 : decode cX5_kinds 4 = .ok (.iload_n 1, 1) := by decide +kernel
theorem dX5_kinds_5 : decode cX5_kinds 5 = .ok (.invokestatic 192, 3) := by decide +kernel
theorem dX5_kinds_8 : decode cX5_kinds 8 = .ok (.ireturn, 1) := by decide +kernel
theorem dX5_upper_0 : decode cX5_upper 0 = .ok (.iload_n 1, 1) := by decide +kernel
theorem dX5_upper_1 : decode cX5_upper 1 = .ok (.invokestatic 189, 3) := by decide +kernel
theorem dX5_upper_4 : decode cX5_upper 4 = .ok (.iload_n 1, 1) := by decide +kernel
theorem dX5_upper_5 : decode cX5_upper 5 = .ok (.invokestatic 78, 3) := by decide +kernel
theorem dX5_upper_8 : decode cX5_upper 8 = .ok (.ireturn, 1) := by decide +kernel
theorem dX5_lower_0 : decode cX5_lower 0 = .ok (.iload_n 1, 1) := by decide +kernel
theorem dX5_lower_1 : decode cX5_lower 1 = .ok (.invokestatic 189, 3) := by decide +kernel
theorem dX5_lower_4 : decode cX5_lower 4 = .ok (.iload_n 1, 1) := by decide +kernel
theorem dX5_lower_5 : decode cX5_lower 5 = .ok (.invokestatic 90, 3) := by decide +kernel
theorem dX5_lower_8 : decode cX5_lower 8 = .ok (.ireturn, 1) := by decide +kernel
theorem dX5_value_0 : decode cX5_value 0 = .ok (.iload_n 1, 1) := by decide +kernel
theorem dX5_value_1 : decode cX5_value 1 = .ok (.invokestatic 189, 3) := by decide +kernel
theorem dX5_value_4 : decode cX5_value 4 = .ok (.iload_n 1, 1) := by decide +kernel
theorem dX5_value_5 : decode cX5_value 5 = .ok (.invokestatic 195, 3) := by decide +kernel
theorem dX5_value_8 : decode cX5_value 8 = .ok (.ireturn, 1) := by decide +kernel
theorem dX5_number_0 : decode cX5_number 0 = .ok (.iload_n 1, 1) := by decide +kernel
theorem dX5_number_1 : decode cX5_number 1 = .ok (.invokestatic 189, 3) := by decide +kernel
theorem dX5_number_4 : decode cX5_number 4 = .ok (.iload_n 1, 1) := by decide +kernel
theorem dX5_number_5 : decode cX5_number 5 = .ok (.iload_n 2, 1) := by decide +kernel
theorem dX5_number_6 : decode cX5_number 6 = .ok (.invokestatic 148, 3) := by decide +kernel
theorem dX5_number_9 : decode cX5_number 9 = .ok (.ireturn, 1) := by decide +kernel
theorem dX5_digit_0 : decode cX5_digit 0 = .ok (.iload_n 1, 1) := by decide +kernel
theorem dX5_digit_1 : decode cX5_digit 1 = .ok (.iload_n 2, 1) := by decide +kernel
theorem dX5_digit_2 : decode cX5_digit 2 = .ok (.invokestatic 126, 3) := by decide +kernel
theorem dX5_digit_5 : decode cX5_digit 5 = .ok (.ireturn, 1) := by decide +kernel
theorem dX5_length_0 : decode cX5_length 0 = .ok (.aload_n 0, 1) := by decide +kernel
theorem dX5_length_1 : decode cX5_length 1 = .ok (.iload_n 1, 1) := by decide +kernel
theorem dX5_length_2 : decode cX5_length 2 = .ok (.invokevirtual 36, 3) := by decide +kernel
theorem dX5_length_5 : decode cX5_length 5 = .ok (.invokevirtual 63, 3) := by decide +kernel
theorem dX5_length_8 : decode cX5_length 8 = .ok (.ireturn, 1) := by decide +kernel
theorem dX5_at_0 : decode cX5_at 0 = .ok (.aload_n 0, 1) := by decide +kernel
theorem dX5_at_1 : decode cX5_at 1 = .ok (.iload_n 1, 1) := by decide +kernel
theorem dX5_at_2 : decode cX5_at 2 = .ok (.invokevirtual 36, 3) := by decide +kernel
theorem dX5_at_5 : decode cX5_at 5 = .ok (.iload_n 2, 1) := by decide +kernel
theorem dX5_at_6 : decode cX5_at 6 = .ok (.invokestatic 198, 3) := by decide +kernel
theorem dX5_at_9 : decode cX5_at 9 = .ok (.ireturn, 1) := by decide +kernel
theorem dX5_count_0 : decode cX5_count 0 = .ok (.aload_n 0, 1) := by decide +kernel
theorem dX5_count_1 : decode cX5_count 1 = .ok (.iload_n 1, 1) := by decide +kernel
theorem dX5_count_2 : decode cX5_count 2 = .ok (.invokevirtual 36, 3) := by decide +kernel
theorem dX5_count_5 : decode cX5_count 5 = .ok (.astore_n 3, 1) := by decide +kernel
theorem dX5_count_6 : decode cX5_count 6 = .ok (.iload_n 2, 1) := by decide +kernel
theorem dX5_count_7 : decode cX5_count 7 = .ok (.invokestatic 93, 3) := by decide +kernel
theorem dX5_count_10 : decode cX5_count 10 = .ok (.iconst 0, 1) := by decide +kernel
theorem dX5_count_11 : decode cX5_count 11 = .ok (.istore 4, 2) := by decide +kernel
theorem dX5_count_13 : decode cX5_count 13 = .ok (.iconst 0, 1) := by decide +kernel
theorem dX5_count_14 : decode cX5_count 14 = .ok (.istore 5, 2) := by decide +kernel
theorem dX5_count_16 : decode cX5_count 16 = .ok (.iload 5, 2) := by decide +kernel
theorem dX5_count_18 : decode cX5_count 18 = .ok (.aload_n 3, 1) := by decide +kernel
theorem dX5_count_19 : decode cX5_count 19 = .ok (.invokevirtual 63, 3) := by decide +kernel
theorem dX5_count_22 : decode cX5_count 22 = .ok (.if_icmp .ge 25, 3) := by decide +kernel
theorem dX5_count_25 : decode cX5_count 25 = .ok (.aload_n 3, 1) := by decide +kernel
theorem dX5_count_26 : decode cX5_count 26 = .ok (.iload 5, 2) := by decide +kernel
theorem dX5_count_28 : decode cX5_count 28 = .ok (.invokevirtual 75, 3) := by decide +kernel
theorem dX5_count_31 : decode cX5_count 31 = .ok (.iload_n 2, 1) := by decide +kernel
theorem dX5_count_32 : decode cX5_count 32 = .ok (.invokestatic 96, 3) := by decide +kernel
theorem dX5_count_35 : decode cX5_count 35 = .ok (.ifCond .eq 6, 3) := by decide +kernel
theorem dX5_count_38 : decode cX5_count 38 = .ok (.iinc 4 1, 3) := by decide +kernel
theorem dX5_count_41 : decode cX5_count 41 = .ok (.iinc 5 1, 3) := by decide +kernel
theorem dX5_count_44 : decode cX5_count 44 = .ok (.goto (-28), 3) := by decide +kernel
theorem dX5_count_47 : decode cX5_count 47 = .ok (.iload 4, 2) := by decide +kernel
theorem dX5_count_49 : decode cX5_count 49 = .ok (.ireturn, 1) := by decide +kernel
theorem dX5_first_0 : decode cX5_first 0 = .ok (.aload_n 0, 1) := by decide +kernel
theorem dX5_first_1 : decode cX5_first 1 = .ok (.iload_n 1, 1) := by decide +kernel
theorem dX5_first_2 : decode cX5_first 2 = .ok (.invokevirtual 36, 3) := by decide +kernel
theorem dX5_first_5 : decode cX5_first 5 = .ok (.astore 4, 2) := by decide +kernel
theorem dX5_first_7 : decode cX5_first 7 = .ok (.iload_n 2, 1) := by decide +kernel
theorem dX5_first_8 : decode cX5_first 8 = .ok (.invokestatic 93, 3) := by decide +kernel
theorem dX5_first_11 : decode cX5_first 11 = .ok (.iload_n 3, 1) := by decide +kernel
theorem dX5_first_12 : decode cX5_first 12 = .ok (.ifCond .ge 13, 3) := by decide +kernel
theorem dX5_first_15 : decode cX5_first 15 = .ok (.new 110, 3) := by decide +kernel
theorem dX5_first_18 : decode cX5_first 18 = .ok (.dup, 1) := by decide +kernel
theorem dX5_first_19 : decode cX5_first 19 = .ok (.ldc 201, 2) := by decide +kernel
theorem dX5_first_21 : decode cX5_first 21 = .ok (.invokespecial 114, 3) := by decide +kernel
theorem dX5_first_24 : decode cX5_first 24 = .ok (.athrow, 1) := by decide +kernel
theorem dX5_first_25 : decode cX5_first 25 = .ok (.iload_n 3, 1) := by decide +kernel
theorem dX5_first_26 : decode cX5_first 26 = .ok (.istore 5, 2) := by decide +kernel
theorem dX5_first_28 : decode cX5_first 28 = .ok (.iload 5, 2) := by decide +kernel
theorem dX5_first_30 : decode cX5_first 30 = .ok (.aload 4, 2) := by decide +kernel
theorem dX5_first_32 : decode cX5_first 32 = .ok (.invokevirtual 63, 3) := by decide +kernel
theorem dX5_first_35 : decode cX5_first 35 = .ok (.if_icmp .ge 26, 3) := by decide +kernel
theorem dX5_first_38 : decode cX5_first 38 = .ok (.aload 4, 2) := by decide +kernel
theorem dX5_first_40 : decode cX5_first 40 = .ok (.iload 5, 2) := by decide +kernel
theorem dX5_first_42 : decode cX5_first 42 = .ok (.invokevirtual 75, 3) := by decide +kernel
theorem dX5_first_45 : decode cX5_first 45 = .ok (.iload_n 2, 1) := by decide +kernel
theorem dX5_first_46 : decode cX5_first 46 = .ok (.invokestatic 96, 3) := by decide +kernel
theorem dX5_first_49 : decode cX5_first 49 = .ok (.ifCond .eq 6, 3) := by decide +kernel
theorem dX5_first_52 : decode cX5_first 52 = .ok (.iload 5, 2) := by decide +kernel
theorem dX5_first_54 : decode cX5_first 54 = .ok (.ireturn, 1) := by decide +kernel
theorem dX5_first_55 : decode cX5_first 55 = .ok (.iinc 5 1, 3) := by decide +kernel
theorem dX5_first_58 : decode cX5_first 58 = .ok (.goto (-30), 3) := by decide +kernel
theorem dX5_first_61 : decode cX5_first 61 = .ok (.iconst (-1), 1) := by decide +kernel
theorem dX5_first_62 : decode cX5_first 62 = .ok (.ireturn, 1) := by decide +kernel
theorem dX5_last_0 : decode cX5_last 0 = .ok (.aload_n 0, 1) := by decide +kernel
theorem dX5_last_1 : decode cX5_last 1 = .ok (.iload_n 1, 1) := by decide +kernel
theorem dX5_last_2 : decode cX5_last 2 = .ok (.invokevirtual 36, 3) := by decide +kernel
theorem dX5_last_5 : decode cX5_last 5 = .ok (.astore_n 3, 1) := by decide +kernel
theorem dX5_last_6 : decode cX5_last 6 = .ok (.iload_n 2, 1) := by decide +kernel
theorem dX5_last_7 : decode cX5_last 7 = .ok (.invokestatic 93, 3) := by decide +kernel
theorem dX5_last_10 : decode cX5_last 10 = .ok (.aload_n 3, 1) := by decide +kernel
theorem dX5_last_11 : decode cX5_last 11 = .ok (.invokevirtual 63, 3) := by decide +kernel
theorem dX5_last_14 : decode cX5_last 14 = .ok (.iconst 1, 1) := by decide +kernel
theorem dX5_last_15 : decode cX5_last 15 = .ok (.isub, 1) := by decide +kernel
theorem dX5_last_16 : decode cX5_last 16 = .ok (.istore 4, 2) := by decide +kernel
theorem dX5_last_18 : decode cX5_last 18 = .ok (.iload 4, 2) := by decide +kernel
theorem dX5_last_20 : decode cX5_last 20 = .ok (.ifCond .lt 25, 3) := by decide +kernel
theorem dX5_last_23 : decode cX5_last 23 = .ok (.aload_n 3, 1) := by decide +kernel
theorem dX5_last_24 : decode cX5_last 24 = .ok (.iload 4, 2) := by decide +kernel
theorem dX5_last_26 : decode cX5_last 26 = .ok (.invokevirtual 75, 3) := by decide +kernel
theorem dX5_last_29 : decode cX5_last 29 = .ok (.iload_n 2, 1) := by decide +kernel
theorem dX5_last_30 : decode cX5_last 30 = .ok (.invokestatic 96, 3) := by decide +kernel
theorem dX5_last_33 : decode cX5_last 33 = .ok (.ifCond .eq 6, 3) := by decide +kernel
theorem dX5_last_36 : decode cX5_last 36 = .ok (.iload 4, 2) := by decide +kernel
theorem dX5_last_38 : decode cX5_last 38 = .ok (.ireturn, 1) := by decide +kernel
theorem dX5_last_39 : decode cX5_last 39 = .ok (.iinc 4 (-1), 3) := by decide +kernel
theorem dX5_last_42 : decode cX5_last 42 = .ok (.goto (-24), 3) := by decide +kernel
theorem dX5_last_45 : decode cX5_last 45 = .ok (.iconst (-1), 1) := by decide +kernel
theorem dX5_last_46 : decode cX5_last 46 = .ok (.ireturn, 1) := by decide +kernel
theorem dX5_forms_0 : decode cX5_forms 0 = .ok (.aload_n 0, 1) := by decide +kernel
theorem dX5_forms_1 : decode cX5_forms 1 = .ok (.iload_n 1, 1) := by decide +kernel
theorem dX5_forms_2 : decode cX5_forms 2 = .ok (.invokevirtual 36, 3) := by decide +kernel
theorem dX5_forms_5 : decode cX5_forms 5 = .ok (.astore_n 2, 1) := by decide +kernel
theorem dX5_forms_6 : decode cX5_forms 6 = .ok (.new 203, 3) := by decide +kernel
theorem dX5_forms_9 : decode cX5_forms 9 = .ok (.dup, 1) := by decide +kernel
theorem dX5_forms_10 : decode cX5_forms 10 = .ok (.invokespecial 205, 3) := by decide +kernel
theorem dX5_forms_13 : decode cX5_forms 13 = .ok (.astore_n 3, 1) := by decide +kernel
theorem dX5_forms_14 : decode cX5_forms 14 = .ok (.iconst 0, 1) := by decide +kernel
theorem dX5_forms_15 : decode cX5_forms 15 = .ok (.istore 4, 2) := by decide +kernel
theorem dX5_forms_17 : decode cX5_forms 17 = .ok (.iload 4, 2) := by decide +kernel
theorem dX5_forms_19 : decode cX5_forms 19 = .ok (.aload_n 2, 1) := by decide +kernel
theorem dX5_forms_20 : decode cX5_forms 20 = .ok (.invokevirtual 63, 3) := by decide +kernel
theorem dX5_forms_23 : decode cX5_forms 23 = .ok (.if_icmp .ge 23, 3) := by decide +kernel
theorem dX5_forms_26 : decode cX5_forms 26 = .ok (.aload_n 3, 1) := by decide +kernel
theorem dX5_forms_27 : decode cX5_forms 27 = .ok (.aload_n 2, 1) := by decide +kernel
theorem dX5_forms_28 : decode cX5_forms 28 = .ok (.iload 4, 2) := by decide +kernel
theorem dX5_forms_30 : decode cX5_forms 30 = .ok (.invokevirtual 75, 3) := by decide +kernel
theorem dX5_forms_33 : decode cX5_forms 33 = .ok (.invokestatic 206, 3) := by decide +kernel
theorem dX5_forms_36 : decode cX5_forms 36 = .ok (.invokevirtual 210, 3) := by decide +kernel
theorem dX5_forms_39 : decode cX5_forms 39 = .ok (.pop, 1) := by decide +kernel
theorem dX5_forms_40 : decode cX5_forms 40 = .ok (.iinc 4 1, 3) := by decide +kernel
theorem dX5_forms_43 : decode cX5_forms 43 = .ok (.goto (-26), 3) := by decide +kernel
theorem dX5_forms_46 : decode cX5_forms 46 = .ok (.aload_n 3, 1) := by decide +kernel
theorem dX5_forms_47 : decode cX5_forms 47 = .ok (.invokevirtual 214, 3) := by decide +kernel
theorem dX5_forms_50 : decode cX5_forms 50 = .ok (.areturn, 1) := by decide +kernel
theorem dX5_spelled_0 : decode cX5_spelled 0 = .ok (.aload_n 0, 1) := by decide +kernel
theorem dX5_spelled_1 : decode cX5_spelled 1 = .ok (.iload_n 1, 1) := by decide +kernel
theorem dX5_spelled_2 : decode cX5_spelled 2 = .ok (.invokevirtual 36, 3) := by decide +kernel
theorem dX5_spelled_5 : decode cX5_spelled 5 = .ok (.astore_n 2, 1) := by decide +kernel
theorem dX5_spelled_6 : decode cX5_spelled 6 = .ok (.new 203, 3) := by decide +kernel
theorem dX5_spelled_9 : decode cX5_spelled 9 = .ok (.dup, 1) := by decide +kernel
theorem dX5_spelled_10 : decode cX5_spelled 10 = .ok (.invokespecial 205, 3) := by decide +kernel
theorem dX5_spelled_13 : decode cX5_spelled 13 = .ok (.astore_n 3, 1) := by decide +kernel
theorem dX5_spelled_14 : decode cX5_spelled 14 = .ok (.iconst 0, 1) := by decide +kernel
theorem dX5_spelled_15 : decode cX5_spelled 15 = .ok (.istore 4, 2) := by decide +kernel
theorem dX5_spelled_17 : decode cX5_spelled 17 = .ok (.iload 4, 2) := by decide +kernel
theorem dX5_spelled_19 : decode cX5_spelled 19 = .ok (.aload_n 2, 1) := by decide +kernel
theorem dX5_spelled_20 : decode cX5_spelled 20 = .ok (.invokevirtual 63, 3) := by decide +kernel
theorem dX5_spelled_23 : decode cX5_spelled 23 = .ok (.if_icmp .ge 39, 3) := by decide +kernel
theorem dX5_spelled_26 : decode cX5_spelled 26 = .ok (.aload_n 3, 1) := by decide +kernel
theorem dX5_spelled_27 : decode cX5_spelled 27 = .ok (.aload_n 2, 1) := by decide +kernel
theorem dX5_spelled_28 : decode cX5_spelled 28 = .ok (.iload 4, 2) := by decide +kernel
theorem dX5_spelled_30 : decode cX5_spelled 30 = .ok (.invokevirtual 75, 3) := by decide +kernel
theorem dX5_spelled_33 : decode cX5_spelled 33 = .ok (.invokestatic 138, 3) := by decide +kernel
theorem dX5_spelled_36 : decode cX5_spelled 36 = .ok (.i2c, 1) := by decide +kernel
theorem dX5_spelled_37 : decode cX5_spelled 37 = .ok (.invokevirtual 210, 3) := by decide +kernel
theorem dX5_spelled_40 : decode cX5_spelled 40 = .ok (.pop, 1) := by decide +kernel
theorem dX5_spelled_41 : decode cX5_spelled 41 = .ok (.aload_n 3, 1) := by decide +kernel
theorem dX5_spelled_42 : decode cX5_spelled 42 = .ok (.aload_n 2, 1) := by decide +kernel
theorem dX5_spelled_43 : decode cX5_spelled 43 = .ok (.iload 4, 2) := by decide +kernel
theorem dX5_spelled_45 : decode cX5_spelled 45 = .ok (.invokevirtual 75, 3) := by decide +kernel
theorem dX5_spelled_48 : decode cX5_spelled 48 = .ok (.invokestatic 141, 3) := by decide +kernel
theorem dX5_spelled_51 : decode cX5_spelled 51 = .ok (.i2c, 1) := by decide +kernel
theorem dX5_spelled_52 : decode cX5_spelled 52 = .ok (.invokevirtual 210, 3) := by decide +kernel
theorem dX5_spelled_55 : decode cX5_spelled 55 = .ok (.pop, 1) := by decide +kernel
theorem dX5_spelled_56 : decode cX5_spelled 56 = .ok (.iinc 4 1, 3) := by decide +kernel
theorem dX5_spelled_59 : decode cX5_spelled 59 = .ok (.goto (-42), 3) := by decide +kernel
theorem dX5_spelled_62 : decode cX5_spelled 62 = .ok (.aload_n 3, 1) := by decide +kernel
theorem dX5_spelled_63 : decode cX5_spelled 63 = .ok (.invokevirtual 214, 3) := by decide +kernel
theorem dX5_spelled_66 : decode cX5_spelled 66 = .ok (.areturn, 1) := by decide +kernel
theorem dX5_told_0 : decode cX5_told 0 = .ok (.aload_n 0, 1) := by decide +kernel
theorem dX5_told_1 : decode cX5_told 1 = .ok (.iload_n 1, 1) := by decide +kernel
theorem dX5_told_2 : decode cX5_told 2 = .ok (.invokevirtual 36, 3) := by decide +kernel
theorem dX5_told_5 : decode cX5_told 5 = .ok (.astore_n 3, 1) := by decide +kernel
theorem dX5_told_6 : decode cX5_told 6 = .ok (.iload_n 2, 1) := by decide +kernel
theorem dX5_told_7 : decode cX5_told 7 = .ok (.invokestatic 115, 3) := by decide +kernel
theorem dX5_told_10 : decode cX5_told 10 = .ok (.aload_n 3, 1) := by decide +kernel
theorem dX5_told_11 : decode cX5_told 11 = .ok (.invokevirtual 63, 3) := by decide +kernel
theorem dX5_told_14 : decode cX5_told 14 = .ok (.ifCond .ne 6, 3) := by decide +kernel
theorem dX5_told_17 : decode cX5_told 17 = .ok (.bipush (-9), 2) := by decide +kernel
theorem dX5_told_19 : decode cX5_told 19 = .ok (.ireturn, 1) := by decide +kernel
theorem dX5_told_20 : decode cX5_told 20 = .ok (.iconst 0, 1) := by decide +kernel
theorem dX5_told_21 : decode cX5_told 21 = .ok (.istore 4, 2) := by decide +kernel
theorem dX5_told_23 : decode cX5_told 23 = .ok (.iconst 0, 1) := by decide +kernel
theorem dX5_told_24 : decode cX5_told 24 = .ok (.istore 5, 2) := by decide +kernel
theorem dX5_told_26 : decode cX5_told 26 = .ok (.iload 5, 2) := by decide +kernel
theorem dX5_told_28 : decode cX5_told 28 = .ok (.aload_n 3, 1) := by decide +kernel
theorem dX5_told_29 : decode cX5_told 29 = .ok (.invokevirtual 63, 3) := by decide +kernel
theorem dX5_told_32 : decode cX5_told 32 = .ok (.if_icmp .ge 42, 3) := by decide +kernel
theorem dX5_told_35 : decode cX5_told 35 = .ok (.aload_n 3, 1) := by decide +kernel
theorem dX5_told_36 : decode cX5_told 36 = .ok (.iload 5, 2) := by decide +kernel
theorem dX5_told_38 : decode cX5_told 38 = .ok (.invokevirtual 75, 3) := by decide +kernel
theorem dX5_told_41 : decode cX5_told 41 = .ok (.iload_n 2, 1) := by decide +kernel
theorem dX5_told_42 : decode cX5_told 42 = .ok (.invokestatic 148, 3) := by decide +kernel
theorem dX5_told_45 : decode cX5_told 45 = .ok (.istore 6, 2) := by decide +kernel
theorem dX5_told_47 : decode cX5_told 47 = .ok (.iload 6, 2) := by decide +kernel
theorem dX5_told_49 : decode cX5_told 49 = .ok (.iconst (-1), 1) := by decide +kernel
theorem dX5_told_50 : decode cX5_told 50 = .ok (.if_icmp .ne 6, 3) := by decide +kernel
theorem dX5_told_53 : decode cX5_told 53 = .ok (.bipush (-9), 2) := by decide +kernel
theorem dX5_told_55 : decode cX5_told 55 = .ok (.ireturn, 1) := by decide +kernel
theorem dX5_told_56 : decode cX5_told 56 = .ok (.iload 4, 2) := by decide +kernel
theorem dX5_told_58 : decode cX5_told 58 = .ok (.iload_n 2, 1) := by decide +kernel
theorem dX5_told_59 : decode cX5_told 59 = .ok (.imul, 1) := by decide +kernel
theorem dX5_told_60 : decode cX5_told 60 = .ok (.iload 6, 2) := by decide +kernel
theorem dX5_told_62 : decode cX5_told 62 = .ok (.iadd, 1) := by decide +kernel
theorem dX5_told_63 : decode cX5_told 63 = .ok (.ldc 218, 2) := by decide +kernel
theorem dX5_told_65 : decode cX5_told 65 = .ok (.irem, 1) := by decide +kernel
theorem dX5_told_66 : decode cX5_told 66 = .ok (.istore 4, 2) := by decide +kernel
theorem dX5_told_68 : decode cX5_told 68 = .ok (.iinc 5 1, 3) := by decide +kernel
theorem dX5_told_71 : decode cX5_told 71 = .ok (.goto (-45), 3) := by decide +kernel
theorem dX5_told_74 : decode cX5_told 74 = .ok (.iload 4, 2) := by decide +kernel
theorem dX5_told_76 : decode cX5_told 76 = .ok (.ireturn, 1) := by decide +kernel
theorem dX5_sum_0 : decode cX5_sum 0 = .ok (.aload_n 0, 1) := by decide +kernel
theorem dX5_sum_1 : decode cX5_sum 1 = .ok (.iload_n 1, 1) := by decide +kernel
theorem dX5_sum_2 : decode cX5_sum 2 = .ok (.invokevirtual 36, 3) := by decide +kernel
theorem dX5_sum_5 : decode cX5_sum 5 = .ok (.astore_n 3, 1) := by decide +kernel
theorem dX5_sum_6 : decode cX5_sum 6 = .ok (.iconst 0, 1) := by decide +kernel
theorem dX5_sum_7 : decode cX5_sum 7 = .ok (.istore 4, 2) := by decide +kernel
theorem dX5_sum_9 : decode cX5_sum 9 = .ok (.iconst 0, 1) := by decide +kernel
theorem dX5_sum_10 : decode cX5_sum 10 = .ok (.istore 5, 2) := by decide +kernel
theorem dX5_sum_12 : decode cX5_sum 12 = .ok (.iload 5, 2) := by decide +kernel
theorem dX5_sum_14 : decode cX5_sum 14 = .ok (.aload_n 3, 1) := by decide +kernel
theorem dX5_sum_15 : decode cX5_sum 15 = .ok (.invokevirtual 63, 3) := by decide +kernel
theorem dX5_sum_18 : decode cX5_sum 18 = .ok (.if_icmp .ge 34, 3) := by decide +kernel
theorem dX5_sum_21 : decode cX5_sum 21 = .ok (.aload_n 3, 1) := by decide +kernel
theorem dX5_sum_22 : decode cX5_sum 22 = .ok (.iload 5, 2) := by decide +kernel
theorem dX5_sum_24 : decode cX5_sum 24 = .ok (.invokevirtual 75, 3) := by decide +kernel
theorem dX5_sum_27 : decode cX5_sum 27 = .ok (.iload_n 2, 1) := by decide +kernel
theorem dX5_sum_28 : decode cX5_sum 28 = .ok (.invokestatic 148, 3) := by decide +kernel
theorem dX5_sum_31 : decode cX5_sum 31 = .ok (.istore 6, 2) := by decide +kernel
theorem dX5_sum_33 : decode cX5_sum 33 = .ok (.iload 6, 2) := by decide +kernel
theorem dX5_sum_35 : decode cX5_sum 35 = .ok (.iconst (-1), 1) := by decide +kernel
theorem dX5_sum_36 : decode cX5_sum 36 = .ok (.if_icmp .eq 10, 3) := by decide +kernel
theorem dX5_sum_39 : decode cX5_sum 39 = .ok (.iload 4, 2) := by decide +kernel
theorem dX5_sum_41 : decode cX5_sum 41 = .ok (.iload 6, 2) := by decide +kernel
theorem dX5_sum_43 : decode cX5_sum 43 = .ok (.iadd, 1) := by decide +kernel
theorem dX5_sum_44 : decode cX5_sum 44 = .ok (.istore 4, 2) := by decide +kernel
theorem dX5_sum_46 : decode cX5_sum 46 = .ok (.iinc 5 1, 3) := by decide +kernel
theorem dX5_sum_49 : decode cX5_sum 49 = .ok (.goto (-37), 3) := by decide +kernel
theorem dX5_sum_52 : decode cX5_sum 52 = .ok (.iload 4, 2) := by decide +kernel
theorem dX5_sum_54 : decode cX5_sum 54 = .ok (.ireturn, 1) := by decide +kernel
theorem dX5_values_0 : decode cX5_values 0 = .ok (.aload_n 0, 1) := by decide +kernel
theorem dX5_values_1 : decode cX5_values 1 = .ok (.iload_n 1, 1) := by decide +kernel
theorem dX5_values_2 : decode cX5_values 2 = .ok (.invokevirtual 36, 3) := by decide +kernel
theorem dX5_values_5 : decode cX5_values 5 = .ok (.astore_n 2, 1) := by decide +kernel
theorem dX5_values_6 : decode cX5_values 6 = .ok (.iconst 0, 1) := by decide +kernel
theorem dX5_values_7 : decode cX5_values 7 = .ok (.istore_n 3, 1) := by decide +kernel
theorem dX5_values_8 : decode cX5_values 8 = .ok (.iconst 0, 1) := by decide +kernel
theorem dX5_values_9 : decode cX5_values 9 = .ok (.istore 4, 2) := by decide +kernel
theorem dX5_values_11 : decode cX5_values 11 = .ok (.iload 4, 2) := by decide +kernel
theorem dX5_values_13 : decode cX5_values 13 = .ok (.aload_n 2, 1) := by decide +kernel
theorem dX5_values_14 : decode cX5_values 14 = .ok (.invokevirtual 63, 3) := by decide +kernel
theorem dX5_values_17 : decode cX5_values 17 = .ok (.if_icmp .ge 30, 3) := by decide +kernel
theorem dX5_values_20 : decode cX5_values 20 = .ok (.aload_n 2, 1) := by decide +kernel
theorem dX5_values_21 : decode cX5_values 21 = .ok (.iload 4, 2) := by decide +kernel
theorem dX5_values_23 : decode cX5_values 23 = .ok (.invokevirtual 75, 3) := by decide +kernel
theorem dX5_values_26 : decode cX5_values 26 = .ok (.invokestatic 195, 3) := by decide +kernel
theorem dX5_values_29 : decode cX5_values 29 = .ok (.istore 5, 2) := by decide +kernel
theorem dX5_values_31 : decode cX5_values 31 = .ok (.iload 5, 2) := by decide +kernel
theorem dX5_values_33 : decode cX5_values 33 = .ok (.ifCond .lt 8, 3) := by decide +kernel
theorem dX5_values_36 : decode cX5_values 36 = .ok (.iload_n 3, 1) := by decide +kernel
theorem dX5_values_37 : decode cX5_values 37 = .ok (.iload 5, 2) := by decide +kernel
theorem dX5_values_39 : decode cX5_values 39 = .ok (.iadd, 1) := by decide +kernel
theorem dX5_values_40 : decode cX5_values 40 = .ok (.istore_n 3, 1) := by decide +kernel
theorem dX5_values_41 : decode cX5_values 41 = .ok (.iinc 4 1, 3) := by decide +kernel
theorem dX5_values_44 : decode cX5_values 44 = .ok (.goto (-33), 3) := by decide +kernel
theorem dX5_values_47 : decode cX5_values 47 = .ok (.iload_n 3, 1) := by decide +kernel
theorem dX5_values_48 : decode cX5_values 48 = .ok (.ireturn, 1) := by decide +kernel
theorem dX5_words_0 : decode cX5_words 0 = .ok (.aload_n 0, 1) := by decide +kernel
theorem dX5_words_1 : decode cX5_words 1 = .ok (.iload_n 1, 1) := by decide +kernel
theorem dX5_words_2 : decode cX5_words 2 = .ok (.invokevirtual 36, 3) := by decide +kernel
theorem dX5_words_5 : decode cX5_words 5 = .ok (.astore_n 2, 1) := by decide +kernel
theorem dX5_words_6 : decode cX5_words 6 = .ok (.iconst 0, 1) := by decide +kernel
theorem dX5_words_7 : decode cX5_words 7 = .ok (.istore_n 3, 1) := by decide +kernel
theorem dX5_words_8 : decode cX5_words 8 = .ok (.iconst 0, 1) := by decide +kernel
theorem dX5_words_9 : decode cX5_words 9 = .ok (.istore 4, 2) := by decide +kernel
theorem dX5_words_11 : decode cX5_words 11 = .ok (.iload 4, 2) := by decide +kernel
theorem dX5_words_13 : decode cX5_words 13 = .ok (.aload_n 2, 1) := by decide +kernel
theorem dX5_words_14 : decode cX5_words 14 = .ok (.invokevirtual 63, 3) := by decide +kernel
theorem dX5_words_17 : decode cX5_words 17 = .ok (.if_icmp .ge 21, 3) := by decide +kernel
theorem dX5_words_20 : decode cX5_words 20 = .ok (.aload_n 2, 1) := by decide +kernel
theorem dX5_words_21 : decode cX5_words 21 = .ok (.iload 4, 2) := by decide +kernel
theorem dX5_words_23 : decode cX5_words 23 = .ok (.invokestatic 219, 3) := by decide +kernel
theorem dX5_words_26 : decode cX5_words 26 = .ok (.ifCond .eq 6, 3) := by decide +kernel
theorem dX5_words_29 : decode cX5_words 29 = .ok (.iinc 3 1, 3) := by decide +kernel
theorem dX5_words_32 : decode cX5_words 32 = .ok (.iinc 4 1, 3) := by decide +kernel
theorem dX5_words_35 : decode cX5_words 35 = .ok (.goto (-24), 3) := by decide +kernel
theorem dX5_words_38 : decode cX5_words 38 = .ok (.iload_n 3, 1) := by decide +kernel
theorem dX5_words_39 : decode cX5_words 39 = .ok (.ireturn, 1) := by decide +kernel
theorem dX5_word_0 : decode cX5_word 0 = .ok (.aload_n 0, 1) := by decide +kernel
theorem dX5_word_1 : decode cX5_word 1 = .ok (.iload_n 1, 1) := by decide +kernel
theorem dX5_word_2 : decode cX5_word 2 = .ok (.invokevirtual 36, 3) := by decide +kernel
theorem dX5_word_5 : decode cX5_word 5 = .ok (.astore 4, 2) := by decide +kernel
theorem dX5_word_7 : decode cX5_word 7 = .ok (.aload 4, 2) := by decide +kernel
theorem dX5_word_9 : decode cX5_word 9 = .ok (.iload_n 2, 1) := by decide +kernel
theorem dX5_word_10 : decode cX5_word 10 = .ok (.invokestatic 223, 3) := by decide +kernel
theorem dX5_word_13 : decode cX5_word 13 = .ok (.istore 5, 2) := by decide +kernel
theorem dX5_word_15 : decode cX5_word 15 = .ok (.iload 5, 2) := by decide +kernel
theorem dX5_word_17 : decode cX5_word 17 = .ok (.iconst (-1), 1) := by decide +kernel
theorem dX5_word_18 : decode cX5_word 18 = .ok (.if_icmp .ne 13, 3) := by decide +kernel
theorem dX5_word_21 : decode cX5_word 21 = .ok (.new 226, 3) := by decide +kernel
theorem dX5_word_24 : decode cX5_word 24 = .ok (.dup, 1) := by decide +kernel
theorem dX5_word_25 : decode cX5_word 25 = .ok (.ldc 228, 2) := by decide +kernel
theorem dX5_word_27 : decode cX5_word 27 = .ok (.invokespecial 230, 3) := by decide +kernel
theorem dX5_word_30 : decode cX5_word 30 = .ok (.athrow, 1) := by decide +kernel
theorem dX5_word_31 : decode cX5_word 31 = .ok (.iload_n 3, 1) := by decide +kernel
theorem dX5_word_32 : decode cX5_word 32 = .ok (.ifCond .ne 6, 3) := by decide +kernel
theorem dX5_word_35 : decode cX5_word 35 = .ok (.iload 5, 2) := by decide +kernel
theorem dX5_word_37 : decode cX5_word 37 = .ok (.ireturn, 1) := by decide +kernel
theorem dX5_word_38 : decode cX5_word 38 = .ok (.iload 5, 2) := by decide +kernel
theorem dX5_word_40 : decode cX5_word 40 = .ok (.istore 6, 2) := by decide +kernel
theorem dX5_word_42 : decode cX5_word 42 = .ok (.iload 6, 2) := by decide +kernel
theorem dX5_word_44 : decode cX5_word 44 = .ok (.aload 4, 2) := by decide +kernel
theorem dX5_word_46 : decode cX5_word 46 = .ok (.invokevirtual 63, 3) := by decide +kernel
theorem dX5_word_49 : decode cX5_word 49 = .ok (.if_icmp .ge 23, 3) := by decide +kernel
theorem dX5_word_52 : decode cX5_word 52 = .ok (.aload 4, 2) := by decide +kernel
theorem dX5_word_54 : decode cX5_word 54 = .ok (.iload 6, 2) := by decide +kernel
theorem dX5_word_56 : decode cX5_word 56 = .ok (.invokevirtual 75, 3) := by decide +kernel
theorem dX5_word_59 : decode cX5_word 59 = .ok (.iconst 2, 1) := by decide +kernel
theorem dX5_word_60 : decode cX5_word 60 = .ok (.invokestatic 96, 3) := by decide +kernel
theorem dX5_word_63 : decode cX5_word 63 = .ok (.ifCond .eq 9, 3) := by decide +kernel
theorem dX5_word_66 : decode cX5_word 66 = .ok (.iinc 6 1, 3) := by decide +kernel
theorem dX5_word_69 : decode cX5_word 69 = .ok (.goto (-27), 3) := by decide +kernel
theorem dX5_word_72 : decode cX5_word 72 = .ok (.iload 6, 2) := by decide +kernel
theorem dX5_word_74 : decode cX5_word 74 = .ok (.iload 5, 2) := by decide +kernel
theorem dX5_word_76 : decode cX5_word 76 = .ok (.isub, 1) := by decide +kernel
theorem dX5_word_77 : decode cX5_word 77 = .ok (.ireturn, 1) := by decide +kernel
theorem dX5_isAlike_0 : decode cX5_isAlike 0 = .ok (.aload_n 0, 1) := by decide +kernel
theorem dX5_isAlike_1 : decode cX5_isAlike 1 = .ok (.iload_n 1, 1) := by decide +kernel
theorem dX5_isAlike_2 : decode cX5_isAlike 2 = .ok (.invokevirtual 36, 3) := by decide +kernel
theorem dX5_isAlike_5 : decode cX5_isAlike 5 = .ok (.astore_n 3, 1) := by decide +kernel
theorem dX5_isAlike_6 : decode cX5_isAlike 6 = .ok (.aload_n 0, 1) := by decide +kernel
theorem dX5_isAlike_7 : decode cX5_isAlike 7 = .ok (.iload_n 2, 1) := by decide +kernel
theorem dX5_isAlike_8 : decode cX5_isAlike 8 = .ok (.invokevirtual 36, 3) := by decide +kernel
theorem dX5_isAlike_11 : decode cX5_isAlike 11 = .ok (.astore 4, 2) := by decide +kernel
theorem dX5_isAlike_13 : decode cX5_isAlike 13 = .ok (.aload_n 3, 1) := by decide +kernel
theorem dX5_isAlike_14 : decode cX5_isAlike 14 = .ok (.invokevirtual 63, 3) := by decide +kernel
theorem dX5_isAlike_17 : decode cX5_isAlike 17 = .ok (.aload 4, 2) := by decide +kernel
theorem dX5_isAlike_19 : decode cX5_isAlike 19 = .ok (.invokevirtual 63, 3) := by decide +kernel
theorem dX5_isAlike_22 : decode cX5_isAlike 22 = .ok (.if_icmp .eq 5, 3) := by decide +kernel
theorem dX5_isAlike_25 : decode cX5_isAlike 25 = .ok (.iconst 0, 1) := by decide +kernel
theorem dX5_isAlike_26 : decode cX5_isAlike 26 = .ok (.ireturn, 1) := by decide +kernel
theorem dX5_isAlike_27 : decode cX5_isAlike 27 = .ok (.iconst 0, 1) := by decide +kernel
theorem dX5_isAlike_28 : decode cX5_isAlike 28 = .ok (.istore 5, 2) := by decide +kernel
theorem dX5_isAlike_30 : decode cX5_isAlike 30 = .ok (.iload 5, 2) := by decide +kernel
theorem dX5_isAlike_32 : decode cX5_isAlike 32 = .ok (.aload_n 3, 1) := by decide +kernel
theorem dX5_isAlike_33 : decode cX5_isAlike 33 = .ok (.invokevirtual 63, 3) := by decide +kernel
theorem dX5_isAlike_36 : decode cX5_isAlike 36 = .ok (.if_icmp .ge 33, 3) := by decide +kernel
theorem dX5_isAlike_39 : decode cX5_isAlike 39 = .ok (.aload_n 3, 1) := by decide +kernel
theorem dX5_isAlike_40 : decode cX5_isAlike 40 = .ok (.iload 5, 2) := by decide +kernel
theorem dX5_isAlike_42 : decode cX5_isAlike 42 = .ok (.invokevirtual 75, 3) := by decide +kernel
theorem dX5_isAlike_45 : decode cX5_isAlike 45 = .ok (.invokestatic 78, 3) := by decide +kernel
theorem dX5_isAlike_48 : decode cX5_isAlike 48 = .ok (.aload 4, 2) := by decide +kernel
theorem dX5_isAlike_50 : decode cX5_isAlike 50 = .ok (.iload 5, 2) := by decide +kernel
theorem dX5_isAlike_52 : decode cX5_isAlike 52 = .ok (.invokevirtual 75, 3) := by decide +kernel
theorem dX5_isAlike_55 : decode cX5_isAlike 55 = .ok (.invokestatic 78, 3) := by decide +kernel
theorem dX5_isAlike_58 : decode cX5_isAlike 58 = .ok (.if_icmp .eq 5, 3) := by decide +kernel
theorem dX5_isAlike_61 : decode cX5_isAlike 61 = .ok (.iconst 0, 1) := by decide +kernel
theorem dX5_isAlike_62 : decode cX5_isAlike 62 = .ok (.ireturn, 1) := by decide +kernel
theorem dX5_isAlike_63 : decode cX5_isAlike 63 = .ok (.iinc 5 1, 3) := by decide +kernel
theorem dX5_isAlike_66 : decode cX5_isAlike 66 = .ok (.goto (-36), 3) := by decide +kernel
theorem dX5_isAlike_69 : decode cX5_isAlike 69 = .ok (.iconst 1, 1) := by decide +kernel
theorem dX5_isAlike_70 : decode cX5_isAlike 70 = .ok (.ireturn, 1) := by decide +kernel
theorem dX5_order_0 : decode cX5_order 0 = .ok (.aload_n 0, 1) := by decide +kernel
theorem dX5_order_1 : decode cX5_order 1 = .ok (.iload_n 1, 1) := by decide +kernel
theorem dX5_order_2 : decode cX5_order 2 = .ok (.invokevirtual 36, 3) := by decide +kernel
theorem dX5_order_5 : decode cX5_order 5 = .ok (.astore_n 3, 1) := by decide +kernel
theorem dX5_order_6 : decode cX5_order 6 = .ok (.aload_n 0, 1) := by decide +kernel
theorem dX5_order_7 : decode cX5_order 7 = .ok (.iload_n 2, 1) := by decide +kernel
theorem dX5_order_8 : decode cX5_order 8 = .ok (.invokevirtual 36, 3) := by decide +kernel
theorem dX5_order_11 : decode cX5_order 11 = .ok (.astore 4, 2) := by decide +kernel
theorem dX5_order_13 : decode cX5_order 13 = .ok (.iconst 0, 1) := by decide +kernel
theorem dX5_order_14 : decode cX5_order 14 = .ok (.istore 5, 2) := by decide +kernel
theorem dX5_order_16 : decode cX5_order 16 = .ok (.iload 5, 2) := by decide +kernel
theorem dX5_order_18 : decode cX5_order 18 = .ok (.aload_n 3, 1) := by decide +kernel
theorem dX5_order_19 : decode cX5_order 19 = .ok (.invokevirtual 63, 3) := by decide +kernel
theorem dX5_order_22 : decode cX5_order 22 = .ok (.if_icmp .ge 52, 3) := by decide +kernel
theorem dX5_order_25 : decode cX5_order 25 = .ok (.iload 5, 2) := by decide +kernel
theorem dX5_order_27 : decode cX5_order 27 = .ok (.aload 4, 2) := by decide +kernel
theorem dX5_order_29 : decode cX5_order 29 = .ok (.invokevirtual 63, 3) := by decide +kernel
theorem dX5_order_32 : decode cX5_order 32 = .ok (.if_icmp .ge 42, 3) := by decide +kernel
theorem dX5_order_35 : decode cX5_order 35 = .ok (.aload_n 3, 1) := by decide +kernel
theorem dX5_order_36 : decode cX5_order 36 = .ok (.iload 5, 2) := by decide +kernel
theorem dX5_order_38 : decode cX5_order 38 = .ok (.invokevirtual 75, 3) := by decide +kernel
theorem dX5_order_41 : decode cX5_order 41 = .ok (.aload 4, 2) := by decide +kernel
theorem dX5_order_43 : decode cX5_order 43 = .ok (.iload 5, 2) := by decide +kernel
theorem dX5_order_45 : decode cX5_order 45 = .ok (.invokevirtual 75, 3) := by decide +kernel
theorem dX5_order_48 : decode cX5_order 48 = .ok (.if_icmp .eq 20, 3) := by decide +kernel
theorem dX5_order_51 : decode cX5_order 51 = .ok (.aload_n 3, 1) := by decide +kernel
theorem dX5_order_52 : decode cX5_order 52 = .ok (.iload 5, 2) := by decide +kernel
theorem dX5_order_54 : decode cX5_order 54 = .ok (.invokevirtual 75, 3) := by decide +kernel
theorem dX5_order_57 : decode cX5_order 57 = .ok (.aload 4, 2) := by decide +kernel
theorem dX5_order_59 : decode cX5_order 59 = .ok (.iload 5, 2) := by decide +kernel
theorem dX5_order_61 : decode cX5_order 61 = .ok (.invokevirtual 75, 3) := by decide +kernel
theorem dX5_order_64 : decode cX5_order 64 = .ok (.invokestatic 231, 3) := by decide +kernel
theorem dX5_order_67 : decode cX5_order 67 = .ok (.ireturn, 1) := by decide +kernel
theorem dX5_order_68 : decode cX5_order 68 = .ok (.iinc 5 1, 3) := by decide +kernel
theorem dX5_order_71 : decode cX5_order 71 = .ok (.goto (-55), 3) := by decide +kernel
theorem dX5_order_74 : decode cX5_order 74 = .ok (.aload_n 3, 1) := by decide +kernel
theorem dX5_order_75 : decode cX5_order 75 = .ok (.invokevirtual 63, 3) := by decide +kernel
theorem dX5_order_78 : decode cX5_order 78 = .ok (.aload 4, 2) := by decide +kernel
theorem dX5_order_80 : decode cX5_order 80 = .ok (.invokevirtual 63, 3) := by decide +kernel
theorem dX5_order_83 : decode cX5_order 83 = .ok (.invokestatic 231, 3) := by decide +kernel
theorem dX5_order_86 : decode cX5_order 86 = .ok (.ireturn, 1) := by decide +kernel
theorem dX5_isCode_0 : decode cX5_isCode 0 = .ok (.iload_n 1, 1) := by decide +kernel
theorem dX5_isCode_1 : decode cX5_isCode 1 = .ok (.invokestatic 154, 3) := by decide +kernel
theorem dX5_isCode_4 : decode cX5_isCode 4 = .ok (.ireturn, 1) := by decide +kernel
theorem dX5_isPlain_0 : decode cX5_isPlain 0 = .ok (.iload_n 1, 1) := by decide +kernel
theorem dX5_isPlain_1 : decode cX5_isPlain 1 = .ok (.invokestatic 234, 3) := by decide +kernel
theorem dX5_isPlain_4 : decode cX5_isPlain 4 = .ok (.ireturn, 1) := by decide +kernel
theorem dX5_isWide_0 : decode cX5_isWide 0 = .ok (.iload_n 1, 1) := by decide +kernel
theorem dX5_isWide_1 : decode cX5_isWide 1 = .ok (.invokestatic 237, 3) := by decide +kernel
theorem dX5_isWide_4 : decode cX5_isWide 4 = .ok (.ireturn, 1) := by decide +kernel
theorem dX5_units_0 : decode cX5_units 0 = .ok (.iload_n 1, 1) := by decide +kernel
theorem dX5_units_1 : decode cX5_units 1 = .ok (.invokestatic 161, 3) := by decide +kernel
theorem dX5_units_4 : decode cX5_units 4 = .ok (.ireturn, 1) := by decide +kernel
theorem dX5_half_0 : decode cX5_half 0 = .ok (.iload_n 1, 1) := by decide +kernel
theorem dX5_half_1 : decode cX5_half 1 = .ok (.invokestatic 237, 3) := by decide +kernel
theorem dX5_half_4 : decode cX5_half 4 = .ok (.ifCond .ne 13, 3) := by decide +kernel
theorem dX5_half_7 : decode cX5_half 7 = .ok (.new 110, 3) := by decide +kernel
theorem dX5_half_10 : decode cX5_half 10 = .ok (.dup, 1) := by decide +kernel
theorem dX5_half_11 : decode cX5_half 11 = .ok (.ldc 240, 2) := by decide +kernel
theorem dX5_half_13 : decode cX5_half 13 = .ok (.invokespecial 114, 3) := by decide +kernel
theorem dX5_half_16 : decode cX5_half 16 = .ok (.athrow, 1) := by decide +kernel
theorem dX5_half_17 : decode cX5_half 17 = .ok (.iload_n 2, 1) := by decide +kernel
theorem dX5_half_18 : decode cX5_half 18 = .ok (.ifCond .eq 10, 3) := by decide +kernel
theorem dX5_half_21 : decode cX5_half 21 = .ok (.iload_n 1, 1) := by decide +kernel
theorem dX5_half_22 : decode cX5_half 22 = .ok (.invokestatic 242, 3) := by decide +kernel
theorem dX5_half_25 : decode cX5_half 25 = .ok (.goto 7, 3) := by decide +kernel
theorem dX5_half_28 : decode cX5_half 28 = .ok (.iload_n 1, 1) := by decide +kernel
theorem dX5_half_29 : decode cX5_half 29 = .ok (.invokestatic 245, 3) := by decide +kernel
theorem dX5_half_32 : decode cX5_half 32 = .ok (.ireturn, 1) := by decide +kernel
theorem dX5_code_0 : decode cX5_code 0 = .ok (.iload_n 1, 1) := by decide +kernel
theorem dX5_code_1 : decode cX5_code 1 = .ok (.invokestatic 248, 3) := by decide +kernel
theorem dX5_code_4 : decode cX5_code 4 = .ok (.ifCond .eq 10, 3) := by decide +kernel
theorem dX5_code_7 : decode cX5_code 7 = .ok (.iload_n 2, 1) := by decide +kernel
theorem dX5_code_8 : decode cX5_code 8 = .ok (.invokestatic 251, 3) := by decide +kernel
theorem dX5_code_11 : decode cX5_code 11 = .ok (.ifCond .ne 13, 3) := by decide +kernel
theorem dX5_code_14 : decode cX5_code 14 = .ok (.new 110, 3) := by decide +kernel
theorem dX5_code_17 : decode cX5_code 17 = .ok (.dup, 1) := by decide +kernel
theorem dX5_code_18 : decode cX5_code 18 = .ok (.ldc 254, 2) := by decide +kernel
theorem dX5_code_20 : decode cX5_code 20 = .ok (.invokespecial 114, 3) := by decide +kernel
theorem dX5_code_23 : decode cX5_code 23 = .ok (.athrow, 1) := by decide +kernel
theorem dX5_code_24 : decode cX5_code 24 = .ok (.iload_n 1, 1) := by decide +kernel
theorem dX5_code_25 : decode cX5_code 25 = .ok (.iload_n 2, 1) := by decide +kernel
theorem dX5_code_26 : decode cX5_code 26 = .ok (.invokestatic 256, 3) := by decide +kernel
theorem dX5_code_29 : decode cX5_code 29 = .ok (.ireturn, 1) := by decide +kernel
theorem dX5_ofUnit_0 : decode cX5_ofUnit 0 = .ok (.iload_n 1, 1) := by decide +kernel
theorem dX5_ofUnit_1 : decode cX5_ofUnit 1 = .ok (.invokestatic 167, 3) := by decide +kernel
theorem dX5_ofUnit_4 : decode cX5_ofUnit 4 = .ok (.iload_n 2, 1) := by decide +kernel
theorem dX5_ofUnit_5 : decode cX5_ofUnit 5 = .ok (.tableswitch 75 0 3 #[31, 44, 57, 70], 31) := by decide +kernel
theorem dX5_ofUnit_36 : decode cX5_ofUnit 36 = .ok (.iload_n 1, 1) := by decide +kernel
theorem dX5_ofUnit_37 : decode cX5_ofUnit 37 = .ok (.invokestatic 173, 3) := by decide +kernel
theorem dX5_ofUnit_40 : decode cX5_ofUnit 40 = .ok (.ifCond .eq 7, 3) := by decide +kernel
theorem dX5_ofUnit_43 : decode cX5_ofUnit 43 = .ok (.iconst 1, 1) := by decide +kernel
theorem dX5_ofUnit_44 : decode cX5_ofUnit 44 = .ok (.goto 4, 3) := by decide +kernel
theorem dX5_ofUnit_47 : decode cX5_ofUnit 47 = .ok (.iconst 0, 1) := by decide +kernel
theorem dX5_ofUnit_48 : decode cX5_ofUnit 48 = .ok (.ireturn, 1) := by decide +kernel
theorem dX5_ofUnit_49 : decode cX5_ofUnit 49 = .ok (.iload_n 1, 1) := by decide +kernel
theorem dX5_ofUnit_50 : decode cX5_ofUnit 50 = .ok (.invokestatic 248, 3) := by decide +kernel
theorem dX5_ofUnit_53 : decode cX5_ofUnit 53 = .ok (.ifCond .eq 7, 3) := by decide +kernel
theorem dX5_ofUnit_56 : decode cX5_ofUnit 56 = .ok (.iconst 1, 1) := by decide +kernel
theorem dX5_ofUnit_57 : decode cX5_ofUnit 57 = .ok (.goto 4, 3) := by decide +kernel
theorem dX5_ofUnit_60 : decode cX5_ofUnit 60 = .ok (.iconst 0, 1) := by decide +kernel
theorem dX5_ofUnit_61 : decode cX5_ofUnit 61 = .ok (.ireturn, 1) := by decide +kernel
theorem dX5_ofUnit_62 : decode cX5_ofUnit 62 = .ok (.iload_n 1, 1) := by decide +kernel
theorem dX5_ofUnit_63 : decode cX5_ofUnit 63 = .ok (.invokestatic 251, 3) := by decide +kernel
theorem dX5_ofUnit_66 : decode cX5_ofUnit 66 = .ok (.ifCond .eq 7, 3) := by decide +kernel
theorem dX5_ofUnit_69 : decode cX5_ofUnit 69 = .ok (.iconst 1, 1) := by decide +kernel
theorem dX5_ofUnit_70 : decode cX5_ofUnit 70 = .ok (.goto 4, 3) := by decide +kernel
theorem dX5_ofUnit_73 : decode cX5_ofUnit 73 = .ok (.iconst 0, 1) := by decide +kernel
theorem dX5_ofUnit_74 : decode cX5_ofUnit 74 = .ok (.ireturn, 1) := by decide +kernel
theorem dX5_ofUnit_75 : decode cX5_ofUnit 75 = .ok (.iload_n 1, 1) := by decide +kernel
theorem dX5_ofUnit_76 : decode cX5_ofUnit 76 = .ok (.invokestatic 170, 3) := by decide +kernel
theorem dX5_ofUnit_79 : decode cX5_ofUnit 79 = .ok (.ireturn, 1) := by decide +kernel
theorem dX5_ofUnit_80 : decode cX5_ofUnit 80 = .ok (.new 110, 3) := by decide +kernel
theorem dX5_ofUnit_83 : decode cX5_ofUnit 83 = .ok (.dup, 1) := by decide +kernel
theorem dX5_ofUnit_84 : decode cX5_ofUnit 84 = .ok (.ldc_w 259, 3) := by decide +kernel
theorem dX5_ofUnit_87 : decode cX5_ofUnit 87 = .ok (.invokespecial 114, 3) := by decide +kernel
theorem dX5_ofUnit_90 : decode cX5_ofUnit 90 = .ok (.athrow, 1) := by decide +kernel
theorem dX5_compare_0 : decode cX5_compare 0 = .ok (.iload_n 1, 1) := by decide +kernel
theorem dX5_compare_1 : decode cX5_compare 1 = .ok (.invokestatic 167, 3) := by decide +kernel
theorem dX5_compare_4 : decode cX5_compare 4 = .ok (.iload_n 2, 1) := by decide +kernel
theorem dX5_compare_5 : decode cX5_compare 5 = .ok (.invokestatic 167, 3) := by decide +kernel
theorem dX5_compare_8 : decode cX5_compare 8 = .ok (.iload_n 1, 1) := by decide +kernel
theorem dX5_compare_9 : decode cX5_compare 9 = .ok (.iload_n 2, 1) := by decide +kernel
theorem dX5_compare_10 : decode cX5_compare 10 = .ok (.invokestatic 231, 3) := by decide +kernel
theorem dX5_compare_13 : decode cX5_compare 13 = .ok (.ireturn, 1) := by decide +kernel
theorem dX5_ofTrack_0 : decode cX5_ofTrack 0 = .ok (.aload_n 0, 1) := by decide +kernel
theorem dX5_ofTrack_1 : decode cX5_ofTrack 1 = .ok (.iload_n 1, 1) := by decide +kernel
theorem dX5_ofTrack_2 : decode cX5_ofTrack 2 = .ok (.invokevirtual 151, 3) := by decide +kernel
theorem dX5_ofTrack_5 : decode cX5_ofTrack 5 = .ok (.astore_n 3, 1) := by decide +kernel
theorem dX5_ofTrack_6 : decode cX5_ofTrack 6 = .ok (.iload_n 2, 1) := by decide +kernel
theorem dX5_ofTrack_7 : decode cX5_ofTrack 7 = .ok (.ifCond .lt 8, 3) := by decide +kernel
theorem dX5_ofTrack_10 : decode cX5_ofTrack 10 = .ok (.iload_n 2, 1) := by decide +kernel
theorem dX5_ofTrack_11 : decode cX5_ofTrack 11 = .ok (.iconst 3, 1) := by decide +kernel
theorem dX5_ofTrack_12 : decode cX5_ofTrack 12 = .ok (.if_icmp .le 14, 3) := by decide +kernel
theorem dX5_ofTrack_15 : decode cX5_ofTrack 15 = .ok (.new 110, 3) := by decide +kernel
theorem dX5_ofTrack_18 : decode cX5_ofTrack 18 = .ok (.dup, 1) := by decide +kernel
theorem dX5_ofTrack_19 : decode cX5_ofTrack 19 = .ok (.ldc_w 259, 3) := by decide +kernel
theorem dX5_ofTrack_22 : decode cX5_ofTrack 22 = .ok (.invokespecial 114, 3) := by decide +kernel
theorem dX5_ofTrack_25 : decode cX5_ofTrack 25 = .ok (.athrow, 1) := by decide +kernel
theorem dX5_ofTrack_26 : decode cX5_ofTrack 26 = .ok (.aload_n 3, 1) := by decide +kernel
theorem dX5_ofTrack_27 : decode cX5_ofTrack 27 = .ok (.iload_n 2, 1) := by decide +kernel
theorem dX5_ofTrack_28 : decode cX5_ofTrack 28 = .ok (.invokestatic 180, 3) := by decide +kernel
theorem dX5_ofTrack_31 : decode cX5_ofTrack 31 = .ok (.ireturn, 1) := by decide +kernel
theorem dX5_unit_0 : decode cX5_unit 0 = .ok (.aload_n 0, 1) := by decide +kernel
theorem dX5_unit_1 : decode cX5_unit 1 = .ok (.iload_n 1, 1) := by decide +kernel
theorem dX5_unit_2 : decode cX5_unit 2 = .ok (.invokevirtual 151, 3) := by decide +kernel
theorem dX5_unit_5 : decode cX5_unit 5 = .ok (.iload_n 2, 1) := by decide +kernel
theorem dX5_unit_6 : decode cX5_unit 6 = .ok (.invokestatic 198, 3) := by decide +kernel
theorem dX5_unit_9 : decode cX5_unit 9 = .ok (.ireturn, 1) := by decide +kernel
theorem dX5_codeAt_0 : decode cX5_codeAt 0 = .ok (.aload_n 0, 1) := by decide +kernel
theorem dX5_codeAt_1 : decode cX5_codeAt 1 = .ok (.iload_n 1, 1) := by decide +kernel
theorem dX5_codeAt_2 : decode cX5_codeAt 2 = .ok (.invokevirtual 151, 3) := by decide +kernel
theorem dX5_codeAt_5 : decode cX5_codeAt 5 = .ok (.astore_n 3, 1) := by decide +kernel
theorem dX5_codeAt_6 : decode cX5_codeAt 6 = .ok (.aload_n 3, 1) := by decide +kernel
theorem dX5_codeAt_7 : decode cX5_codeAt 7 = .ok (.iload_n 2, 1) := by decide +kernel
theorem dX5_codeAt_8 : decode cX5_codeAt 8 = .ok (.invokevirtual 261, 3) := by decide +kernel
theorem dX5_codeAt_11 : decode cX5_codeAt 11 = .ok (.ifCond .ne 14, 3) := by decide +kernel
theorem dX5_codeAt_14 : decode cX5_codeAt 14 = .ok (.new 226, 3) := by decide +kernel
theorem dX5_codeAt_17 : decode cX5_codeAt 17 = .ok (.dup, 1) := by decide +kernel
theorem dX5_codeAt_18 : decode cX5_codeAt 18 = .ok (.ldc_w 264, 3) := by decide +kernel
theorem dX5_codeAt_21 : decode cX5_codeAt 21 = .ok (.invokespecial 230, 3) := by decide +kernel
theorem dX5_codeAt_24 : decode cX5_codeAt 24 = .ok (.athrow, 1) := by decide +kernel
theorem dX5_codeAt_25 : decode cX5_codeAt 25 = .ok (.aload_n 3, 1) := by decide +kernel
theorem dX5_codeAt_26 : decode cX5_codeAt 26 = .ok (.iload_n 2, 1) := by decide +kernel
theorem dX5_codeAt_27 : decode cX5_codeAt 27 = .ok (.invokestatic 266, 3) := by decide +kernel
theorem dX5_codeAt_30 : decode cX5_codeAt 30 = .ok (.ireturn, 1) := by decide +kernel
theorem dX5_nth_0 : decode cX5_nth 0 = .ok (.aload_n 0, 1) := by decide +kernel
theorem dX5_nth_1 : decode cX5_nth 1 = .ok (.iload_n 1, 1) := by decide +kernel
theorem dX5_nth_2 : decode cX5_nth 2 = .ok (.invokevirtual 151, 3) := by decide +kernel
theorem dX5_nth_5 : decode cX5_nth 5 = .ok (.astore_n 3, 1) := by decide +kernel
theorem dX5_nth_6 : decode cX5_nth 6 = .ok (.aload_n 3, 1) := by decide +kernel
theorem dX5_nth_7 : decode cX5_nth 7 = .ok (.iload_n 2, 1) := by decide +kernel
theorem dX5_nth_8 : decode cX5_nth 8 = .ok (.invokestatic 269, 3) := by decide +kernel
theorem dX5_nth_11 : decode cX5_nth 11 = .ok (.istore 4, 2) := by decide +kernel
theorem dX5_nth_13 : decode cX5_nth 13 = .ok (.iload 4, 2) := by decide +kernel
theorem dX5_nth_15 : decode cX5_nth 15 = .ok (.iconst (-1), 1) := by decide +kernel
theorem dX5_nth_16 : decode cX5_nth 16 = .ok (.if_icmp .ne 13, 3) := by decide +kernel
theorem dX5_nth_19 : decode cX5_nth 19 = .ok (.new 226, 3) := by decide +kernel
theorem dX5_nth_22 : decode cX5_nth 22 = .ok (.dup, 1) := by decide +kernel
theorem dX5_nth_23 : decode cX5_nth 23 = .ok (.ldc 159, 2) := by decide +kernel
theorem dX5_nth_25 : decode cX5_nth 25 = .ok (.invokespecial 230, 3) := by decide +kernel
theorem dX5_nth_28 : decode cX5_nth 28 = .ok (.athrow, 1) := by decide +kernel
theorem dX5_nth_29 : decode cX5_nth 29 = .ok (.aload_n 3, 1) := by decide +kernel
theorem dX5_nth_30 : decode cX5_nth 30 = .ok (.iload 4, 2) := by decide +kernel
theorem dX5_nth_32 : decode cX5_nth 32 = .ok (.invokestatic 266, 3) := by decide +kernel
theorem dX5_nth_35 : decode cX5_nth 35 = .ok (.ireturn, 1) := by decide +kernel
theorem dX5_house_0 : decode cX5_house 0 = .ok (.iload_n 1, 1) := by decide +kernel
theorem dX5_house_1 : decode cX5_house 1 = .ok (.tableswitch 60 0 3 #[31, 39, 47, 55], 31) := by decide +kernel
theorem dX5_house_32 : decode cX5_house 32 = .ok (.aload_n 0, 1) := by decide +kernel
theorem dX5_house_33 : decode cX5_house 33 = .ok (.getfield 10, 3) := by decide +kernel
theorem dX5_house_36 : decode cX5_house 36 = .ok (.invokevirtual 272, 3) := by decide +kernel
theorem dX5_house_39 : decode cX5_house 39 = .ok (.ireturn, 1) := by decide +kernel
theorem dX5_house_40 : decode cX5_house 40 = .ok (.aload_n 0, 1) := by decide +kernel
theorem dX5_house_41 : decode cX5_house 41 = .ok (.getfield 10, 3) := by decide +kernel
theorem dX5_house_44 : decode cX5_house 44 = .ok (.invokevirtual 275, 3) := by decide +kernel
theorem dX5_house_47 : decode cX5_house 47 = .ok (.ireturn, 1) := by decide +kernel
theorem dX5_house_48 : decode cX5_house 48 = .ok (.aload_n 0, 1) := by decide +kernel
theorem dX5_house_49 : decode cX5_house 49 = .ok (.getfield 19, 3) := by decide +kernel
theorem dX5_house_52 : decode cX5_house 52 = .ok (.invokevirtual 183, 3) := by decide +kernel
theorem dX5_house_55 : decode cX5_house 55 = .ok (.ireturn, 1) := by decide +kernel
theorem dX5_house_56 : decode cX5_house 56 = .ok (.aload_n 0, 1) := by decide +kernel
theorem dX5_house_57 : decode cX5_house 57 = .ok (.getfield 32, 3) := by decide +kernel
theorem dX5_house_60 : decode cX5_house 60 = .ok (.ireturn, 1) := by decide +kernel
theorem dX5_house_61 : decode cX5_house 61 = .ok (.new 110, 3) := by decide +kernel
theorem dX5_house_64 : decode cX5_house 64 = .ok (.dup, 1) := by decide +kernel
theorem dX5_house_65 : decode cX5_house 65 = .ok (.ldc_w 259, 3) := by decide +kernel
theorem dX5_house_68 : decode cX5_house 68 = .ok (.invokespecial 114, 3) := by decide +kernel
theorem dX5_house_71 : decode cX5_house 71 = .ok (.athrow, 1) := by decide +kernel
theorem dX5_isSound_0 : decode cX5_isSound 0 = .ok (.iconst 0, 1) := by decide +kernel
theorem dX5_isSound_1 : decode cX5_isSound 1 = .ok (.istore_n 1, 1) := by decide +kernel
theorem dX5_isSound_2 : decode cX5_isSound 2 = .ok (.iload_n 1, 1) := by decide +kernel
theorem dX5_isSound_3 : decode cX5_isSound 3 = .ok (.iconst 4, 1) := by decide +kernel
theorem dX5_isSound_4 : decode cX5_isSound 4 = .ok (.if_icmp .ge 22, 3) := by decide +kernel
theorem dX5_isSound_7 : decode cX5_isSound 7 = .ok (.aload_n 0, 1) := by decide +kernel
theorem dX5_isSound_8 : decode cX5_isSound 8 = .ok (.iload_n 1, 1) := by decide +kernel
theorem dX5_isSound_9 : decode cX5_isSound 9 = .ok (.invokevirtual 36, 3) := by decide +kernel
theorem dX5_isSound_12 : decode cX5_isSound 12 = .ok (.invokestatic 278, 3) := by decide +kernel
theorem dX5_isSound_15 : decode cX5_isSound 15 = .ok (.ifCond .ne 5, 3) := by decide +kernel
theorem dX5_isSound_18 : decode cX5_isSound 18 = .ok (.iconst 0, 1) := by decide +kernel
theorem dX5_isSound_19 : decode cX5_isSound 19 = .ok (.ireturn, 1) := by decide +kernel
theorem dX5_isSound_20 : decode cX5_isSound 20 = .ok (.iinc 1 1, 3) := by decide +kernel
theorem dX5_isSound_23 : decode cX5_isSound 23 = .ok (.goto (-21), 3) := by decide +kernel
theorem dX5_isSound_26 : decode cX5_isSound 26 = .ok (.iconst 0, 1) := by decide +kernel
theorem dX5_isSound_27 : decode cX5_isSound 27 = .ok (.istore_n 1, 1) := by decide +kernel
theorem dX5_isSound_28 : decode cX5_isSound 28 = .ok (.iload_n 1, 1) := by decide +kernel
theorem dX5_isSound_29 : decode cX5_isSound 29 = .ok (.iconst 2, 1) := by decide +kernel
theorem dX5_isSound_30 : decode cX5_isSound 30 = .ok (.if_icmp .ge 22, 3) := by decide +kernel
theorem dX5_isSound_33 : decode cX5_isSound 33 = .ok (.aload_n 0, 1) := by decide +kernel
theorem dX5_isSound_34 : decode cX5_isSound 34 = .ok (.iload_n 1, 1) := by decide +kernel
theorem dX5_isSound_35 : decode cX5_isSound 35 = .ok (.invokevirtual 151, 3) := by decide +kernel
theorem dX5_isSound_38 : decode cX5_isSound 38 = .ok (.invokestatic 281, 3) := by decide +kernel
theorem dX5_isSound_41 : decode cX5_isSound 41 = .ok (.ifCond .ne 5, 3) := by decide +kernel
theorem dX5_isSound_44 : decode cX5_isSound 44 = .ok (.iconst 0, 1) := by decide +kernel
theorem dX5_isSound_45 : decode cX5_isSound 45 = .ok (.ireturn, 1) := by decide +kernel
theorem dX5_isSound_46 : decode cX5_isSound 46 = .ok (.iinc 1 1, 3) := by decide +kernel
theorem dX5_isSound_49 : decode cX5_isSound 49 = .ok (.goto (-21), 3) := by decide +kernel
theorem dX5_isSound_52 : decode cX5_isSound 52 = .ok (.iconst 1, 1) := by decide +kernel
theorem dX5_isSound_53 : decode cX5_isSound 53 = .ok (.ireturn, 1) := by decide +kernel
theorem dX5_digest_0 : decode cX5_digest 0 = .ok (.ldc2_w 284, 3) := by decide +kernel
theorem dX5_digest_3 : decode cX5_digest 3 = .ok (.lstore_n 1, 1) := by decide +kernel
theorem dX5_digest_4 : decode cX5_digest 4 = .ok (.iconst 0, 1) := by decide +kernel
theorem dX5_digest_5 : decode cX5_digest 5 = .ok (.istore_n 3, 1) := by decide +kernel
theorem dX5_digest_6 : decode cX5_digest 6 = .ok (.iload_n 3, 1) := by decide +kernel
theorem dX5_digest_7 : decode cX5_digest 7 = .ok (.iconst 4, 1) := by decide +kernel
theorem dX5_digest_8 : decode cX5_digest 8 = .ok (.if_icmp .ge 16, 3) := by decide +kernel
theorem dX5_digest_11 : decode cX5_digest 11 = .ok (.aload_n 0, 1) := by decide +kernel
theorem dX5_digest_12 : decode cX5_digest 12 = .ok (.lload_n 1, 1) := by decide +kernel
theorem dX5_digest_13 : decode cX5_digest 13 = .ok (.iload_n 3, 1) := by decide +kernel
theorem dX5_digest_14 : decode cX5_digest 14 = .ok (.invokevirtual 286, 3) := by decide +kernel
theorem dX5_digest_17 : decode cX5_digest 17 = .ok (.lstore_n 1, 1) := by decide +kernel
theorem dX5_digest_18 : decode cX5_digest 18 = .ok (.iinc 3 1, 3) := by decide +kernel
theorem dX5_digest_21 : decode cX5_digest 21 = .ok (.goto (-15), 3) := by decide +kernel
theorem dX5_digest_24 : decode cX5_digest 24 = .ok (.lload_n 1, 1) := by decide +kernel
theorem dX5_digest_25 : decode cX5_digest 25 = .ok (.aload_n 0, 1) := by decide +kernel
theorem dX5_digest_26 : decode cX5_digest 26 = .ok (.iconst 0, 1) := by decide +kernel
theorem dX5_digest_27 : decode cX5_digest 27 = .ok (.iconst 1, 1) := by decide +kernel
theorem dX5_digest_28 : decode cX5_digest 28 = .ok (.invokevirtual 290, 3) := by decide +kernel
theorem dX5_digest_31 : decode cX5_digest 31 = .ok (.i2l, 1) := by decide +kernel
theorem dX5_digest_32 : decode cX5_digest 32 = .ok (.invokestatic 293, 3) := by decide +kernel
theorem dX5_digest_35 : decode cX5_digest 35 = .ok (.lstore_n 1, 1) := by decide +kernel
theorem dX5_digest_36 : decode cX5_digest 36 = .ok (.lload_n 1, 1) := by decide +kernel
theorem dX5_digest_37 : decode cX5_digest 37 = .ok (.aload_n 0, 1) := by decide +kernel
theorem dX5_digest_38 : decode cX5_digest 38 = .ok (.iconst 2, 1) := by decide +kernel
theorem dX5_digest_39 : decode cX5_digest 39 = .ok (.iconst 3, 1) := by decide +kernel
theorem dX5_digest_40 : decode cX5_digest 40 = .ok (.invokevirtual 290, 3) := by decide +kernel
theorem dX5_digest_43 : decode cX5_digest 43 = .ok (.i2l, 1) := by decide +kernel
theorem dX5_digest_44 : decode cX5_digest 44 = .ok (.invokestatic 293, 3) := by decide +kernel
theorem dX5_digest_47 : decode cX5_digest 47 = .ok (.lstore_n 1, 1) := by decide +kernel
theorem dX5_digest_48 : decode cX5_digest 48 = .ok (.lload_n 1, 1) := by decide +kernel
theorem dX5_digest_49 : decode cX5_digest 49 = .ok (.aload_n 0, 1) := by decide +kernel
theorem dX5_digest_50 : decode cX5_digest 50 = .ok (.iconst 0, 1) := by decide +kernel
theorem dX5_digest_51 : decode cX5_digest 51 = .ok (.iconst 1, 1) := by decide +kernel
theorem dX5_digest_52 : decode cX5_digest 52 = .ok (.invokevirtual 297, 3) := by decide +kernel
theorem dX5_digest_55 : decode cX5_digest 55 = .ok (.ifCond .eq 7, 3) := by decide +kernel
theorem dX5_digest_58 : decode cX5_digest 58 = .ok (.lconst 1, 1) := by decide +kernel
theorem dX5_digest_59 : decode cX5_digest 59 = .ok (.goto 4, 3) := by decide +kernel
theorem dX5_digest_62 : decode cX5_digest 62 = .ok (.lconst 0, 1) := by decide +kernel
theorem dX5_digest_63 : decode cX5_digest 63 = .ok (.invokestatic 293, 3) := by decide +kernel
theorem dX5_digest_66 : decode cX5_digest 66 = .ok (.lstore_n 1, 1) := by decide +kernel
theorem dX5_digest_67 : decode cX5_digest 67 = .ok (.iconst 0, 1) := by decide +kernel
theorem dX5_digest_68 : decode cX5_digest 68 = .ok (.istore_n 3, 1) := by decide +kernel
theorem dX5_digest_69 : decode cX5_digest 69 = .ok (.iload_n 3, 1) := by decide +kernel
theorem dX5_digest_70 : decode cX5_digest 70 = .ok (.iconst 2, 1) := by decide +kernel
theorem dX5_digest_71 : decode cX5_digest 71 = .ok (.if_icmp .ge 16, 3) := by decide +kernel
theorem dX5_digest_74 : decode cX5_digest 74 = .ok (.aload_n 0, 1) := by decide +kernel
theorem dX5_digest_75 : decode cX5_digest 75 = .ok (.lload_n 1, 1) := by decide +kernel
theorem dX5_digest_76 : decode cX5_digest 76 = .ok (.iload_n 3, 1) := by decide +kernel
theorem dX5_digest_77 : decode cX5_digest 77 = .ok (.invokevirtual 300, 3) := by decide +kernel
theorem dX5_digest_80 : decode cX5_digest 80 = .ok (.lstore_n 1, 1) := by decide +kernel
theorem dX5_digest_81 : decode cX5_digest 81 = .ok (.iinc 3 1, 3) := by decide +kernel
theorem dX5_digest_84 : decode cX5_digest 84 = .ok (.goto (-15), 3) := by decide +kernel
theorem dX5_digest_87 : decode cX5_digest 87 = .ok (.iconst 0, 1) := by decide +kernel
theorem dX5_digest_88 : decode cX5_digest 88 = .ok (.istore_n 3, 1) := by decide +kernel
theorem dX5_digest_89 : decode cX5_digest 89 = .ok (.iload_n 3, 1) := by decide +kernel
theorem dX5_digest_90 : decode cX5_digest 90 = .ok (.iconst 3, 1) := by decide +kernel
theorem dX5_digest_91 : decode cX5_digest 91 = .ok (.if_icmp .gt 20, 3) := by decide +kernel
theorem dX5_digest_94 : decode cX5_digest 94 = .ok (.lload_n 1, 1) := by decide +kernel
theorem dX5_digest_95 : decode cX5_digest 95 = .ok (.aload_n 0, 1) := by decide +kernel
theorem dX5_digest_96 : decode cX5_digest 96 = .ok (.iload_n 3, 1) := by decide +kernel
theorem dX5_digest_97 : decode cX5_digest 97 = .ok (.invokevirtual 303, 3) := by decide +kernel
theorem dX5_digest_100 : decode cX5_digest 100 = .ok (.i2l, 1) := by decide +kernel
theorem dX5_digest_101 : decode cX5_digest 101 = .ok (.invokestatic 293, 3) := by decide +kernel
theorem dX5_digest_104 : decode cX5_digest 104 = .ok (.lstore_n 1, 1) := by decide +kernel
theorem dX5_digest_105 : decode cX5_digest 105 = .ok (.iinc 3 1, 3) := by decide +kernel
theorem dX5_digest_108 : decode cX5_digest 108 = .ok (.goto (-19), 3) := by decide +kernel
theorem dX5_digest_111 : decode cX5_digest 111 = .ok (.lload_n 1, 1) := by decide +kernel
theorem dX5_digest_112 : decode cX5_digest 112 = .ok (.aload_n 0, 1) := by decide +kernel
theorem dX5_digest_113 : decode cX5_digest 113 = .ok (.invokevirtual 306, 3) := by decide +kernel
theorem dX5_digest_116 : decode cX5_digest 116 = .ok (.ifCond .eq 7, 3) := by decide +kernel
theorem dX5_digest_119 : decode cX5_digest 119 = .ok (.lconst 1, 1) := by decide +kernel
theorem dX5_digest_120 : decode cX5_digest 120 = .ok (.goto 4, 3) := by decide +kernel
theorem dX5_digest_123 : decode cX5_digest 123 = .ok (.lconst 0, 1) := by decide +kernel
theorem dX5_digest_124 : decode cX5_digest 124 = .ok (.invokestatic 293, 3) := by decide +kernel
theorem dX5_digest_127 : decode cX5_digest 127 = .ok (.lreturn, 1) := by decide +kernel
theorem dX5_rowOf_0 : decode cX5_rowOf 0 = .ok (.iload_n 1, 1) := by decide +kernel
theorem dX5_rowOf_1 : decode cX5_rowOf 1 = .ok (.ifCond .lt 8, 3) := by decide +kernel
theorem dX5_rowOf_4 : decode cX5_rowOf 4 = .ok (.iload_n 1, 1) := by decide +kernel
theorem dX5_rowOf_5 : decode cX5_rowOf 5 = .ok (.iconst 4, 1) := by decide +kernel
theorem dX5_rowOf_6 : decode cX5_rowOf 6 = .ok (.if_icmp .lt 14, 3) := by decide +kernel
theorem dX5_rowOf_9 : decode cX5_rowOf 9 = .ok (.new 226, 3) := by decide +kernel
theorem dX5_rowOf_12 : decode cX5_rowOf 12 = .ok (.dup, 1) := by decide +kernel
theorem dX5_rowOf_13 : decode cX5_rowOf 13 = .ok (.ldc_w 310, 3) := by decide +kernel
theorem dX5_rowOf_16 : decode cX5_rowOf 16 = .ok (.invokespecial 230, 3) := by decide +kernel
theorem dX5_rowOf_19 : decode cX5_rowOf 19 = .ok (.athrow, 1) := by decide +kernel
theorem dX5_rowOf_20 : decode cX5_rowOf 20 = .ok (.aload_n 0, 1) := by decide +kernel
theorem dX5_rowOf_21 : decode cX5_rowOf 21 = .ok (.getfield 10, 3) := by decide +kernel
theorem dX5_rowOf_24 : decode cX5_rowOf 24 = .ok (.getfield 312, 3) := by decide +kernel
theorem dX5_rowOf_27 : decode cX5_rowOf 27 = .ok (.iload_n 1, 1) := by decide +kernel
theorem dX5_rowOf_28 : decode cX5_rowOf 28 = .ok (.aaload, 1) := by decide +kernel
theorem dX5_rowOf_29 : decode cX5_rowOf 29 = .ok (.areturn, 1) := by decide +kernel
theorem dX5_trackOf_0 : decode cX5_trackOf 0 = .ok (.iload_n 1, 1) := by decide +kernel
theorem dX5_trackOf_1 : decode cX5_trackOf 1 = .ok (.ifCond .lt 8, 3) := by decide +kernel
theorem dX5_trackOf_4 : decode cX5_trackOf 4 = .ok (.iload_n 1, 1) := by decide +kernel
theorem dX5_trackOf_5 : decode cX5_trackOf 5 = .ok (.iconst 2, 1) := by decide +kernel
theorem dX5_trackOf_6 : decode cX5_trackOf 6 = .ok (.if_icmp .lt 14, 3) := by decide +kernel
theorem dX5_trackOf_9 : decode cX5_trackOf 9 = .ok (.new 226, 3) := by decide +kernel
theorem dX5_trackOf_12 : decode cX5_trackOf 12 = .ok (.dup, 1) := by decide +kernel
theorem dX5_trackOf_13 : decode cX5_trackOf 13 = .ok (.ldc_w 316, 3) := by decide +kernel
theorem dX5_trackOf_16 : decode cX5_trackOf 16 = .ok (.invokespecial 230, 3) := by decide +kernel
theorem dX5_trackOf_19 : decode cX5_trackOf 19 = .ok (.athrow, 1) := by decide +kernel
theorem dX5_trackOf_20 : decode cX5_trackOf 20 = .ok (.aload_n 0, 1) := by decide +kernel
theorem dX5_trackOf_21 : decode cX5_trackOf 21 = .ok (.getfield 10, 3) := by decide +kernel
theorem dX5_trackOf_24 : decode cX5_trackOf 24 = .ok (.getfield 318, 3) := by decide +kernel
theorem dX5_trackOf_27 : decode cX5_trackOf 27 = .ok (.iload_n 1, 1) := by decide +kernel
theorem dX5_trackOf_28 : decode cX5_trackOf 28 = .ok (.aaload, 1) := by decide +kernel
theorem dX5_trackOf_29 : decode cX5_trackOf 29 = .ok (.areturn, 1) := by decide +kernel
theorem dX5_numberAt_0 : decode cX5_numberAt 0 = .ok (.aload_n 0, 1) := by decide +kernel
theorem dX5_numberAt_1 : decode cX5_numberAt 1 = .ok (.iload_n 1, 1) := by decide +kernel
theorem dX5_numberAt_2 : decode cX5_numberAt 2 = .ok (.invokevirtual 261, 3) := by decide +kernel
theorem dX5_numberAt_5 : decode cX5_numberAt 5 = .ok (.ifCond .ne 14, 3) := by decide +kernel
theorem dX5_numberAt_8 : decode cX5_numberAt 8 = .ok (.new 226, 3) := by decide +kernel
theorem dX5_numberAt_11 : decode cX5_numberAt 11 = .ok (.dup, 1) := by decide +kernel
theorem dX5_numberAt_12 : decode cX5_numberAt 12 = .ok (.ldc_w 264, 3) := by decide +kernel
theorem dX5_numberAt_15 : decode cX5_numberAt 15 = .ok (.invokespecial 230, 3) := by decide +kernel
theorem dX5_numberAt_18 : decode cX5_numberAt 18 = .ok (.athrow, 1) := by decide +kernel
theorem dX5_numberAt_19 : decode cX5_numberAt 19 = .ok (.aload_n 0, 1) := by decide +kernel
theorem dX5_numberAt_20 : decode cX5_numberAt 20 = .ok (.iload_n 1, 1) := by decide +kernel
theorem dX5_numberAt_21 : decode cX5_numberAt 21 = .ok (.invokevirtual 75, 3) := by decide +kernel
theorem dX5_numberAt_24 : decode cX5_numberAt 24 = .ok (.ireturn, 1) := by decide +kernel
theorem dX5_checkSign_0 : decode cX5_checkSign 0 = .ok (.iload_n 0, 1) := by decide +kernel
theorem dX5_checkSign_1 : decode cX5_checkSign 1 = .ok (.invokestatic 83, 3) := by decide +kernel
theorem dX5_checkSign_4 : decode cX5_checkSign 4 = .ok (.ifCond .ne 14, 3) := by decide +kernel
theorem dX5_checkSign_7 : decode cX5_checkSign 7 = .ok (.new 110, 3) := by decide +kernel
theorem dX5_checkSign_10 : decode cX5_checkSign 10 = .ok (.dup, 1) := by decide +kernel
theorem dX5_checkSign_11 : decode cX5_checkSign 11 = .ok (.ldc_w 321, 3) := by decide +kernel
theorem dX5_checkSign_14 : decode cX5_checkSign 14 = .ok (.invokespecial 114, 3) := by decide +kernel
theorem dX5_checkSign_17 : decode cX5_checkSign 17 = .ok (.athrow, 1) := by decide +kernel
theorem dX5_checkSign_18 : decode cX5_checkSign 18 = .ok (.return_, 1) := by decide +kernel
theorem dX5_checkKind_0 : decode cX5_checkKind 0 = .ok (.iload_n 0, 1) := by decide +kernel
theorem dX5_checkKind_1 : decode cX5_checkKind 1 = .ok (.ifCond .lt 8, 3) := by decide +kernel
theorem dX5_checkKind_4 : decode cX5_checkKind 4 = .ok (.iload_n 0, 1) := by decide +kernel
theorem dX5_checkKind_5 : decode cX5_checkKind 5 = .ok (.iconst 5, 1) := by decide +kernel
theorem dX5_checkKind_6 : decode cX5_checkKind 6 = .ok (.if_icmp .lt 14, 3) := by decide +kernel
theorem dX5_checkKind_9 : decode cX5_checkKind 9 = .ok (.new 110, 3) := by decide +kernel
theorem dX5_checkKind_12 : decode cX5_checkKind 12 = .ok (.dup, 1) := by decide +kernel
theorem dX5_checkKind_13 : decode cX5_checkKind 13 = .ok (.ldc_w 323, 3) := by decide +kernel
theorem dX5_checkKind_16 : decode cX5_checkKind 16 = .ok (.invokespecial 114, 3) := by decide +kernel
theorem dX5_checkKind_19 : decode cX5_checkKind 19 = .ok (.athrow, 1) := by decide +kernel
theorem dX5_checkKind_20 : decode cX5_checkKind 20 = .ok (.return_, 1) := by decide +kernel
theorem dX5_checkRadix_0 : decode cX5_checkRadix 0 = .ok (.iload_n 0, 1) := by decide +kernel
theorem dX5_checkRadix_1 : decode cX5_checkRadix 1 = .ok (.invokestatic 325, 3) := by decide +kernel
theorem dX5_checkRadix_4 : decode cX5_checkRadix 4 = .ok (.ifCond .ne 14, 3) := by decide +kernel
theorem dX5_checkRadix_7 : decode cX5_checkRadix 7 = .ok (.new 110, 3) := by decide +kernel
theorem dX5_checkRadix_10 : decode cX5_checkRadix 10 = .ok (.dup, 1) := by decide +kernel
theorem dX5_checkRadix_11 : decode cX5_checkRadix 11 = .ok (.ldc_w 328, 3) := by decide +kernel
theorem dX5_checkRadix_14 : decode cX5_checkRadix 14 = .ok (.invokespecial 114, 3) := by decide +kernel
theorem dX5_checkRadix_17 : decode cX5_checkRadix 17 = .ok (.athrow, 1) := by decide +kernel
theorem dX5_checkRadix_18 : decode cX5_checkRadix 18 = .ok (.return_, 1) := by decide +kernel
theorem dX5_checkUnit_0 : decode cX5_checkUnit 0 = .ok (.iload_n 0, 1) := by decide +kernel
theorem dX5_checkUnit_1 : decode cX5_checkUnit 1 = .ok (.invokestatic 234, 3) := by decide +kernel
theorem dX5_checkUnit_4 : decode cX5_checkUnit 4 = .ok (.ifCond .ne 14, 3) := by decide +kernel
theorem dX5_checkUnit_7 : decode cX5_checkUnit 7 = .ok (.new 110, 3) := by decide +kernel
theorem dX5_checkUnit_10 : decode cX5_checkUnit 10 = .ok (.dup, 1) := by decide +kernel
theorem dX5_checkUnit_11 : decode cX5_checkUnit 11 = .ok (.ldc_w 330, 3) := by decide +kernel
theorem dX5_checkUnit_14 : decode cX5_checkUnit 14 = .ok (.invokespecial 114, 3) := by decide +kernel
theorem dX5_checkUnit_17 : decode cX5_checkUnit 17 = .ok (.athrow, 1) := by decide +kernel
theorem dX5_checkUnit_18 : decode cX5_checkUnit 18 = .ok (.return_, 1) := by decide +kernel
theorem dX5_checkAreTwo_0 : decode cX5_checkAreTwo 0 = .ok (.iload_n 0, 1) := by decide +kernel
theorem dX5_checkAreTwo_1 : decode cX5_checkAreTwo 1 = .ok (.iload_n 1, 1) := by decide +kernel
theorem dX5_checkAreTwo_2 : decode cX5_checkAreTwo 2 = .ok (.if_icmp .ne 14, 3) := by decide +kernel
theorem dX5_checkAreTwo_5 : decode cX5_checkAreTwo 5 = .ok (.new 110, 3) := by decide +kernel
theorem dX5_checkAreTwo_8 : decode cX5_checkAreTwo 8 = .ok (.dup, 1) := by decide +kernel
theorem dX5_checkAreTwo_9 : decode cX5_checkAreTwo 9 = .ok (.ldc_w 332, 3) := by decide +kernel
theorem dX5_checkAreTwo_12 : decode cX5_checkAreTwo 12 = .ok (.invokespecial 114, 3) := by decide +kernel
theorem dX5_checkAreTwo_15 : decode cX5_checkAreTwo 15 = .ok (.athrow, 1) := by decide +kernel
theorem dX5_checkAreTwo_16 : decode cX5_checkAreTwo 16 = .ok (.return_, 1) := by decide +kernel
theorem dX5_laid_0 : decode cX5_laid 0 = .ok (.iload_n 0, 1) := by decide +kernel
theorem dX5_laid_1 : decode cX5_laid 1 = .ok (.iconst (-1), 1) := by decide +kernel
theorem dX5_laid_2 : decode cX5_laid 2 = .ok (.if_icmp .ne 5, 3) := by decide +kernel
theorem dX5_laid_5 : decode cX5_laid 5 = .ok (.iconst 0, 1) := by decide +kernel
theorem dX5_laid_6 : decode cX5_laid 6 = .ok (.ireturn, 1) := by decide +kernel
theorem dX5_laid_7 : decode cX5_laid 7 = .ok (.iload_n 0, 1) := by decide +kernel
theorem dX5_laid_8 : decode cX5_laid 8 = .ok (.invokestatic 189, 3) := by decide +kernel
theorem dX5_laid_11 : decode cX5_laid 11 = .ok (.iconst 1, 1) := by decide +kernel
theorem dX5_laid_12 : decode cX5_laid 12 = .ok (.ireturn, 1) := by decide +kernel
theorem dX5_addLaid_0 : decode cX5_addLaid 0 = .ok (.iload_n 1, 1) := by decide +kernel
theorem dX5_addLaid_1 : decode cX5_addLaid 1 = .ok (.iconst (-1), 1) := by decide +kernel
theorem dX5_addLaid_2 : decode cX5_addLaid 2 = .ok (.if_icmp .eq 8, 3) := by decide +kernel
theorem dX5_addLaid_5 : decode cX5_addLaid 5 = .ok (.aload_n 0, 1) := by decide +kernel
theorem dX5_addLaid_6 : decode cX5_addLaid 6 = .ok (.iload_n 1, 1) := by decide +kernel
theorem dX5_addLaid_7 : decode cX5_addLaid 7 = .ok (.invokevirtual 129, 3) := by decide +kernel
theorem dX5_addLaid_10 : decode cX5_addLaid 10 = .ok (.return_, 1) := by decide +kernel
theorem dX5_shorten_0 : decode cX5_shorten 0 = .ok (.iload_n 2, 1) := by decide +kernel
theorem dX5_shorten_1 : decode cX5_shorten 1 = .ok (.ifCond .lt 11, 3) := by decide +kernel
theorem dX5_shorten_4 : decode cX5_shorten 4 = .ok (.iload_n 2, 1) := by decide +kernel
theorem dX5_shorten_5 : decode cX5_shorten 5 = .ok (.aload_n 1, 1) := by decide +kernel
theorem dX5_shorten_6 : decode cX5_shorten 6 = .ok (.invokevirtual 63, 3) := by decide +kernel
theorem dX5_shorten_9 : decode cX5_shorten 9 = .ok (.if_icmp .le 14, 3) := by decide +kernel
theorem dX5_shorten_12 : decode cX5_shorten 12 = .ok (.new 110, 3) := by decide +kernel
theorem dX5_shorten_15 : decode cX5_shorten 15 = .ok (.dup, 1) := by decide +kernel
theorem dX5_shorten_16 : decode cX5_shorten 16 = .ok (.ldc_w 334, 3) := by decide +kernel
theorem dX5_shorten_19 : decode cX5_shorten 19 = .ok (.invokespecial 114, 3) := by decide +kernel
theorem dX5_shorten_22 : decode cX5_shorten 22 = .ok (.athrow, 1) := by decide +kernel
theorem dX5_shorten_23 : decode cX5_shorten 23 = .ok (.aload_n 0, 1) := by decide +kernel
theorem dX5_shorten_24 : decode cX5_shorten 24 = .ok (.getfield 19, 3) := by decide +kernel
theorem dX5_shorten_27 : decode cX5_shorten 27 = .ok (.aload_n 0, 1) := by decide +kernel
theorem dX5_shorten_28 : decode cX5_shorten 28 = .ok (.getfield 10, 3) := by decide +kernel
theorem dX5_shorten_31 : decode cX5_shorten 31 = .ok (.invokevirtual 55, 3) := by decide +kernel
theorem dX5_shorten_34 : decode cX5_shorten 34 = .ok (.aload_n 1, 1) := by decide +kernel
theorem dX5_shorten_35 : decode cX5_shorten 35 = .ok (.iload_n 2, 1) := by decide +kernel
theorem dX5_shorten_36 : decode cX5_shorten 36 = .ok (.invokevirtual 100, 3) := by decide +kernel
theorem dX5_shorten_39 : decode cX5_shorten 39 = .ok (.aload_n 1, 1) := by decide +kernel
theorem dX5_shorten_40 : decode cX5_shorten 40 = .ok (.invokevirtual 63, 3) := by decide +kernel
theorem dX5_shorten_43 : decode cX5_shorten 43 = .ok (.ireturn, 1) := by decide +kernel
theorem dX5_canBeRead_0 : decode cX5_canBeRead 0 = .ok (.aload_n 0, 1) := by decide +kernel
theorem dX5_canBeRead_1 : decode cX5_canBeRead 1 = .ok (.invokevirtual 63, 3) := by decide +kernel
theorem dX5_canBeRead_4 : decode cX5_canBeRead 4 = .ok (.iconst 2, 1) := by decide +kernel
theorem dX5_canBeRead_5 : decode cX5_canBeRead 5 = .ok (.irem, 1) := by decide +kernel
theorem dX5_canBeRead_6 : decode cX5_canBeRead 6 = .ok (.ifCond .eq 5, 3) := by decide +kernel
theorem dX5_canBeRead_9 : decode cX5_canBeRead 9 = .ok (.iconst 0, 1) := by decide +kernel
theorem dX5_canBeRead_10 : decode cX5_canBeRead 10 = .ok (.ireturn, 1) := by decide +kernel
theorem dX5_canBeRead_11 : decode cX5_canBeRead 11 = .ok (.iconst 0, 1) := by decide +kernel
theorem dX5_canBeRead_12 : decode cX5_canBeRead 12 = .ok (.istore_n 1, 1) := by decide +kernel
theorem dX5_canBeRead_13 : decode cX5_canBeRead 13 = .ok (.iload_n 1, 1) := by decide +kernel
theorem dX5_canBeRead_14 : decode cX5_canBeRead 14 = .ok (.aload_n 0, 1) := by decide +kernel
theorem dX5_canBeRead_15 : decode cX5_canBeRead 15 = .ok (.invokevirtual 63, 3) := by decide +kernel
theorem dX5_canBeRead_18 : decode cX5_canBeRead 18 = .ok (.if_icmp .ge 25, 3) := by decide +kernel
theorem dX5_canBeRead_21 : decode cX5_canBeRead 21 = .ok (.aload_n 0, 1) := by decide +kernel
theorem dX5_canBeRead_22 : decode cX5_canBeRead 22 = .ok (.iload_n 1, 1) := by decide +kernel
theorem dX5_canBeRead_23 : decode cX5_canBeRead 23 = .ok (.invokevirtual 75, 3) := by decide +kernel
theorem dX5_canBeRead_26 : decode cX5_canBeRead 26 = .ok (.bipush 16, 2) := by decide +kernel
theorem dX5_canBeRead_28 : decode cX5_canBeRead 28 = .ok (.invokestatic 148, 3) := by decide +kernel
theorem dX5_canBeRead_31 : decode cX5_canBeRead 31 = .ok (.iconst (-1), 1) := by decide +kernel
theorem dX5_canBeRead_32 : decode cX5_canBeRead 32 = .ok (.if_icmp .ne 5, 3) := by decide +kernel
theorem dX5_canBeRead_35 : decode cX5_canBeRead 35 = .ok (.iconst 0, 1) := by decide +kernel
theorem dX5_canBeRead_36 : decode cX5_canBeRead 36 = .ok (.ireturn, 1) := by decide +kernel
theorem dX5_canBeRead_37 : decode cX5_canBeRead 37 = .ok (.iinc 1 1, 3) := by decide +kernel
theorem dX5_canBeRead_40 : decode cX5_canBeRead 40 = .ok (.goto (-27), 3) := by decide +kernel
theorem dX5_canBeRead_43 : decode cX5_canBeRead 43 = .ok (.iconst 1, 1) := by decide +kernel
theorem dX5_canBeRead_44 : decode cX5_canBeRead 44 = .ok (.ireturn, 1) := by decide +kernel
theorem dX5_isWordBegin_0 : decode cX5_isWordBegin 0 = .ok (.aload_n 0, 1) := by decide +kernel
theorem dX5_isWordBegin_1 : decode cX5_isWordBegin 1 = .ok (.iload_n 1, 1) := by decide +kernel
theorem dX5_isWordBegin_2 : decode cX5_isWordBegin 2 = .ok (.invokevirtual 75, 3) := by decide +kernel
theorem dX5_isWordBegin_5 : decode cX5_isWordBegin 5 = .ok (.iconst 2, 1) := by decide +kernel
theorem dX5_isWordBegin_6 : decode cX5_isWordBegin 6 = .ok (.invokestatic 96, 3) := by decide +kernel
theorem dX5_isWordBegin_9 : decode cX5_isWordBegin 9 = .ok (.ifCond .ne 5, 3) := by decide +kernel
theorem dX5_isWordBegin_12 : decode cX5_isWordBegin 12 = .ok (.iconst 0, 1) := by decide +kernel
theorem dX5_isWordBegin_13 : decode cX5_isWordBegin 13 = .ok (.ireturn, 1) := by decide +kernel
theorem dX5_isWordBegin_14 : decode cX5_isWordBegin 14 = .ok (.iload_n 1, 1) := by decide +kernel
theorem dX5_isWordBegin_15 : decode cX5_isWordBegin 15 = .ok (.ifCond .eq 17, 3) := by decide +kernel
theorem dX5_isWordBegin_18 : decode cX5_isWordBegin 18 = .ok (.aload_n 0, 1) := by decide +kernel
theorem dX5_isWordBegin_19 : decode cX5_isWordBegin 19 = .ok (.iload_n 1, 1) := by decide +kernel
theorem dX5_isWordBegin_20 : decode cX5_isWordBegin 20 = .ok (.iconst 1, 1) := by decide +kernel
theorem dX5_isWordBegin_21 : decode cX5_isWordBegin 21 = .ok (.isub, 1) := by decide +kernel
theorem dX5_isWordBegin_22 : decode cX5_isWordBegin 22 = .ok (.invokevirtual 75, 3) := by decide +kernel
theorem dX5_isWordBegin_25 : decode cX5_isWordBegin 25 = .ok (.iconst 2, 1) := by decide +kernel
theorem dX5_isWordBegin_26 : decode cX5_isWordBegin 26 = .ok (.invokestatic 96, 3) := by decide +kernel
theorem dX5_isWordBegin_29 : decode cX5_isWordBegin 29 = .ok (.ifCond .ne 7, 3) := by decide +kernel
theorem dX5_isWordBegin_32 : decode cX5_isWordBegin 32 = .ok (.iconst 1, 1) := by decide +kernel
theorem dX5_isWordBegin_33 : decode cX5_isWordBegin 33 = .ok (.goto 4, 3) := by decide +kernel
theorem dX5_isWordBegin_36 : decode cX5_isWordBegin 36 = .ok (.iconst 0, 1) := by decide +kernel
theorem dX5_isWordBegin_37 : decode cX5_isWordBegin 37 = .ok (.ireturn, 1) := by decide +kernel
theorem dX5_wordBegin_0 : decode cX5_wordBegin 0 = .ok (.iconst 0, 1) := by decide +kernel
theorem dX5_wordBegin_1 : decode cX5_wordBegin 1 = .ok (.istore_n 2, 1) := by decide +kernel
theorem dX5_wordBegin_2 : decode cX5_wordBegin 2 = .ok (.iconst 0, 1) := by decide +kernel
theorem dX5_wordBegin_3 : decode cX5_wordBegin 3 = .ok (.istore_n 3, 1) := by decide +kernel
theorem dX5_wordBegin_4 : decode cX5_wordBegin 4 = .ok (.iload_n 3, 1) := by decide +kernel
theorem dX5_wordBegin_5 : decode cX5_wordBegin 5 = .ok (.aload_n 0, 1) := by decide +kernel
theorem dX5_wordBegin_6 : decode cX5_wordBegin 6 = .ok (.invokevirtual 63, 3) := by decide +kernel
theorem dX5_wordBegin_9 : decode cX5_wordBegin 9 = .ok (.if_icmp .ge 27, 3) := by decide +kernel
theorem dX5_wordBegin_12 : decode cX5_wordBegin 12 = .ok (.aload_n 0, 1) := by decide +kernel
theorem dX5_wordBegin_13 : decode cX5_wordBegin 13 = .ok (.iload_n 3, 1) := by decide +kernel
theorem dX5_wordBegin_14 : decode cX5_wordBegin 14 = .ok (.invokestatic 219, 3) := by decide +kernel
theorem dX5_wordBegin_17 : decode cX5_wordBegin 17 = .ok (.ifCond .eq 13, 3) := by decide +kernel
theorem dX5_wordBegin_20 : decode cX5_wordBegin 20 = .ok (.iload_n 2, 1) := by decide +kernel
theorem dX5_wordBegin_21 : decode cX5_wordBegin 21 = .ok (.iload_n 1, 1) := by decide +kernel
theorem dX5_wordBegin_22 : decode cX5_wordBegin 22 = .ok (.if_icmp .ne 5, 3) := by decide +kernel
theorem dX5_wordBegin_25 : decode cX5_wordBegin 25 = .ok (.iload_n 3, 1) := by decide +kernel
theorem dX5_wordBegin_26 : decode cX5_wordBegin 26 = .ok (.ireturn, 1) := by decide +kernel
theorem dX5_wordBegin_27 : decode cX5_wordBegin 27 = .ok (.iinc 2 1, 3) := by decide +kernel
theorem dX5_wordBegin_30 : decode cX5_wordBegin 30 = .ok (.iinc 3 1, 3) := by decide +kernel
theorem dX5_wordBegin_33 : decode cX5_wordBegin 33 = .ok (.goto (-29), 3) := by decide +kernel
theorem dX5_wordBegin_36 : decode cX5_wordBegin 36 = .ok (.iconst (-1), 1) := by decide +kernel
theorem dX5_wordBegin_37 : decode cX5_wordBegin 37 = .ok (.ireturn, 1) := by decide +kernel
theorem dX5_ahead_0 : decode cX5_ahead 0 = .ok (.iload_n 0, 1) := by decide +kernel
theorem dX5_ahead_1 : decode cX5_ahead 1 = .ok (.iload_n 1, 1) := by decide +kernel
theorem dX5_ahead_2 : decode cX5_ahead 2 = .ok (.if_icmp .ne 5, 3) := by decide +kernel
theorem dX5_ahead_5 : decode cX5_ahead 5 = .ok (.iconst 0, 1) := by decide +kernel
theorem dX5_ahead_6 : decode cX5_ahead 6 = .ok (.ireturn, 1) := by decide +kernel
theorem dX5_ahead_7 : decode cX5_ahead 7 = .ok (.iload_n 0, 1) := by decide +kernel
theorem dX5_ahead_8 : decode cX5_ahead 8 = .ok (.iload_n 1, 1) := by decide +kernel
theorem dX5_ahead_9 : decode cX5_ahead 9 = .ok (.if_icmp .ge 7, 3) := by decide +kernel
theorem dX5_ahead_12 : decode cX5_ahead 12 = .ok (.iconst (-1), 1) := by decide +kernel
theorem dX5_ahead_13 : decode cX5_ahead 13 = .ok (.goto 4, 3) := by decide +kernel
theorem dX5_ahead_16 : decode cX5_ahead 16 = .ok (.iconst 1, 1) := by decide +kernel
theorem dX5_ahead_17 : decode cX5_ahead 17 = .ok (.ireturn, 1) := by decide +kernel
theorem dX5_isSoundRow_0 : decode cX5_isSoundRow 0 = .ok (.aload_n 0, 1) := by decide +kernel
theorem dX5_isSoundRow_1 : decode cX5_isSoundRow 1 = .ok (.invokevirtual 63, 3) := by decide +kernel
theorem dX5_isSoundRow_4 : decode cX5_isSoundRow 4 = .ok (.bipush 40, 2) := by decide +kernel
theorem dX5_isSoundRow_6 : decode cX5_isSoundRow 6 = .ok (.if_icmp .le 5, 3) := by decide +kernel
theorem dX5_isSoundRow_9 : decode cX5_isSoundRow 9 = .ok (.iconst 0, 1) := by decide +kernel
theorem dX5_isSoundRow_10 : decode cX5_isSoundRow 10 = .ok (.ireturn, 1) := by decide +kernel
theorem dX5_isSoundRow_11 : decode cX5_isSoundRow 11 = .ok (.iconst 0, 1) := by decide +kernel
theorem dX5_isSoundRow_12 : decode cX5_isSoundRow 12 = .ok (.istore_n 1, 1) := by decide +kernel
theorem dX5_isSoundRow_13 : decode cX5_isSoundRow 13 = .ok (.iload_n 1, 1) := by decide +kernel
theorem dX5_isSoundRow_14 : decode cX5_isSoundRow 14 = .ok (.aload_n 0, 1) := by decide +kernel
theorem dX5_isSoundRow_15 : decode cX5_isSoundRow 15 = .ok (.invokevirtual 63, 3) := by decide +kernel
theorem dX5_isSoundRow_18 : decode cX5_isSoundRow 18 = .ok (.if_icmp .ge 22, 3) := by decide +kernel
theorem dX5_isSoundRow_21 : decode cX5_isSoundRow 21 = .ok (.aload_n 0, 1) := by decide +kernel
theorem dX5_isSoundRow_22 : decode cX5_isSoundRow 22 = .ok (.iload_n 1, 1) := by decide +kernel
theorem dX5_isSoundRow_23 : decode cX5_isSoundRow 23 = .ok (.invokevirtual 75, 3) := by decide +kernel
theorem dX5_isSoundRow_26 : decode cX5_isSoundRow 26 = .ok (.invokestatic 336, 3) := by decide +kernel
theorem dX5_isSoundRow_29 : decode cX5_isSoundRow 29 = .ok (.ifCond .ne 5, 3) := by decide +kernel
theorem dX5_isSoundRow_32 : decode cX5_isSoundRow 32 = .ok (.iconst 0, 1) := by decide +kernel
theorem dX5_isSoundRow_33 : decode cX5_isSoundRow 33 = .ok (.ireturn, 1) := by decide +kernel
theorem dX5_isSoundRow_34 : decode cX5_isSoundRow 34 = .ok (.iinc 1 1, 3) := by decide +kernel
theorem dX5_isSoundRow_37 : decode cX5_isSoundRow 37 = .ok (.goto (-24), 3) := by decide +kernel
theorem dX5_isSoundRow_40 : decode cX5_isSoundRow 40 = .ok (.iconst 1, 1) := by decide +kernel
theorem dX5_isSoundRow_41 : decode cX5_isSoundRow 41 = .ok (.ireturn, 1) := by decide +kernel
theorem dX5_isSoundTrack_0 : decode cX5_isSoundTrack 0 = .ok (.aload_n 0, 1) := by decide +kernel
theorem dX5_isSoundTrack_1 : decode cX5_isSoundTrack 1 = .ok (.invokevirtual 63, 3) := by decide +kernel
theorem dX5_isSoundTrack_4 : decode cX5_isSoundTrack 4 = .ok (.bipush 24, 2) := by decide +kernel
theorem dX5_isSoundTrack_6 : decode cX5_isSoundTrack 6 = .ok (.if_icmp .gt 14, 3) := by decide +kernel
theorem dX5_isSoundTrack_9 : decode cX5_isSoundTrack 9 = .ok (.aload_n 0, 1) := by decide +kernel
theorem dX5_isSoundTrack_10 : decode cX5_isSoundTrack 10 = .ok (.invokestatic 339, 3) := by decide +kernel
theorem dX5_isSoundTrack_13 : decode cX5_isSoundTrack 13 = .ok (.ifCond .eq 7, 3) := by decide +kernel
theorem dX5_isSoundTrack_16 : decode cX5_isSoundTrack 16 = .ok (.iconst 1, 1) := by decide +kernel
theorem dX5_isSoundTrack_17 : decode cX5_isSoundTrack 17 = .ok (.goto 4, 3) := by decide +kernel
theorem dX5_isSoundTrack_20 : decode cX5_isSoundTrack 20 = .ok (.iconst 0, 1) := by decide +kernel
theorem dX5_isSoundTrack_21 : decode cX5_isSoundTrack 21 = .ok (.ireturn, 1) := by decide +kernel
theorem dX5_with_0 : decode cX5_with 0 = .ok (.lload_n 0, 1) := by decide +kernel
theorem dX5_with_1 : decode cX5_with 1 = .ok (.ldc2_w 342, 3) := by decide +kernel
theorem dX5_with_4 : decode cX5_with 4 = .ok (.lmul, 1) := by decide +kernel
theorem dX5_with_5 : decode cX5_with 5 = .ok (.lload_n 2, 1) := by decide +kernel
theorem dX5_with_6 : decode cX5_with 6 = .ok (.ladd, 1) := by decide +kernel
theorem dX5_with_7 : decode cX5_with 7 = .ok (.lreturn, 1) := by decide +kernel
theorem dX5_withRow_0 : decode cX5_withRow 0 = .ok (.aload_n 0, 1) := by decide +kernel
theorem dX5_withRow_1 : decode cX5_withRow 1 = .ok (.iload_n 3, 1) := by decide +kernel
theorem dX5_withRow_2 : decode cX5_withRow 2 = .ok (.invokevirtual 36, 3) := by decide +kernel
theorem dX5_withRow_5 : decode cX5_withRow 5 = .ok (.astore 4, 2) := by decide +kernel
theorem dX5_withRow_7 : decode cX5_withRow 7 = .ok (.lload_n 1, 1) := by decide +kernel
theorem dX5_withRow_8 : decode cX5_withRow 8 = .ok (.aload 4, 2) := by decide +kernel
theorem dX5_withRow_10 : decode cX5_withRow 10 = .ok (.invokevirtual 63, 3) := by decide +kernel
theorem dX5_withRow_13 : decode cX5_withRow 13 = .ok (.i2l, 1) := by decide +kernel
theorem dX5_withRow_14 : decode cX5_withRow 14 = .ok (.invokestatic 293, 3) := by decide +kernel
theorem dX5_withRow_17 : decode cX5_withRow 17 = .ok (.lstore 5, 2) := by decide +kernel
theorem dX5_withRow_19 : decode cX5_withRow 19 = .ok (.iconst 0, 1) := by decide +kernel
theorem dX5_withRow_20 : decode cX5_withRow 20 = .ok (.istore 7, 2) := by decide +kernel
theorem dX5_withRow_22 : decode cX5_withRow 22 = .ok (.iload 7, 2) := by decide +kernel
theorem dX5_withRow_24 : decode cX5_withRow 24 = .ok (.aload 4, 2) := by decide +kernel
theorem dX5_withRow_26 : decode cX5_withRow 26 = .ok (.invokevirtual 63, 3) := by decide +kernel
theorem dX5_withRow_29 : decode cX5_withRow 29 = .ok (.if_icmp .ge 95, 3) := by decide +kernel
theorem dX5_withRow_32 : decode cX5_withRow 32 = .ok (.aload 4, 2) := by decide +kernel
theorem dX5_withRow_34 : decode cX5_withRow 34 = .ok (.iload 7, 2) := by decide +kernel
theorem dX5_withRow_36 : decode cX5_withRow 36 = .ok (.invokevirtual 75, 3) := by decide +kernel
theorem dX5_withRow_39 : decode cX5_withRow 39 = .ok (.istore 8, 2) := by decide +kernel
theorem dX5_withRow_41 : decode cX5_withRow 41 = .ok (.lload 5, 2) := by decide +kernel
theorem dX5_withRow_43 : decode cX5_withRow 43 = .ok (.iload 8, 2) := by decide +kernel
theorem dX5_withRow_45 : decode cX5_withRow 45 = .ok (.i2l, 1) := by decide +kernel
theorem dX5_withRow_46 : decode cX5_withRow 46 = .ok (.invokestatic 293, 3) := by decide +kernel
theorem dX5_withRow_49 : decode cX5_withRow 49 = .ok (.lstore 5, 2) := by decide +kernel
theorem dX5_withRow_51 : decode cX5_withRow 51 = .ok (.lload 5, 2) := by decide +kernel
theorem dX5_withRow_53 : decode cX5_withRow 53 = .ok (.iload 8, 2) := by decide +kernel
theorem dX5_withRow_55 : decode cX5_withRow 55 = .ok (.invokestatic 192, 3) := by decide +kernel
theorem dX5_withRow_58 : decode cX5_withRow 58 = .ok (.i2l, 1) := by decide +kernel
theorem dX5_withRow_59 : decode cX5_withRow 59 = .ok (.invokestatic 293, 3) := by decide +kernel
theorem dX5_withRow_62 : decode cX5_withRow 62 = .ok (.lstore 5, 2) := by decide +kernel
theorem dX5_withRow_64 : decode cX5_withRow 64 = .ok (.lload 5, 2) := by decide +kernel
theorem dX5_withRow_66 : decode cX5_withRow 66 = .ok (.iload 8, 2) := by decide +kernel
theorem dX5_withRow_68 : decode cX5_withRow 68 = .ok (.invokestatic 78, 3) := by decide +kernel
theorem dX5_withRow_71 : decode cX5_withRow 71 = .ok (.i2l, 1) := by decide +kernel
theorem dX5_withRow_72 : decode cX5_withRow 72 = .ok (.invokestatic 293, 3) := by decide +kernel
theorem dX5_withRow_75 : decode cX5_withRow 75 = .ok (.lstore 5, 2) := by decide +kernel
theorem dX5_withRow_77 : decode cX5_withRow 77 = .ok (.lload 5, 2) := by decide +kernel
theorem dX5_withRow_79 : decode cX5_withRow 79 = .ok (.iload 8, 2) := by decide +kernel
theorem dX5_withRow_81 : decode cX5_withRow 81 = .ok (.invokestatic 90, 3) := by decide +kernel
theorem dX5_withRow_84 : decode cX5_withRow 84 = .ok (.i2l, 1) := by decide +kernel
theorem dX5_withRow_85 : decode cX5_withRow 85 = .ok (.invokestatic 293, 3) := by decide +kernel
theorem dX5_withRow_88 : decode cX5_withRow 88 = .ok (.lstore 5, 2) := by decide +kernel
theorem dX5_withRow_90 : decode cX5_withRow 90 = .ok (.lload 5, 2) := by decide +kernel
theorem dX5_withRow_92 : decode cX5_withRow 92 = .ok (.iload 8, 2) := by decide +kernel
theorem dX5_withRow_94 : decode cX5_withRow 94 = .ok (.invokestatic 195, 3) := by decide +kernel
theorem dX5_withRow_97 : decode cX5_withRow 97 = .ok (.i2l, 1) := by decide +kernel
theorem dX5_withRow_98 : decode cX5_withRow 98 = .ok (.invokestatic 293, 3) := by decide +kernel
theorem dX5_withRow_101 : decode cX5_withRow 101 = .ok (.lstore 5, 2) := by decide +kernel
theorem dX5_withRow_103 : decode cX5_withRow 103 = .ok (.lload 5, 2) := by decide +kernel
theorem dX5_withRow_105 : decode cX5_withRow 105 = .ok (.iload 8, 2) := by decide +kernel
theorem dX5_withRow_107 : decode cX5_withRow 107 = .ok (.bipush 16, 2) := by decide +kernel
theorem dX5_withRow_109 : decode cX5_withRow 109 = .ok (.invokestatic 148, 3) := by decide +kernel
theorem dX5_withRow_112 : decode cX5_withRow 112 = .ok (.i2l, 1) := by decide +kernel
theorem dX5_withRow_113 : decode cX5_withRow 113 = .ok (.invokestatic 293, 3) := by decide +kernel
theorem dX5_withRow_116 : decode cX5_withRow 116 = .ok (.lstore 5, 2) := by decide +kernel
theorem dX5_withRow_118 : decode cX5_withRow 118 = .ok (.iinc 7 1, 3) := by decide +kernel
theorem dX5_withRow_121 : decode cX5_withRow 121 = .ok (.goto (-99), 3) := by decide +kernel
theorem dX5_withRow_124 : decode cX5_withRow 124 = .ok (.iconst 0, 1) := by decide +kernel
theorem dX5_withRow_125 : decode cX5_withRow 125 = .ok (.istore 7, 2) := by decide +kernel
theorem dX5_withRow_127 : decode cX5_withRow 127 = .ok (.iload 7, 2) := by decide +kernel
theorem dX5_withRow_129 : decode cX5_withRow 129 = .ok (.iconst 5, 1) := by decide +kernel
theorem dX5_withRow_130 : decode cX5_withRow 130 = .ok (.if_icmp .ge 24, 3) := by decide +kernel
theorem dX5_withRow_133 : decode cX5_withRow 133 = .ok (.lload 5, 2) := by decide +kernel
theorem dX5_withRow_135 : decode cX5_withRow 135 = .ok (.aload_n 0, 1) := by decide +kernel
theorem dX5_withRow_136 : decode cX5_withRow 136 = .ok (.iload_n 3, 1) := by decide +kernel
theorem dX5_withRow_137 : decode cX5_withRow 137 = .ok (.iload 7, 2) := by decide +kernel
theorem dX5_withRow_139 : decode cX5_withRow 139 = .ok (.invokevirtual 344, 3) := by decide +kernel
theorem dX5_withRow_142 : decode cX5_withRow 142 = .ok (.i2l, 1) := by decide +kernel
theorem dX5_withRow_143 : decode cX5_withRow 143 = .ok (.invokestatic 293, 3) := by decide +kernel
theorem dX5_withRow_146 : decode cX5_withRow 146 = .ok (.lstore 5, 2) := by decide +kernel
theorem dX5_withRow_148 : decode cX5_withRow 148 = .ok (.iinc 7 1, 3) := by decide +kernel
theorem dX5_withRow_151 : decode cX5_withRow 151 = .ok (.goto (-24), 3) := by decide +kernel
theorem dX5_withRow_154 : decode cX5_withRow 154 = .ok (.lload 5, 2) := by decide +kernel
theorem dX5_withRow_156 : decode cX5_withRow 156 = .ok (.aload_n 0, 1) := by decide +kernel
theorem dX5_withRow_157 : decode cX5_withRow 157 = .ok (.iload_n 3, 1) := by decide +kernel
theorem dX5_withRow_158 : decode cX5_withRow 158 = .ok (.bipush 36, 2) := by decide +kernel
theorem dX5_withRow_160 : decode cX5_withRow 160 = .ok (.invokevirtual 347, 3) := by decide +kernel
theorem dX5_withRow_163 : decode cX5_withRow 163 = .ok (.i2l, 1) := by decide +kernel
theorem dX5_withRow_164 : decode cX5_withRow 164 = .ok (.invokestatic 293, 3) := by decide +kernel
theorem dX5_withRow_167 : decode cX5_withRow 167 = .ok (.lstore 5, 2) := by decide +kernel
theorem dX5_withRow_169 : decode cX5_withRow 169 = .ok (.lload 5, 2) := by decide +kernel
theorem dX5_withRow_171 : decode cX5_withRow 171 = .ok (.aload_n 0, 1) := by decide +kernel
theorem dX5_withRow_172 : decode cX5_withRow 172 = .ok (.iload_n 3, 1) := by decide +kernel
theorem dX5_withRow_173 : decode cX5_withRow 173 = .ok (.invokevirtual 350, 3) := by decide +kernel
theorem dX5_withRow_176 : decode cX5_withRow 176 = .ok (.i2l, 1) := by decide +kernel
theorem dX5_withRow_177 : decode cX5_withRow 177 = .ok (.invokestatic 293, 3) := by decide +kernel
theorem dX5_withRow_180 : decode cX5_withRow 180 = .ok (.lstore 5, 2) := by decide +kernel
theorem dX5_withRow_182 : decode cX5_withRow 182 = .ok (.lload 5, 2) := by decide +kernel
theorem dX5_withRow_184 : decode cX5_withRow 184 = .ok (.aload_n 0, 1) := by decide +kernel
theorem dX5_withRow_185 : decode cX5_withRow 185 = .ok (.iload_n 3, 1) := by decide +kernel
theorem dX5_withRow_186 : decode cX5_withRow 186 = .ok (.invokevirtual 353, 3) := by decide +kernel
theorem dX5_withRow_189 : decode cX5_withRow 189 = .ok (.i2l, 1) := by decide +kernel
theorem dX5_withRow_190 : decode cX5_withRow 190 = .ok (.invokestatic 293, 3) := by decide +kernel
theorem dX5_withRow_193 : decode cX5_withRow 193 = .ok (.lstore 5, 2) := by decide +kernel
theorem dX5_withRow_195 : decode cX5_withRow 195 = .ok (.lload 5, 2) := by decide +kernel
theorem dX5_withRow_197 : decode cX5_withRow 197 = .ok (.aload 4, 2) := by decide +kernel
theorem dX5_withRow_199 : decode cX5_withRow 199 = .ok (.invokevirtual 63, 3) := by decide +kernel
theorem dX5_withRow_202 : decode cX5_withRow 202 = .ok (.i2l, 1) := by decide +kernel
theorem dX5_withRow_203 : decode cX5_withRow 203 = .ok (.invokestatic 293, 3) := by decide +kernel
theorem dX5_withRow_206 : decode cX5_withRow 206 = .ok (.lstore 5, 2) := by decide +kernel
theorem dX5_withRow_208 : decode cX5_withRow 208 = .ok (.lload 5, 2) := by decide +kernel
theorem dX5_withRow_210 : decode cX5_withRow 210 = .ok (.iconst 2, 1) := by decide +kernel
theorem dX5_withRow_211 : decode cX5_withRow 211 = .ok (.aload 4, 2) := by decide +kernel
theorem dX5_withRow_213 : decode cX5_withRow 213 = .ok (.invokevirtual 63, 3) := by decide +kernel
theorem dX5_withRow_216 : decode cX5_withRow 216 = .ok (.imul, 1) := by decide +kernel
theorem dX5_withRow_217 : decode cX5_withRow 217 = .ok (.i2l, 1) := by decide +kernel
theorem dX5_withRow_218 : decode cX5_withRow 218 = .ok (.invokestatic 293, 3) := by decide +kernel
theorem dX5_withRow_221 : decode cX5_withRow 221 = .ok (.lreturn, 1) := by decide +kernel
theorem dX5_withTrack_0 : decode cX5_withTrack 0 = .ok (.aload_n 0, 1) := by decide +kernel
theorem dX5_withTrack_1 : decode cX5_withTrack 1 = .ok (.iload_n 3, 1) := by decide +kernel
theorem dX5_withTrack_2 : decode cX5_withTrack 2 = .ok (.invokevirtual 151, 3) := by decide +kernel
theorem dX5_withTrack_5 : decode cX5_withTrack 5 = .ok (.astore 4, 2) := by decide +kernel
theorem dX5_withTrack_7 : decode cX5_withTrack 7 = .ok (.lload_n 1, 1) := by decide +kernel
theorem dX5_withTrack_8 : decode cX5_withTrack 8 = .ok (.lstore 5, 2) := by decide +kernel
theorem dX5_withTrack_10 : decode cX5_withTrack 10 = .ok (.iconst 0, 1) := by decide +kernel
theorem dX5_withTrack_11 : decode cX5_withTrack 11 = .ok (.istore 7, 2) := by decide +kernel
theorem dX5_withTrack_13 : decode cX5_withTrack 13 = .ok (.iload 7, 2) := by decide +kernel
theorem dX5_withTrack_15 : decode cX5_withTrack 15 = .ok (.iconst 3, 1) := by decide +kernel
theorem dX5_withTrack_16 : decode cX5_withTrack 16 = .ok (.if_icmp .gt 24, 3) := by decide +kernel
theorem dX5_withTrack_19 : decode cX5_withTrack 19 = .ok (.lload 5, 2) := by decide +kernel
theorem dX5_withTrack_21 : decode cX5_withTrack 21 = .ok (.aload 4, 2) := by decide +kernel
theorem dX5_withTrack_23 : decode cX5_withTrack 23 = .ok (.iload 7, 2) := by decide +kernel
theorem dX5_withTrack_25 : decode cX5_withTrack 25 = .ok (.invokestatic 180, 3) := by decide +kernel
theorem dX5_withTrack_28 : decode cX5_withTrack 28 = .ok (.i2l, 1) := by decide +kernel
theorem dX5_withTrack_29 : decode cX5_withTrack 29 = .ok (.invokestatic 293, 3) := by decide +kernel
theorem dX5_withTrack_32 : decode cX5_withTrack 32 = .ok (.lstore 5, 2) := by decide +kernel
theorem dX5_withTrack_34 : decode cX5_withTrack 34 = .ok (.iinc 7 1, 3) := by decide +kernel
theorem dX5_withTrack_37 : decode cX5_withTrack 37 = .ok (.goto (-24), 3) := by decide +kernel
theorem dX5_withTrack_40 : decode cX5_withTrack 40 = .ok (.iconst 0, 1) := by decide +kernel
theorem dX5_withTrack_41 : decode cX5_withTrack 41 = .ok (.istore 7, 2) := by decide +kernel
theorem dX5_withTrack_43 : decode cX5_withTrack 43 = .ok (.iload 7, 2) := by decide +kernel
theorem dX5_withTrack_45 : decode cX5_withTrack 45 = .ok (.aload 4, 2) := by decide +kernel
theorem dX5_withTrack_47 : decode cX5_withTrack 47 = .ok (.invokevirtual 63, 3) := by decide +kernel
theorem dX5_withTrack_50 : decode cX5_withTrack 50 = .ok (.if_icmp .ge 74, 3) := by decide +kernel
theorem dX5_withTrack_53 : decode cX5_withTrack 53 = .ok (.aload 4, 2) := by decide +kernel
theorem dX5_withTrack_55 : decode cX5_withTrack 55 = .ok (.iload 7, 2) := by decide +kernel
theorem dX5_withTrack_57 : decode cX5_withTrack 57 = .ok (.invokevirtual 75, 3) := by decide +kernel
theorem dX5_withTrack_60 : decode cX5_withTrack 60 = .ok (.istore 8, 2) := by decide +kernel
theorem dX5_withTrack_62 : decode cX5_withTrack 62 = .ok (.lload 5, 2) := by decide +kernel
theorem dX5_withTrack_64 : decode cX5_withTrack 64 = .ok (.iload 8, 2) := by decide +kernel
theorem dX5_withTrack_66 : decode cX5_withTrack 66 = .ok (.i2l, 1) := by decide +kernel
theorem dX5_withTrack_67 : decode cX5_withTrack 67 = .ok (.invokestatic 293, 3) := by decide +kernel
theorem dX5_withTrack_70 : decode cX5_withTrack 70 = .ok (.lstore 5, 2) := by decide +kernel
theorem dX5_withTrack_72 : decode cX5_withTrack 72 = .ok (.iconst 0, 1) := by decide +kernel
theorem dX5_withTrack_73 : decode cX5_withTrack 73 = .ok (.istore 9, 2) := by decide +kernel
theorem dX5_withTrack_75 : decode cX5_withTrack 75 = .ok (.iload 9, 2) := by decide +kernel
theorem dX5_withTrack_77 : decode cX5_withTrack 77 = .ok (.iconst 3, 1) := by decide +kernel
theorem dX5_withTrack_78 : decode cX5_withTrack 78 = .ok (.if_icmp .gt 25, 3) := by decide +kernel
theorem dX5_withTrack_81 : decode cX5_withTrack 81 = .ok (.lload 5, 2) := by decide +kernel
theorem dX5_withTrack_83 : decode cX5_withTrack 83 = .ok (.aload_n 0, 1) := by decide +kernel
theorem dX5_withTrack_84 : decode cX5_withTrack 84 = .ok (.iload 8, 2) := by decide +kernel
theorem dX5_withTrack_86 : decode cX5_withTrack 86 = .ok (.iload 9, 2) := by decide +kernel
theorem dX5_withTrack_88 : decode cX5_withTrack 88 = .ok (.invokevirtual 356, 3) := by decide +kernel
theorem dX5_withTrack_91 : decode cX5_withTrack 91 = .ok (.i2l, 1) := by decide +kernel
theorem dX5_withTrack_92 : decode cX5_withTrack 92 = .ok (.invokestatic 293, 3) := by decide +kernel
theorem dX5_withTrack_95 : decode cX5_withTrack 95 = .ok (.lstore 5, 2) := by decide +kernel
theorem dX5_withTrack_97 : decode cX5_withTrack 97 = .ok (.iinc 9 1, 3) := by decide +kernel
theorem dX5_withTrack_100 : decode cX5_withTrack 100 = .ok (.goto (-25), 3) := by decide +kernel
theorem dX5_withTrack_103 : decode cX5_withTrack 103 = .ok (.lload 5, 2) := by decide +kernel
theorem dX5_withTrack_105 : decode cX5_withTrack 105 = .ok (.aload 4, 2) := by decide +kernel
theorem dX5_withTrack_107 : decode cX5_withTrack 107 = .ok (.iload 7, 2) := by decide +kernel
theorem dX5_withTrack_109 : decode cX5_withTrack 109 = .ok (.invokestatic 266, 3) := by decide +kernel
theorem dX5_withTrack_112 : decode cX5_withTrack 112 = .ok (.i2l, 1) := by decide +kernel
theorem dX5_withTrack_113 : decode cX5_withTrack 113 = .ok (.invokestatic 293, 3) := by decide +kernel
theorem dX5_withTrack_116 : decode cX5_withTrack 116 = .ok (.lstore 5, 2) := by decide +kernel
theorem dX5_withTrack_118 : decode cX5_withTrack 118 = .ok (.iinc 7 1, 3) := by decide +kernel
theorem dX5_withTrack_121 : decode cX5_withTrack 121 = .ok (.goto (-78), 3) := by decide +kernel
theorem dX5_withTrack_124 : decode cX5_withTrack 124 = .ok (.lload 5, 2) := by decide +kernel
theorem dX5_withTrack_126 : decode cX5_withTrack 126 = .ok (.lreturn, 1) := by decide +kernel
