theorem dgL_0 : (decode cL_lay 0 = .ok (.aload 6, 2)) ∧ (decode cL_lay 2 = .ok (.aload_n 0, 1)) ∧ (decode cL_lay 3 = .ok (.iload_n 1, 1)) ∧ (decode cL_lay 4 = .ok (.iload_n 2, 1)) ∧ (decode cL_lay 5 = .ok (.iload_n 3, 1)) ∧ (decode cL_lay 6 = .ok (.iload 4, 2)) ∧ (decode cL_lay 8 = .ok (.iload 5, 2)) ∧ (decode cL_lay 10 = .ok (.invokevirtual 7, 3)) ∧ (decode cL_lay 13 = .ok (.i2l, 1)) ∧ (decode cL_lay 14 = .ok (.putfield 13, 3)) ∧ (decode cL_lay 17 = .ok (.goto 15, 3)) ∧ (decode cL_lay 20 = .ok (.astore 7, 2)) ∧ (decode cL_lay 22 = .ok (.iconst 1, 1)) ∧ (decode cL_lay 23 = .ok (.ireturn, 1)) ∧ (decode cL_lay 24 = .ok (.astore 7, 2)) ∧ (decode cL_lay 26 = .ok (.iconst 2, 1)) ∧ (decode cL_lay 27 = .ok (.ireturn, 1)) ∧ (decode cL_lay 28 = .ok (.astore 7, 2)) ∧ (decode cL_lay 30 = .ok (.iconst 3, 1)) ∧ (decode cL_lay 31 = .ok (.ireturn, 1)) ∧ (decode cL_lay 32 = .ok (.iconst 0, 1)) ∧ (decode cL_lay 33 = .ok (.ireturn, 1)) ∧ (decode cL_drop 0 = .ok (.aload_n 3, 1)) ∧ (decode cL_drop 1 = .ok (.aload_n 0, 1)) ∧ (decode cL_drop 2 = .ok (.iload_n 1, 1)) ∧ (decode cL_drop 3 = .ok (.iload_n 2, 1)) ∧ (decode cL_drop 4 = .ok (.invokevirtual 25, 3)) ∧ (decode cL_drop 7 = .ok (.i2l, 1)) ∧ (decode cL_drop 8 = .ok (.putfield 13, 3)) ∧ (decode cL_drop 11 = .ok (.goto 11, 3)) ∧ (decode cL_drop 14 = .ok (.astore 4, 2)) ∧ (decode cL_drop 16 = .ok (.iconst 1, 1)) ∧ (decode cL_drop 17 = .ok (.ireturn, 1)) ∧ (decode cL_drop 18 = .ok (.astore 4, 2)) ∧ (decode cL_drop 20 = .ok (.iconst 2, 1)) ∧ (decode cL_drop 21 = .ok (.ireturn, 1)) ∧ (decode cL_drop 22 = .ok (.iconst 0, 1)) ∧ (decode cL_drop 23 = .ok (.ireturn, 1)) ∧ (decode cL_copy 0 = .ok (.aload_n 3, 1)) ∧ (decode cL_copy 1 = .ok (.aload_n 0, 1)) := by decide +kernel
theorem dL_lay_0 : decode cL_lay 0 = .ok (.aload 6, 2) := dgL_0.1
theorem dL_lay_2 : decode cL_lay 2 = .ok (.aload_n 0, 1) := dgL_0.2.1
theorem dL_lay_3 : decode cL_lay 3 = .ok (.iload_n 1, 1) := dgL_0.2.2.1
theorem dL_lay_4 : decode cL_lay 4 = .ok (.iload_n 2, 1) := dgL_0.2.2.2.1
theorem dL_lay_5 : decode cL_lay 5 = .ok (.iload_n 3, 1) := dgL_0.2.2.2.2.1
theorem dL_lay_6 : decode cL_lay 6 = .ok (.iload 4, 2) := dgL_0.2.2.2.2.2.1
theorem dL_lay_8 : decode cL_lay 8 = .ok (.iload 5, 2) := dgL_0.2.2.2.2.2.2.1
theorem dL_lay_10 : decode cL_lay 10 = .ok (.invokevirtual 7, 3) := dgL_0.2.2.2.2.2.2.2.1
theorem dL_lay_13 : decode cL_lay 13 = .ok (.i2l, 1) := dgL_0.2.2.2.2.2.2.2.2.1
theorem dL_lay_14 : decode cL_lay 14 = .ok (.putfield 13, 3) := dgL_0.2.2.2.2.2.2.2.2.2.1
theorem dL_lay_17 : decode cL_lay 17 = .ok (.goto 15, 3) := dgL_0.2.2.2.2.2.2.2.2.2.2.1
theorem dL_lay_20 : decode cL_lay 20 = .ok (.astore 7, 2) := dgL_0.2.2.2.2.2.2.2.2.2.2.2.1
theorem dL_lay_22 : decode cL_lay 22 = .ok (.iconst 1, 1) := dgL_0.2.2.2.2.2.2.2.2.2.2.2.2.1
theorem dL_lay_23 : decode cL_lay 23 = .ok (.ireturn, 1) := dgL_0.2.2.2.2.2.2.2.2.2.2.2.2.2.1
theorem dL_lay_24 : decode cL_lay 24 = .ok (.astore 7, 2) := dgL_0.2.2.2.2.2.2.2.2.2.2.2.2.2.2.1
theorem dL_lay_26 : decode cL_lay 26 = .ok (.iconst 2, 1) := dgL_0.2.2.2.2.2.2.2.2.2.2.2.2.2.2.2.1
theorem dL_lay_27 : decode cL_lay 27 = .ok (.ireturn, 1) := dgL_0.2.2.2.2.2.2.2.2.2.2.2.2.2.2.2.2.1
theorem dL_lay_28 : decode cL_lay 28 = .ok (.astore 7, 2) := dgL_0.2.2.2.2.2.2.2.2.2.2.2.2.2.2.2.2.2.1
theorem dL_lay_30 : decode cL_lay 30 = .ok (.iconst 3, 1) := dgL_0.2.2.2.2.2.2.2.2.2.2.2.2.2.2.2.2.2.2.1
theorem dL_lay_31 : decode cL_lay 31 = .ok (.ireturn, 1) := dgL_0.2.2.2.2.2.2.2.2.2.2.2.2.2.2.2.2.2.2.2.1
theorem dL_lay_32 : decode cL_lay 32 = .ok (.iconst 0, 1) := dgL_0.2.2.2.2.2.2.2.2.2.2.2.2.2.2.2.2.2.2.2.2.1
theorem dL_lay_33 : decode cL_lay 33 = .ok (.ireturn, 1) := dgL_0.2.2.2.2.2.2.2.2.2.2.2.2.2.2.2.2.2.2.2.2.2.1
theorem dL_drop_0 : decode cL_drop 0 = .ok (.aload_n 3, 1) := dgL_0.2.2.2.2.2.2.2.2.2.2.2.2.2.2.2.2.2.2.2.2.2.2.1
theorem dL_drop_1 : decode cL_drop 1 = .ok (.aload_n 0, 1) := dgL_0.2.2.2.2.2.2.2.2.2.2.2.2.2.2.2.2.2.2.2.2.2.2.2.1
theorem dL_drop_2 : decode cL_drop 2 = .ok (.iload_n 1, 1) := dgL_0.2.2.2.2.2.2.2.2.2.2.2.2.2.2.2.2.2.2.2.2.2.2.2.2.1
theorem dL_drop_3 : decode cL_drop 3 = .ok (.iload_n 2, 1) := dgL_0.2.2.2.2.2.2.2.2.2.2.2.2.2.2.2.2.2.2.2.2.2.2.2.2.2.1
theorem dL_drop_4 : decode cL_drop 4 = .ok (.invokevirtual 25, 3) := dgL_0.2.2.2.2.2.2.2.2.2.2.2.2.2.2.2.2.2.2.2.2.2.2.2.2.2.2.1
theorem dL_drop_7 : decode cL_drop 7 = .ok (.i2l, 1) := dgL_0.2.2.2.2.2.2.2.2.2.2.2.2.2.2.2.2.2.2.2.2.2.2.2.2.2.2.2.1
theorem dL_drop_8 : decode cL_drop 8 = .ok (.putfield 13, 3) := dgL_0.2.2.2.2.2.2.2.2.2.2.2.2.2.2.2.2.2.2.2.2.2.2.2.2.2.2.2.2.1
theorem dL_drop_11 : decode cL_drop 11 = .ok (.goto 11, 3) := dgL_0.2.2.2.2.2.2.2.2.2.2.2.2.2.2.2.2.2.2.2.2.2.2.2.2.2.2.2.2.2.1
theorem dL_drop_14 : decode cL_drop 14 = .ok (.astore 4, 2) := dgL_0.2.2.2.2.2.2.2.2.2.2.2.2.2.2.2.2.2.2.2.2.2.2.2.2.2.2.2.2.2.2.1
theorem dL_drop_16 : decode cL_drop 16 = .ok (.iconst 1, 1) := dgL_0.2.2.2.2.2.2.2.2.2.2.2.2.2.2.2.2.2.2.2.2.2.2.2.2.2.2.2.2.2.2.2.1
theorem dL_drop_17 : decode cL_drop 17 = .ok (.ireturn, 1) := dgL_0.2.2.2.2.2.2.2.2.2.2.2.2.2.2.2.2.2.2.2.2.2.2.2.2.2.2.2.2.2.2.2.2.1
theorem dL_drop_18 : decode cL_drop 18 = .ok (.astore 4, 2) := dgL_0.2.2.2.2.2.2.2.2.2.2.2.2.2.2.2.2.2.2.2.2.2.2.2.2.2.2.2.2.2.2.2.2.2.1
theorem dL_drop_20 : decode cL_drop 20 = .ok (.iconst 2, 1) := dgL_0.2.2.2.2.2.2.2.2.2.2.2.2.2.2.2.2.2.2.2.2.2.2.2.2.2.2.2.2.2.2.2.2.2.2.1
theorem dL_drop_21 : decode cL_drop 21 = .ok (.ireturn, 1) := dgL_0.2.2.2.2.2.2.2.2.2.2.2.2.2.2.2.2.2.2.2.2.2.2.2.2.2.2.2.2.2.2.2.2.2.2.2.1
theorem dL_drop_22 : decode cL_drop 22 = .ok (.iconst 0, 1) := dgL_0.2.2.2.2.2.2.2.2.2.2.2.2.2.2.2.2.2.2.2.2.2.2.2.2.2.2.2.2.2.2.2.2.2.2.2.2.1
theorem dL_drop_23 : decode cL_drop 23 = .ok (.ireturn, 1) := dgL_0.2.2.2.2.2.2.2.2.2.2.2.2.2.2.2.2.2.2.2.2.2.2.2.2.2.2.2.2.2.2.2.2.2.2.2.2.2.1
theorem dL_copy_0 : decode cL_copy 0 = .ok (.aload_n 3, 1) := dgL_0.2.2.2.2.2.2.2.2.2.2.2.2.2.2.2.2.2.2.2.2.2.2.2.2.2.2.2.2.2.2.2.2.2.2.2.2.2.2.1
theorem dL_copy_1 : decode cL_copy 1 = .ok (.aload_n 0, 1) := dgL_0.2.2.2.2.2.2.2.2.2.2.2.2.2.2.2.2.2.2.2.2.2.2.2.2.2.2.2.2.2.2.2.2.2.2.2.2.2.2.2
theorem dgL_1 : (decode cL_copy 2 = .ok (.iload_n 1, 1)) ∧ (decode cL_copy 3 = .ok (.iload_n 2, 1)) ∧ (decode cL_copy 4 = .ok (.invokevirtual 29, 3)) ∧ (decode cL_copy 7 = .ok (.i2l, 1)) ∧ (decode cL_copy 8 = .ok (.putfield 13, 3)) ∧ (decode cL_copy 11 = .ok (.goto 7, 3)) ∧ (decode cL_copy 14 = .ok (.astore 4, 2)) ∧ (decode cL_copy 16 = .ok (.iconst 1, 1)) ∧ (decode cL_copy 17 = .ok (.ireturn, 1)) ∧ (decode cL_copy 18 = .ok (.iconst 0, 1)) ∧ (decode cL_copy 19 = .ok (.ireturn, 1)) ∧ (decode cL_raise 0 = .ok (.aload_n 2, 1)) ∧ (decode cL_raise 1 = .ok (.aload_n 0, 1)) ∧ (decode cL_raise 2 = .ok (.iload_n 1, 1)) ∧ (decode cL_raise 3 = .ok (.invokevirtual 32, 3)) ∧ (decode cL_raise 6 = .ok (.i2l, 1)) ∧ (decode cL_raise 7 = .ok (.putfield 13, 3)) ∧ (decode cL_raise 10 = .ok (.goto 6, 3)) ∧ (decode cL_raise 13 = .ok (.astore_n 3, 1)) ∧ (decode cL_raise 14 = .ok (.iconst 1, 1)) ∧ (decode cL_raise 15 = .ok (.ireturn, 1)) ∧ (decode cL_raise 16 = .ok (.iconst 0, 1)) ∧ (decode cL_raise 17 = .ok (.ireturn, 1)) ∧ (decode cL_sink 0 = .ok (.aload_n 2, 1)) ∧ (decode cL_sink 1 = .ok (.aload_n 0, 1)) ∧ (decode cL_sink 2 = .ok (.iload_n 1, 1)) ∧ (decode cL_sink 3 = .ok (.invokevirtual 36, 3)) ∧ (decode cL_sink 6 = .ok (.i2l, 1)) ∧ (decode cL_sink 7 = .ok (.putfield 13, 3)) ∧ (decode cL_sink 10 = .ok (.goto 6, 3)) ∧ (decode cL_sink 13 = .ok (.astore_n 3, 1)) ∧ (decode cL_sink 14 = .ok (.iconst 1, 1)) ∧ (decode cL_sink 15 = .ok (.ireturn, 1)) ∧ (decode cL_sink 16 = .ok (.iconst 0, 1)) ∧ (decode cL_sink 17 = .ok (.ireturn, 1)) ∧ (decode cL_sieve 0 = .ok (.aload 4, 2)) ∧ (decode cL_sieve 2 = .ok (.aload_n 0, 1)) ∧ (decode cL_sieve 3 = .ok (.iload_n 1, 1)) ∧ (decode cL_sieve 4 = .ok (.iload_n 2, 1)) ∧ (decode cL_sieve 5 = .ok (.iload_n 3, 1)) := by decide +kernel
theorem dL_copy_2 : decode cL_copy 2 = .ok (.iload_n 1, 1) := dgL_1.1
theorem dL_copy_3 : decode cL_copy 3 = .ok (.iload_n 2, 1) := dgL_1.2.1
theorem dL_copy_4 : decode cL_copy 4 = .ok (.invokevirtual 29, 3) := dgL_1.2.2.1
theorem dL_copy_7 : decode cL_copy 7 = .ok (.i2l, 1) := dgL_1.2.2.2.1
theorem dL_copy_8 : decode cL_copy 8 = .ok (.putfield 13, 3) := dgL_1.2.2.2.2.1
theorem dL_copy_11 : decode cL_copy 11 = .ok (.goto 7, 3) := dgL_1.2.2.2.2.2.1
theorem dL_copy_14 : decode cL_copy 14 = .ok (.astore 4, 2) := dgL_1.2.2.2.2.2.2.1
theorem dL_copy_16 : decode cL_copy 16 = .ok (.iconst 1, 1) := dgL_1.2.2.2.2.2.2.2.1
theorem dL_copy_17 : decode cL_copy 17 = .ok (.ireturn, 1) := dgL_1.2.2.2.2.2.2.2.2.1
theorem dL_copy_18 : decode cL_copy 18 = .ok (.iconst 0, 1) := dgL_1.2.2.2.2.2.2.2.2.2.1
theorem dL_copy_19 : decode cL_copy 19 = .ok (.ireturn, 1) := dgL_1.2.2.2.2.2.2.2.2.2.2.1
theorem dL_raise_0 : decode cL_raise 0 = .ok (.aload_n 2, 1) := dgL_1.2.2.2.2.2.2.2.2.2.2.2.1
theorem dL_raise_1 : decode cL_raise 1 = .ok (.aload_n 0, 1) := dgL_1.2.2.2.2.2.2.2.2.2.2.2.2.1
theorem dL_raise_2 : decode cL_raise 2 = .ok (.iload_n 1, 1) := dgL_1.2.2.2.2.2.2.2.2.2.2.2.2.2.1
theorem dL_raise_3 : decode cL_raise 3 = .ok (.invokevirtual 32, 3) := dgL_1.2.2.2.2.2.2.2.2.2.2.2.2.2.2.1
theorem dL_raise_6 : decode cL_raise 6 = .ok (.i2l, 1) := dgL_1.2.2.2.2.2.2.2.2.2.2.2.2.2.2.2.1
theorem dL_raise_7 : decode cL_raise 7 = .ok (.putfield 13, 3) := dgL_1.2.2.2.2.2.2.2.2.2.2.2.2.2.2.2.2.1
theorem dL_raise_10 : decode cL_raise 10 = .ok (.goto 6, 3) := dgL_1.2.2.2.2.2.2.2.2.2.2.2.2.2.2.2.2.2.1
theorem dL_raise_13 : decode cL_raise 13 = .ok (.astore_n 3, 1) := dgL_1.2.2.2.2.2.2.2.2.2.2.2.2.2.2.2.2.2.2.1
theorem dL_raise_14 : decode cL_raise 14 = .ok (.iconst 1, 1) := dgL_1.2.2.2.2.2.2.2.2.2.2.2.2.2.2.2.2.2.2.2.1
theorem dL_raise_15 : decode cL_raise 15 = .ok (.ireturn, 1) := dgL_1.2.2.2.2.2.2.2.2.2.2.2.2.2.2.2.2.2.2.2.2.1
theorem dL_raise_16 : decode cL_raise 16 = .ok (.iconst 0, 1) := dgL_1.2.2.2.2.2.2.2.2.2.2.2.2.2.2.2.2.2.2.2.2.2.1
theorem dL_raise_17 : decode cL_raise 17 = .ok (.ireturn, 1) := dgL_1.2.2.2.2.2.2.2.2.2.2.2.2.2.2.2.2.2.2.2.2.2.2.1
theorem dL_sink_0 : decode cL_sink 0 = .ok (.aload_n 2, 1) := dgL_1.2.2.2.2.2.2.2.2.2.2.2.2.2.2.2.2.2.2.2.2.2.2.2.1
theorem dL_sink_1 : decode cL_sink 1 = .ok (.aload_n 0, 1) := dgL_1.2.2.2.2.2.2.2.2.2.2.2.2.2.2.2.2.2.2.2.2.2.2.2.2.1
theorem dL_sink_2 : decode cL_sink 2 = .ok (.iload_n 1, 1) := dgL_1.2.2.2.2.2.2.2.2.2.2.2.2.2.2.2.2.2.2.2.2.2.2.2.2.2.1
theorem dL_sink_3 : decode cL_sink 3 = .ok (.invokevirtual 36, 3) := dgL_1.2.2.2.2.2.2.2.2.2.2.2.2.2.2.2.2.2.2.2.2.2.2.2.2.2.2.1
theorem dL_sink_6 : decode cL_sink 6 = .ok (.i2l, 1) := dgL_1.2.2.2.2.2.2.2.2.2.2.2.2.2.2.2.2.2.2.2.2.2.2.2.2.2.2.2.1
theorem dL_sink_7 : decode cL_sink 7 = .ok (.putfield 13, 3) := dgL_1.2.2.2.2.2.2.2.2.2.2.2.2.2.2.2.2.2.2.2.2.2.2.2.2.2.2.2.2.1
theorem dL_sink_10 : decode cL_sink 10 = .ok (.goto 6, 3) := dgL_1.2.2.2.2.2.2.2.2.2.2.2.2.2.2.2.2.2.2.2.2.2.2.2.2.2.2.2.2.2.1
theorem dL_sink_13 : decode cL_sink 13 = .ok (.astore_n 3, 1) := dgL_1.2.2.2.2.2.2.2.2.2.2.2.2.2.2.2.2.2.2.2.2.2.2.2.2.2.2.2.2.2.2.1
theorem dL_sink_14 : decode cL_sink 14 = .ok (.iconst 1, 1) := dgL_1.2.2.2.2.2.2.2.2.2.2.2.2.2.2.2.2.2.2.2.2.2.2.2.2.2.2.2.2.2.2.2.1
theorem dL_sink_15 : decode cL_sink 15 = .ok (.ireturn, 1) := dgL_1.2.2.2.2.2.2.2.2.2.2.2.2.2.2.2.2.2.2.2.2.2.2.2.2.2.2.2.2.2.2.2.2.1
theorem dL_sink_16 : decode cL_sink 16 = .ok (.iconst 0, 1) := dgL_1.2.2.2.2.2.2.2.2.2.2.2.2.2.2.2.2.2.2.2.2.2.2.2.2.2.2.2.2.2.2.2.2.2.1
theorem dL_sink_17 : decode cL_sink 17 = .ok (.ireturn, 1) := dgL_1.2.2.2.2.2.2.2.2.2.2.2.2.2.2.2.2.2.2.2.2.2.2.2.2.2.2.2.2.2.2.2.2.2.2.1
theorem dL_sieve_0 : decode cL_sieve 0 = .ok (.aload 4, 2) := dgL_1.2.2.2.2.2.2.2.2.2.2.2.2.2.2.2.2.2.2.2.2.2.2.2.2.2.2.2.2.2.2.2.2.2.2.2.1
theorem dL_sieve_2 : decode cL_sieve 2 = .ok (.aload_n 0, 1) := dgL_1.2.2.2.2.2.2.2.2.2.2.2.2.2.2.2.2.2.2.2.2.2.2.2.2.2.2.2.2.2.2.2.2.2.2.2.2.1
theorem dL_sieve_3 : decode cL_sieve 3 = .ok (.iload_n 1, 1) := dgL_1.2.2.2.2.2.2.2.2.2.2.2.2.2.2.2.2.2.2.2.2.2.2.2.2.2.2.2.2.2.2.2.2.2.2.2.2.2.1
theorem dL_sieve_4 : decode cL_sieve 4 = .ok (.iload_n 2, 1) := dgL_1.2.2.2.2.2.2.2.2.2.2.2.2.2.2.2.2.2.2.2.2.2.2.2.2.2.2.2.2.2.2.2.2.2.2.2.2.2.2.1
theorem dL_sieve_5 : decode cL_sieve 5 = .ok (.iload_n 3, 1) := dgL_1.2.2.2.2.2.2.2.2.2.2.2.2.2.2.2.2.2.2.2.2.2.2.2.2.2.2.2.2.2.2.2.2.2.2.2.2.2.2.2
theorem dgL_2 : (decode cL_sieve 6 = .ok (.invokevirtual 39, 3)) ∧ (decode cL_sieve 9 = .ok (.i2l, 1)) ∧ (decode cL_sieve 10 = .ok (.putfield 13, 3)) ∧ (decode cL_sieve 13 = .ok (.goto 11, 3)) ∧ (decode cL_sieve 16 = .ok (.astore 5, 2)) ∧ (decode cL_sieve 18 = .ok (.iconst 1, 1)) ∧ (decode cL_sieve 19 = .ok (.ireturn, 1)) ∧ (decode cL_sieve 20 = .ok (.astore 5, 2)) ∧ (decode cL_sieve 22 = .ok (.iconst 2, 1)) ∧ (decode cL_sieve 23 = .ok (.ireturn, 1)) ∧ (decode cL_sieve 24 = .ok (.iconst 0, 1)) ∧ (decode cL_sieve 25 = .ok (.ireturn, 1)) ∧ (decode cL_strip 0 = .ok (.aload_n 2, 1)) ∧ (decode cL_strip 1 = .ok (.aload_n 0, 1)) ∧ (decode cL_strip 2 = .ok (.iload_n 1, 1)) ∧ (decode cL_strip 3 = .ok (.invokevirtual 43, 3)) ∧ (decode cL_strip 6 = .ok (.i2l, 1)) ∧ (decode cL_strip 7 = .ok (.putfield 13, 3)) ∧ (decode cL_strip 10 = .ok (.goto 6, 3)) ∧ (decode cL_strip 13 = .ok (.astore_n 3, 1)) ∧ (decode cL_strip 14 = .ok (.iconst 1, 1)) ∧ (decode cL_strip 15 = .ok (.ireturn, 1)) ∧ (decode cL_strip 16 = .ok (.iconst 0, 1)) ∧ (decode cL_strip 17 = .ok (.ireturn, 1)) ∧ (decode cL_turn 0 = .ok (.aload_n 2, 1)) ∧ (decode cL_turn 1 = .ok (.aload_n 0, 1)) ∧ (decode cL_turn 2 = .ok (.iload_n 1, 1)) ∧ (decode cL_turn 3 = .ok (.invokevirtual 46, 3)) ∧ (decode cL_turn 6 = .ok (.i2l, 1)) ∧ (decode cL_turn 7 = .ok (.putfield 13, 3)) ∧ (decode cL_turn 10 = .ok (.goto 6, 3)) ∧ (decode cL_turn 13 = .ok (.astore_n 3, 1)) ∧ (decode cL_turn 14 = .ok (.iconst 1, 1)) ∧ (decode cL_turn 15 = .ok (.ireturn, 1)) ∧ (decode cL_turn 16 = .ok (.iconst 0, 1)) ∧ (decode cL_turn 17 = .ok (.ireturn, 1)) ∧ (decode cL_write 0 = .ok (.aload 4, 2)) ∧ (decode cL_write 2 = .ok (.aload_n 0, 1)) ∧ (decode cL_write 3 = .ok (.iload_n 1, 1)) ∧ (decode cL_write 4 = .ok (.iload_n 2, 1)) := by decide +kernel
theorem dL_sieve_6 : decode cL_sieve 6 = .ok (.invokevirtual 39, 3) := dgL_2.1
theorem dL_sieve_9 : decode cL_sieve 9 = .ok (.i2l, 1) := dgL_2.2.1
theorem dL_sieve_10 : decode cL_sieve 10 = .ok (.putfield 13, 3) := dgL_2.2.2.1
theorem dL_sieve_13 : decode cL_sieve 13 = .ok (.goto 11, 3) := dgL_2.2.2.2.1
theorem dL_sieve_16 : decode cL_sieve 16 = .ok (.astore 5, 2) := dgL_2.2.2.2.2.1
theorem dL_sieve_18 : decode cL_sieve 18 = .ok (.iconst 1, 1) := dgL_2.2.2.2.2.2.1
theorem dL_sieve_19 : decode cL_sieve 19 = .ok (.ireturn, 1) := dgL_2.2.2.2.2.2.2.1
theorem dL_sieve_20 : decode cL_sieve 20 = .ok (.astore 5, 2) := dgL_2.2.2.2.2.2.2.2.1
theorem dL_sieve_22 : decode cL_sieve 22 = .ok (.iconst 2, 1) := dgL_2.2.2.2.2.2.2.2.2.1
theorem dL_sieve_23 : decode cL_sieve 23 = .ok (.ireturn, 1) := dgL_2.2.2.2.2.2.2.2.2.2.1
theorem dL_sieve_24 : decode cL_sieve 24 = .ok (.iconst 0, 1) := dgL_2.2.2.2.2.2.2.2.2.2.2.1
theorem dL_sieve_25 : decode cL_sieve 25 = .ok (.ireturn, 1) := dgL_2.2.2.2.2.2.2.2.2.2.2.2.1
theorem dL_strip_0 : decode cL_strip 0 = .ok (.aload_n 2, 1) := dgL_2.2.2.2.2.2.2.2.2.2.2.2.2.1
theorem dL_strip_1 : decode cL_strip 1 = .ok (.aload_n 0, 1) := dgL_2.2.2.2.2.2.2.2.2.2.2.2.2.2.1
theorem dL_strip_2 : decode cL_strip 2 = .ok (.iload_n 1, 1) := dgL_2.2.2.2.2.2.2.2.2.2.2.2.2.2.2.1
theorem dL_strip_3 : decode cL_strip 3 = .ok (.invokevirtual 43, 3) := dgL_2.2.2.2.2.2.2.2.2.2.2.2.2.2.2.2.1
theorem dL_strip_6 : decode cL_strip 6 = .ok (.i2l, 1) := dgL_2.2.2.2.2.2.2.2.2.2.2.2.2.2.2.2.2.1
theorem dL_strip_7 : decode cL_strip 7 = .ok (.putfield 13, 3) := dgL_2.2.2.2.2.2.2.2.2.2.2.2.2.2.2.2.2.2.1
theorem dL_strip_10 : decode cL_strip 10 = .ok (.goto 6, 3) := dgL_2.2.2.2.2.2.2.2.2.2.2.2.2.2.2.2.2.2.2.1
theorem dL_strip_13 : decode cL_strip 13 = .ok (.astore_n 3, 1) := dgL_2.2.2.2.2.2.2.2.2.2.2.2.2.2.2.2.2.2.2.2.1
theorem dL_strip_14 : decode cL_strip 14 = .ok (.iconst 1, 1) := dgL_2.2.2.2.2.2.2.2.2.2.2.2.2.2.2.2.2.2.2.2.2.1
theorem dL_strip_15 : decode cL_strip 15 = .ok (.ireturn, 1) := dgL_2.2.2.2.2.2.2.2.2.2.2.2.2.2.2.2.2.2.2.2.2.2.1
theorem dL_strip_16 : decode cL_strip 16 = .ok (.iconst 0, 1) := dgL_2.2.2.2.2.2.2.2.2.2.2.2.2.2.2.2.2.2.2.2.2.2.2.1
theorem dL_strip_17 : decode cL_strip 17 = .ok (.ireturn, 1) := dgL_2.2.2.2.2.2.2.2.2.2.2.2.2.2.2.2.2.2.2.2.2.2.2.2.1
theorem dL_turn_0 : decode cL_turn 0 = .ok (.aload_n 2, 1) := dgL_2.2.2.2.2.2.2.2.2.2.2.2.2.2.2.2.2.2.2.2.2.2.2.2.2.1
theorem dL_turn_1 : decode cL_turn 1 = .ok (.aload_n 0, 1) := dgL_2.2.2.2.2.2.2.2.2.2.2.2.2.2.2.2.2.2.2.2.2.2.2.2.2.2.1
theorem dL_turn_2 : decode cL_turn 2 = .ok (.iload_n 1, 1) := dgL_2.2.2.2.2.2.2.2.2.2.2.2.2.2.2.2.2.2.2.2.2.2.2.2.2.2.2.1
theorem dL_turn_3 : decode cL_turn 3 = .ok (.invokevirtual 46, 3) := dgL_2.2.2.2.2.2.2.2.2.2.2.2.2.2.2.2.2.2.2.2.2.2.2.2.2.2.2.2.1
theorem dL_turn_6 : decode cL_turn 6 = .ok (.i2l, 1) := dgL_2.2.2.2.2.2.2.2.2.2.2.2.2.2.2.2.2.2.2.2.2.2.2.2.2.2.2.2.2.1
theorem dL_turn_7 : decode cL_turn 7 = .ok (.putfield 13, 3) := dgL_2.2.2.2.2.2.2.2.2.2.2.2.2.2.2.2.2.2.2.2.2.2.2.2.2.2.2.2.2.2.1
theorem dL_turn_10 : decode cL_turn 10 = .ok (.goto 6, 3) := dgL_2.2.2.2.2.2.2.2.2.2.2.2.2.2.2.2.2.2.2.2.2.2.2.2.2.2.2.2.2.2.2.1
theorem dL_turn_13 : decode cL_turn 13 = .ok (.astore_n 3, 1) := dgL_2.2.2.2.2.2.2.2.2.2.2.2.2.2.2.2.2.2.2.2.2.2.2.2.2.2.2.2.2.2.2.2.1
theorem dL_turn_14 : decode cL_turn 14 = .ok (.iconst 1, 1) := dgL_2.2.2.2.2.2.2.2.2.2.2.2.2.2.2.2.2.2.2.2.2.2.2.2.2.2.2.2.2.2.2.2.2.1
theorem dL_turn_15 : decode cL_turn 15 = .ok (.ireturn, 1) := dgL_2.2.2.2.2.2.2.2.2.2.2.2.2.2.2.2.2.2.2.2.2.2.2.2.2.2.2.2.2.2.2.2.2.2.1
theorem dL_turn_16 : decode cL_turn 16 = .ok (.iconst 0, 1) := dgL_2.2.2.2.2.2.2.2.2.2.2.2.2.2.2.2.2.2.2.2.2.2.2.2.2.2.2.2.2.2.2.2.2.2.2.1
theorem dL_turn_17 : decode cL_turn 17 = .ok (.ireturn, 1) := dgL_2.2.2.2.2.2.2.2.2.2.2.2.2.2.2.2.2.2.2.2.2.2.2.2.2.2.2.2.2.2.2.2.2.2.2.2.1
theorem dL_write_0 : decode cL_write 0 = .ok (.aload 4, 2) := dgL_2.2.2.2.2.2.2.2.2.2.2.2.2.2.2.2.2.2.2.2.2.2.2.2.2.2.2.2.2.2.2.2.2.2.2.2.2.1
theorem dL_write_2 : decode cL_write 2 = .ok (.aload_n 0, 1) := dgL_2.2.2.2.2.2.2.2.2.2.2.2.2.2.2.2.2.2.2.2.2.2.2.2.2.2.2.2.2.2.2.2.2.2.2.2.2.2.1
theorem dL_write_3 : decode cL_write 3 = .ok (.iload_n 1, 1) := dgL_2.2.2.2.2.2.2.2.2.2.2.2.2.2.2.2.2.2.2.2.2.2.2.2.2.2.2.2.2.2.2.2.2.2.2.2.2.2.2.1
theorem dL_write_4 : decode cL_write 4 = .ok (.iload_n 2, 1) := dgL_2.2.2.2.2.2.2.2.2.2.2.2.2.2.2.2.2.2.2.2.2.2.2.2.2.2.2.2.2.2.2.2.2.2.2.2.2.2.2.2
theorem dgL_3 : (decode cL_write 5 = .ok (.iload_n 3, 1)) ∧ (decode cL_write 6 = .ok (.invokevirtual 49, 3)) ∧ (decode cL_write 9 = .ok (.i2l, 1)) ∧ (decode cL_write 10 = .ok (.putfield 13, 3)) ∧ (decode cL_write 13 = .ok (.goto 11, 3)) ∧ (decode cL_write 16 = .ok (.astore 5, 2)) ∧ (decode cL_write 18 = .ok (.iconst 1, 1)) ∧ (decode cL_write 19 = .ok (.ireturn, 1)) ∧ (decode cL_write 20 = .ok (.astore 5, 2)) ∧ (decode cL_write 22 = .ok (.iconst 2, 1)) ∧ (decode cL_write 23 = .ok (.ireturn, 1)) ∧ (decode cL_write 24 = .ok (.iconst 0, 1)) ∧ (decode cL_write 25 = .ok (.ireturn, 1)) ∧ (decode cL_spell 0 = .ok (.aload_n 3, 1)) ∧ (decode cL_spell 1 = .ok (.aload_n 0, 1)) ∧ (decode cL_spell 2 = .ok (.iload_n 1, 1)) ∧ (decode cL_spell 3 = .ok (.iload_n 2, 1)) ∧ (decode cL_spell 4 = .ok (.invokevirtual 53, 3)) ∧ (decode cL_spell 7 = .ok (.i2l, 1)) ∧ (decode cL_spell 8 = .ok (.putfield 13, 3)) ∧ (decode cL_spell 11 = .ok (.goto 11, 3)) ∧ (decode cL_spell 14 = .ok (.astore 4, 2)) ∧ (decode cL_spell 16 = .ok (.iconst 1, 1)) ∧ (decode cL_spell 17 = .ok (.ireturn, 1)) ∧ (decode cL_spell 18 = .ok (.astore 4, 2)) ∧ (decode cL_spell 20 = .ok (.iconst 2, 1)) ∧ (decode cL_spell 21 = .ok (.ireturn, 1)) ∧ (decode cL_spell 22 = .ok (.iconst 0, 1)) ∧ (decode cL_spell 23 = .ok (.ireturn, 1)) ∧ (decode cL_read 0 = .ok (.aload_n 3, 1)) ∧ (decode cL_read 1 = .ok (.aload_n 0, 1)) ∧ (decode cL_read 2 = .ok (.iload_n 1, 1)) ∧ (decode cL_read 3 = .ok (.iload_n 2, 1)) ∧ (decode cL_read 4 = .ok (.invokevirtual 56, 3)) ∧ (decode cL_read 7 = .ok (.i2l, 1)) ∧ (decode cL_read 8 = .ok (.putfield 13, 3)) ∧ (decode cL_read 11 = .ok (.goto 11, 3)) ∧ (decode cL_read 14 = .ok (.astore 4, 2)) ∧ (decode cL_read 16 = .ok (.iconst 1, 1)) ∧ (decode cL_read 17 = .ok (.ireturn, 1)) := by decide +kernel
theorem dL_write_5 : decode cL_write 5 = .ok (.iload_n 3, 1) := dgL_3.1
theorem dL_write_6 : decode cL_write 6 = .ok (.invokevirtual 49, 3) := dgL_3.2.1
theorem dL_write_9 : decode cL_write 9 = .ok (.i2l, 1) := dgL_3.2.2.1
theorem dL_write_10 : decode cL_write 10 = .ok (.putfield 13, 3) := dgL_3.2.2.2.1
theorem dL_write_13 : decode cL_write 13 = .ok (.goto 11, 3) := dgL_3.2.2.2.2.1
theorem dL_write_16 : decode cL_write 16 = .ok (.astore 5, 2) := dgL_3.2.2.2.2.2.1
theorem dL_write_18 : decode cL_write 18 = .ok (.iconst 1, 1) := dgL_3.2.2.2.2.2.2.1
theorem dL_write_19 : decode cL_write 19 = .ok (.ireturn, 1) := dgL_3.2.2.2.2.2.2.2.1
theorem dL_write_20 : decode cL_write 20 = .ok (.astore 5, 2) := dgL_3.2.2.2.2.2.2.2.2.1
theorem dL_write_22 : decode cL_write 22 = .ok (.iconst 2, 1) := dgL_3.2.2.2.2.2.2.2.2.2.1
theorem dL_write_23 : decode cL_write 23 = .ok (.ireturn, 1) := dgL_3.2.2.2.2.2.2.2.2.2.2.1
theorem dL_write_24 : decode cL_write 24 = .ok (.iconst 0, 1) := dgL_3.2.2.2.2.2.2.2.2.2.2.2.1
theorem dL_write_25 : decode cL_write 25 = .ok (.ireturn, 1) := dgL_3.2.2.2.2.2.2.2.2.2.2.2.2.1
theorem dL_spell_0 : decode cL_spell 0 = .ok (.aload_n 3, 1) := dgL_3.2.2.2.2.2.2.2.2.2.2.2.2.2.1
theorem dL_spell_1 : decode cL_spell 1 = .ok (.aload_n 0, 1) := dgL_3.2.2.2.2.2.2.2.2.2.2.2.2.2.2.1
theorem dL_spell_2 : decode cL_spell 2 = .ok (.iload_n 1, 1) := dgL_3.2.2.2.2.2.2.2.2.2.2.2.2.2.2.2.1
theorem dL_spell_3 : decode cL_spell 3 = .ok (.iload_n 2, 1) := dgL_3.2.2.2.2.2.2.2.2.2.2.2.2.2.2.2.2.1
theorem dL_spell_4 : decode cL_spell 4 = .ok (.invokevirtual 53, 3) := dgL_3.2.2.2.2.2.2.2.2.2.2.2.2.2.2.2.2.2.1
theorem dL_spell_7 : decode cL_spell 7 = .ok (.i2l, 1) := dgL_3.2.2.2.2.2.2.2.2.2.2.2.2.2.2.2.2.2.2.1
theorem dL_spell_8 : decode cL_spell 8 = .ok (.putfield 13, 3) := dgL_3.2.2.2.2.2.2.2.2.2.2.2.2.2.2.2.2.2.2.2.1
theorem dL_spell_11 : decode cL_spell 11 = .ok (.goto 11, 3) := dgL_3.2.2.2.2.2.2.2.2.2.2.2.2.2.2.2.2.2.2.2.2.1
theorem dL_spell_14 : decode cL_spell 14 = .ok (.astore 4, 2) := dgL_3.2.2.2.2.2.2.2.2.2.2.2.2.2.2.2.2.2.2.2.2.2.1
theorem dL_spell_16 : decode cL_spell 16 = .ok (.iconst 1, 1) := dgL_3.2.2.2.2.2.2.2.2.2.2.2.2.2.2.2.2.2.2.2.2.2.2.1
theorem dL_spell_17 : decode cL_spell 17 = .ok (.ireturn, 1) := dgL_3.2.2.2.2.2.2.2.2.2.2.2.2.2.2.2.2.2.2.2.2.2.2.2.1
theorem dL_spell_18 : decode cL_spell 18 = .ok (.astore 4, 2) := dgL_3.2.2.2.2.2.2.2.2.2.2.2.2.2.2.2.2.2.2.2.2.2.2.2.2.1
theorem dL_spell_20 : decode cL_spell 20 = .ok (.iconst 2, 1) := dgL_3.2.2.2.2.2.2.2.2.2.2.2.2.2.2.2.2.2.2.2.2.2.2.2.2.2.1
theorem dL_spell_21 : decode cL_spell 21 = .ok (.ireturn, 1) := dgL_3.2.2.2.2.2.2.2.2.2.2.2.2.2.2.2.2.2.2.2.2.2.2.2.2.2.2.1
theorem dL_spell_22 : decode cL_spell 22 = .ok (.iconst 0, 1) := dgL_3.2.2.2.2.2.2.2.2.2.2.2.2.2.2.2.2.2.2.2.2.2.2.2.2.2.2.2.1
theorem dL_spell_23 : decode cL_spell 23 = .ok (.ireturn, 1) := dgL_3.2.2.2.2.2.2.2.2.2.2.2.2.2.2.2.2.2.2.2.2.2.2.2.2.2.2.2.2.1
theorem dL_read_0 : decode cL_read 0 = .ok (.aload_n 3, 1) := dgL_3.2.2.2.2.2.2.2.2.2.2.2.2.2.2.2.2.2.2.2.2.2.2.2.2.2.2.2.2.2.1
theorem dL_read_1 : decode cL_read 1 = .ok (.aload_n 0, 1) := dgL_3.2.2.2.2.2.2.2.2.2.2.2.2.2.2.2.2.2.2.2.2.2.2.2.2.2.2.2.2.2.2.1
theorem dL_read_2 : decode cL_read 2 = .ok (.iload_n 1, 1) := dgL_3.2.2.2.2.2.2.2.2.2.2.2.2.2.2.2.2.2.2.2.2.2.2.2.2.2.2.2.2.2.2.2.1
theorem dL_read_3 : decode cL_read 3 = .ok (.iload_n 2, 1) := dgL_3.2.2.2.2.2.2.2.2.2.2.2.2.2.2.2.2.2.2.2.2.2.2.2.2.2.2.2.2.2.2.2.2.1
theorem dL_read_4 : decode cL_read 4 = .ok (.invokevirtual 56, 3) := dgL_3.2.2.2.2.2.2.2.2.2.2.2.2.2.2.2.2.2.2.2.2.2.2.2.2.2.2.2.2.2.2.2.2.2.1
theorem dL_read_7 : decode cL_read 7 = .ok (.i2l, 1) := dgL_3.2.2.2.2.2.2.2.2.2.2.2.2.2.2.2.2.2.2.2.2.2.2.2.2.2.2.2.2.2.2.2.2.2.2.1
theorem dL_read_8 : decode cL_read 8 = .ok (.putfield 13, 3) := dgL_3.2.2.2.2.2.2.2.2.2.2.2.2.2.2.2.2.2.2.2.2.2.2.2.2.2.2.2.2.2.2.2.2.2.2.2.1
theorem dL_read_11 : decode cL_read 11 = .ok (.goto 11, 3) := dgL_3.2.2.2.2.2.2.2.2.2.2.2.2.2.2.2.2.2.2.2.2.2.2.2.2.2.2.2.2.2.2.2.2.2.2.2.2.1
theorem dL_read_14 : decode cL_read 14 = .ok (.astore 4, 2) := dgL_3.2.2.2.2.2.2.2.2.2.2.2.2.2.2.2.2.2.2.2.2.2.2.2.2.2.2.2.2.2.2.2.2.2.2.2.2.2.1
theorem dL_read_16 : decode cL_read 16 = .ok (.iconst 1, 1) := dgL_3.2.2.2.2.2.2.2.2.2.2.2.2.2.2.2.2.2.2.2.2.2.2.2.2.2.2.2.2.2.2.2.2.2.2.2.2.2.2.1
theorem dL_read_17 : decode cL_read 17 = .ok (.ireturn, 1) := dgL_3.2.2.2.2.2.2.2.2.2.2.2.2.2.2.2.2.2.2.2.2.2.2.2.2.2.2.2.2.2.2.2.2.2.2.2.2.2.2.2
theorem dgL_4 : (decode cL_read 18 = .ok (.astore 4, 2)) ∧ (decode cL_read 20 = .ok (.iconst 2, 1)) ∧ (decode cL_read 21 = .ok (.ireturn, 1)) ∧ (decode cL_read 22 = .ok (.iconst 0, 1)) ∧ (decode cL_read 23 = .ok (.ireturn, 1)) ∧ (decode cL_send 0 = .ok (.aload_n 3, 1)) ∧ (decode cL_send 1 = .ok (.aload_n 0, 1)) ∧ (decode cL_send 2 = .ok (.iload_n 1, 1)) ∧ (decode cL_send 3 = .ok (.iload_n 2, 1)) ∧ (decode cL_send 4 = .ok (.invokevirtual 59, 3)) ∧ (decode cL_send 7 = .ok (.i2l, 1)) ∧ (decode cL_send 8 = .ok (.putfield 13, 3)) ∧ (decode cL_send 11 = .ok (.goto 11, 3)) ∧ (decode cL_send 14 = .ok (.astore 4, 2)) ∧ (decode cL_send 16 = .ok (.iconst 1, 1)) ∧ (decode cL_send 17 = .ok (.ireturn, 1)) ∧ (decode cL_send 18 = .ok (.astore 4, 2)) ∧ (decode cL_send 20 = .ok (.iconst 2, 1)) ∧ (decode cL_send 21 = .ok (.ireturn, 1)) ∧ (decode cL_send 22 = .ok (.iconst 0, 1)) ∧ (decode cL_send 23 = .ok (.ireturn, 1)) ∧ (decode cL_put 0 = .ok (.aload_n 3, 1)) ∧ (decode cL_put 1 = .ok (.aload_n 0, 1)) ∧ (decode cL_put 2 = .ok (.iload_n 1, 1)) ∧ (decode cL_put 3 = .ok (.iload_n 2, 1)) ∧ (decode cL_put 4 = .ok (.invokevirtual 62, 3)) ∧ (decode cL_put 7 = .ok (.i2l, 1)) ∧ (decode cL_put 8 = .ok (.putfield 13, 3)) ∧ (decode cL_put 11 = .ok (.goto 11, 3)) ∧ (decode cL_put 14 = .ok (.astore 4, 2)) ∧ (decode cL_put 16 = .ok (.iconst 1, 1)) ∧ (decode cL_put 17 = .ok (.ireturn, 1)) ∧ (decode cL_put 18 = .ok (.astore 4, 2)) ∧ (decode cL_put 20 = .ok (.iconst 2, 1)) ∧ (decode cL_put 21 = .ok (.ireturn, 1)) ∧ (decode cL_put 22 = .ok (.iconst 0, 1)) ∧ (decode cL_put 23 = .ok (.ireturn, 1)) ∧ (decode cL_cut 0 = .ok (.aload_n 3, 1)) ∧ (decode cL_cut 1 = .ok (.aload_n 0, 1)) ∧ (decode cL_cut 2 = .ok (.iload_n 1, 1)) := by decide +kernel
theorem dL_read_18 : decode cL_read 18 = .ok (.astore 4, 2) := dgL_4.1
theorem dL_read_20 : decode cL_read 20 = .ok (.iconst 2, 1) := dgL_4.2.1
theorem dL_read_21 : decode cL_read 21 = .ok (.ireturn, 1) := dgL_4.2.2.1
theorem dL_read_22 : decode cL_read 22 = .ok (.iconst 0, 1) := dgL_4.2.2.2.1
theorem dL_read_23 : decode cL_read 23 = .ok (.ireturn, 1) := dgL_4.2.2.2.2.1
theorem dL_send_0 : decode cL_send 0 = .ok (.aload_n 3, 1) := dgL_4.2.2.2.2.2.1
theorem dL_send_1 : decode cL_send 1 = .ok (.aload_n 0, 1) := dgL_4.2.2.2.2.2.2.1
theorem dL_send_2 : decode cL_send 2 = .ok (.iload_n 1, 1) := dgL_4.2.2.2.2.2.2.2.1
theorem dL_send_3 : decode cL_send 3 = .ok (.iload_n 2, 1) := dgL_4.2.2.2.2.2.2.2.2.1
theorem dL_send_4 : decode cL_send 4 = .ok (.invokevirtual 59, 3) := dgL_4.2.2.2.2.2.2.2.2.2.1
theorem dL_send_7 : decode cL_send 7 = .ok (.i2l, 1) := dgL_4.2.2.2.2.2.2.2.2.2.2.1
theorem dL_send_8 : decode cL_send 8 = .ok (.putfield 13, 3) := dgL_4.2.2.2.2.2.2.2.2.2.2.2.1
theorem dL_send_11 : decode cL_send 11 = .ok (.goto 11, 3) := dgL_4.2.2.2.2.2.2.2.2.2.2.2.2.1
theorem dL_send_14 : decode cL_send 14 = .ok (.astore 4, 2) := dgL_4.2.2.2.2.2.2.2.2.2.2.2.2.2.1
theorem dL_send_16 : decode cL_send 16 = .ok (.iconst 1, 1) := dgL_4.2.2.2.2.2.2.2.2.2.2.2.2.2.2.1
theorem dL_send_17 : decode cL_send 17 = .ok (.ireturn, 1) := dgL_4.2.2.2.2.2.2.2.2.2.2.2.2.2.2.2.1
theorem dL_send_18 : decode cL_send 18 = .ok (.astore 4, 2) := dgL_4.2.2.2.2.2.2.2.2.2.2.2.2.2.2.2.2.1
theorem dL_send_20 : decode cL_send 20 = .ok (.iconst 2, 1) := dgL_4.2.2.2.2.2.2.2.2.2.2.2.2.2.2.2.2.2.1
theorem dL_send_21 : decode cL_send 21 = .ok (.ireturn, 1) := dgL_4.2.2.2.2.2.2.2.2.2.2.2.2.2.2.2.2.2.2.1
theorem dL_send_22 : decode cL_send 22 = .ok (.iconst 0, 1) := dgL_4.2.2.2.2.2.2.2.2.2.2.2.2.2.2.2.2.2.2.2.1
theorem dL_send_23 : decode cL_send 23 = .ok (.ireturn, 1) := dgL_4.2.2.2.2.2.2.2.2.2.2.2.2.2.2.2.2.2.2.2.2.1
theorem dL_put_0 : decode cL_put 0 = .ok (.aload_n 3, 1) := dgL_4.2.2.2.2.2.2.2.2.2.2.2.2.2.2.2.2.2.2.2.2.2.1
theorem dL_put_1 : decode cL_put 1 = .ok (.aload_n 0, 1) := dgL_4.2.2.2.2.2.2.2.2.2.2.2.2.2.2.2.2.2.2.2.2.2.2.1
theorem dL_put_2 : decode cL_put 2 = .ok (.iload_n 1, 1) := dgL_4.2.2.2.2.2.2.2.2.2.2.2.2.2.2.2.2.2.2.2.2.2.2.2.1
theorem dL_put_3 : decode cL_put 3 = .ok (.iload_n 2, 1) := dgL_4.2.2.2.2.2.2.2.2.2.2.2.2.2.2.2.2.2.2.2.2.2.2.2.2.1
theorem dL_put_4 : decode cL_put 4 = .ok (.invokevirtual 62, 3) := dgL_4.2.2.2.2.2.2.2.2.2.2.2.2.2.2.2.2.2.2.2.2.2.2.2.2.2.1
theorem dL_put_7 : decode cL_put 7 = .ok (.i2l, 1) := dgL_4.2.2.2.2.2.2.2.2.2.2.2.2.2.2.2.2.2.2.2.2.2.2.2.2.2.2.1
theorem dL_put_8 : decode cL_put 8 = .ok (.putfield 13, 3) := dgL_4.2.2.2.2.2.2.2.2.2.2.2.2.2.2.2.2.2.2.2.2.2.2.2.2.2.2.2.1
theorem dL_put_11 : decode cL_put 11 = .ok (.goto 11, 3) := dgL_4.2.2.2.2.2.2.2.2.2.2.2.2.2.2.2.2.2.2.2.2.2.2.2.2.2.2.2.2.1
theorem dL_put_14 : decode cL_put 14 = .ok (.astore 4, 2) := dgL_4.2.2.2.2.2.2.2.2.2.2.2.2.2.2.2.2.2.2.2.2.2.2.2.2.2.2.2.2.2.1
theorem dL_put_16 : decode cL_put 16 = .ok (.iconst 1, 1) := dgL_4.2.2.2.2.2.2.2.2.2.2.2.2.2.2.2.2.2.2.2.2.2.2.2.2.2.2.2.2.2.2.1
theorem dL_put_17 : decode cL_put 17 = .ok (.ireturn, 1) := dgL_4.2.2.2.2.2.2.2.2.2.2.2.2.2.2.2.2.2.2.2.2.2.2.2.2.2.2.2.2.2.2.2.1
theorem dL_put_18 : decode cL_put 18 = .ok (.astore 4, 2) := dgL_4.2.2.2.2.2.2.2.2.2.2.2.2.2.2.2.2.2.2.2.2.2.2.2.2.2.2.2.2.2.2.2.2.1
theorem dL_put_20 : decode cL_put 20 = .ok (.iconst 2, 1) := dgL_4.2.2.2.2.2.2.2.2.2.2.2.2.2.2.2.2.2.2.2.2.2.2.2.2.2.2.2.2.2.2.2.2.2.1
theorem dL_put_21 : decode cL_put 21 = .ok (.ireturn, 1) := dgL_4.2.2.2.2.2.2.2.2.2.2.2.2.2.2.2.2.2.2.2.2.2.2.2.2.2.2.2.2.2.2.2.2.2.2.1
theorem dL_put_22 : decode cL_put 22 = .ok (.iconst 0, 1) := dgL_4.2.2.2.2.2.2.2.2.2.2.2.2.2.2.2.2.2.2.2.2.2.2.2.2.2.2.2.2.2.2.2.2.2.2.2.1
theorem dL_put_23 : decode cL_put 23 = .ok (.ireturn, 1) := dgL_4.2.2.2.2.2.2.2.2.2.2.2.2.2.2.2.2.2.2.2.2.2.2.2.2.2.2.2.2.2.2.2.2.2.2.2.2.1
theorem dL_cut_0 : decode cL_cut 0 = .ok (.aload_n 3, 1) := dgL_4.2.2.2.2.2.2.2.2.2.2.2.2.2.2.2.2.2.2.2.2.2.2.2.2.2.2.2.2.2.2.2.2.2.2.2.2.2.1
theorem dL_cut_1 : decode cL_cut 1 = .ok (.aload_n 0, 1) := dgL_4.2.2.2.2.2.2.2.2.2.2.2.2.2.2.2.2.2.2.2.2.2.2.2.2.2.2.2.2.2.2.2.2.2.2.2.2.2.2.1
theorem dL_cut_2 : decode cL_cut 2 = .ok (.iload_n 1, 1) := dgL_4.2.2.2.2.2.2.2.2.2.2.2.2.2.2.2.2.2.2.2.2.2.2.2.2.2.2.2.2.2.2.2.2.2.2.2.2.2.2.2
theorem dgL_5 : (decode cL_cut 3 = .ok (.iload_n 2, 1)) ∧ (decode cL_cut 4 = .ok (.invokevirtual 65, 3)) ∧ (decode cL_cut 7 = .ok (.i2l, 1)) ∧ (decode cL_cut 8 = .ok (.putfield 13, 3)) ∧ (decode cL_cut 11 = .ok (.goto 11, 3)) ∧ (decode cL_cut 14 = .ok (.astore 4, 2)) ∧ (decode cL_cut 16 = .ok (.iconst 1, 1)) ∧ (decode cL_cut 17 = .ok (.ireturn, 1)) ∧ (decode cL_cut 18 = .ok (.astore 4, 2)) ∧ (decode cL_cut 20 = .ok (.iconst 2, 1)) ∧ (decode cL_cut 21 = .ok (.ireturn, 1)) ∧ (decode cL_cut 22 = .ok (.iconst 0, 1)) ∧ (decode cL_cut 23 = .ok (.ireturn, 1)) ∧ (decode cL_flip 0 = .ok (.aload_n 2, 1)) ∧ (decode cL_flip 1 = .ok (.aload_n 0, 1)) ∧ (decode cL_flip 2 = .ok (.iload_n 1, 1)) ∧ (decode cL_flip 3 = .ok (.invokevirtual 68, 3)) ∧ (decode cL_flip 6 = .ok (.i2l, 1)) ∧ (decode cL_flip 7 = .ok (.putfield 13, 3)) ∧ (decode cL_flip 10 = .ok (.goto 6, 3)) ∧ (decode cL_flip 13 = .ok (.astore_n 3, 1)) ∧ (decode cL_flip 14 = .ok (.iconst 1, 1)) ∧ (decode cL_flip 15 = .ok (.ireturn, 1)) ∧ (decode cL_flip 16 = .ok (.iconst 0, 1)) ∧ (decode cL_flip 17 = .ok (.ireturn, 1)) ∧ (decode cL_reverse 0 = .ok (.aload_n 2, 1)) ∧ (decode cL_reverse 1 = .ok (.aload_n 0, 1)) ∧ (decode cL_reverse 2 = .ok (.iload_n 1, 1)) ∧ (decode cL_reverse 3 = .ok (.invokevirtual 71, 3)) ∧ (decode cL_reverse 6 = .ok (.i2l, 1)) ∧ (decode cL_reverse 7 = .ok (.putfield 13, 3)) ∧ (decode cL_reverse 10 = .ok (.goto 6, 3)) ∧ (decode cL_reverse 13 = .ok (.astore_n 3, 1)) ∧ (decode cL_reverse 14 = .ok (.iconst 1, 1)) ∧ (decode cL_reverse 15 = .ok (.ireturn, 1)) ∧ (decode cL_reverse 16 = .ok (.iconst 0, 1)) ∧ (decode cL_reverse 17 = .ok (.ireturn, 1)) ∧ (decode cL_undo 0 = .ok (.aload_n 1, 1)) ∧ (decode cL_undo 1 = .ok (.aload_n 0, 1)) ∧ (decode cL_undo 2 = .ok (.invokevirtual 74, 3)) := by decide +kernel
theorem dL_cut_3 : decode cL_cut 3 = .ok (.iload_n 2, 1) := dgL_5.1
theorem dL_cut_4 : decode cL_cut 4 = .ok (.invokevirtual 65, 3) := dgL_5.2.1
theorem dL_cut_7 : decode cL_cut 7 = .ok (.i2l, 1) := dgL_5.2.2.1
theorem dL_cut_8 : decode cL_cut 8 = .ok (.putfield 13, 3) := dgL_5.2.2.2.1
theorem dL_cut_11 : decode cL_cut 11 = .ok (.goto 11, 3) := dgL_5.2.2.2.2.1
theorem dL_cut_14 : decode cL_cut 14 = .ok (.astore 4, 2) := dgL_5.2.2.2.2.2.1
theorem dL_cut_16 : decode cL_cut 16 = .ok (.iconst 1, 1) := dgL_5.2.2.2.2.2.2.1
theorem dL_cut_17 : decode cL_cut 17 = .ok (.ireturn, 1) := dgL_5.2.2.2.2.2.2.2.1
theorem dL_cut_18 : decode cL_cut 18 = .ok (.astore 4, 2) := dgL_5.2.2.2.2.2.2.2.2.1
theorem dL_cut_20 : decode cL_cut 20 = .ok (.iconst 2, 1) := dgL_5.2.2.2.2.2.2.2.2.2.1
theorem dL_cut_21 : decode cL_cut 21 = .ok (.ireturn, 1) := dgL_5.2.2.2.2.2.2.2.2.2.2.1
theorem dL_cut_22 : decode cL_cut 22 = .ok (.iconst 0, 1) := dgL_5.2.2.2.2.2.2.2.2.2.2.2.1
theorem dL_cut_23 : decode cL_cut 23 = .ok (.ireturn, 1) := dgL_5.2.2.2.2.2.2.2.2.2.2.2.2.1
theorem dL_flip_0 : decode cL_flip 0 = .ok (.aload_n 2, 1) := dgL_5.2.2.2.2.2.2.2.2.2.2.2.2.2.1
theorem dL_flip_1 : decode cL_flip 1 = .ok (.aload_n 0, 1) := dgL_5.2.2.2.2.2.2.2.2.2.2.2.2.2.2.1
theorem dL_flip_2 : decode cL_flip 2 = .ok (.iload_n 1, 1) := dgL_5.2.2.2.2.2.2.2.2.2.2.2.2.2.2.2.1
theorem dL_flip_3 : decode cL_flip 3 = .ok (.invokevirtual 68, 3) := dgL_5.2.2.2.2.2.2.2.2.2.2.2.2.2.2.2.2.1
theorem dL_flip_6 : decode cL_flip 6 = .ok (.i2l, 1) := dgL_5.2.2.2.2.2.2.2.2.2.2.2.2.2.2.2.2.2.1
theorem dL_flip_7 : decode cL_flip 7 = .ok (.putfield 13, 3) := dgL_5.2.2.2.2.2.2.2.2.2.2.2.2.2.2.2.2.2.2.1
theorem dL_flip_10 : decode cL_flip 10 = .ok (.goto 6, 3) := dgL_5.2.2.2.2.2.2.2.2.2.2.2.2.2.2.2.2.2.2.2.1
theorem dL_flip_13 : decode cL_flip 13 = .ok (.astore_n 3, 1) := dgL_5.2.2.2.2.2.2.2.2.2.2.2.2.2.2.2.2.2.2.2.2.1
theorem dL_flip_14 : decode cL_flip 14 = .ok (.iconst 1, 1) := dgL_5.2.2.2.2.2.2.2.2.2.2.2.2.2.2.2.2.2.2.2.2.2.1
theorem dL_flip_15 : decode cL_flip 15 = .ok (.ireturn, 1) := dgL_5.2.2.2.2.2.2.2.2.2.2.2.2.2.2.2.2.2.2.2.2.2.2.1
theorem dL_flip_16 : decode cL_flip 16 = .ok (.iconst 0, 1) := dgL_5.2.2.2.2.2.2.2.2.2.2.2.2.2.2.2.2.2.2.2.2.2.2.2.1
theorem dL_flip_17 : decode cL_flip 17 = .ok (.ireturn, 1) := dgL_5.2.2.2.2.2.2.2.2.2.2.2.2.2.2.2.2.2.2.2.2.2.2.2.2.1
theorem dL_reverse_0 : decode cL_reverse 0 = .ok (.aload_n 2, 1) := dgL_5.2.2.2.2.2.2.2.2.2.2.2.2.2.2.2.2.2.2.2.2.2.2.2.2.2.1
theorem dL_reverse_1 : decode cL_reverse 1 = .ok (.aload_n 0, 1) := dgL_5.2.2.2.2.2.2.2.2.2.2.2.2.2.2.2.2.2.2.2.2.2.2.2.2.2.2.1
theorem dL_reverse_2 : decode cL_reverse 2 = .ok (.iload_n 1, 1) := dgL_5.2.2.2.2.2.2.2.2.2.2.2.2.2.2.2.2.2.2.2.2.2.2.2.2.2.2.2.1
theorem dL_reverse_3 : decode cL_reverse 3 = .ok (.invokevirtual 71, 3) := dgL_5.2.2.2.2.2.2.2.2.2.2.2.2.2.2.2.2.2.2.2.2.2.2.2.2.2.2.2.2.1
theorem dL_reverse_6 : decode cL_reverse 6 = .ok (.i2l, 1) := dgL_5.2.2.2.2.2.2.2.2.2.2.2.2.2.2.2.2.2.2.2.2.2.2.2.2.2.2.2.2.2.1
theorem dL_reverse_7 : decode cL_reverse 7 = .ok (.putfield 13, 3) := dgL_5.2.2.2.2.2.2.2.2.2.2.2.2.2.2.2.2.2.2.2.2.2.2.2.2.2.2.2.2.2.2.1
theorem dL_reverse_10 : decode cL_reverse 10 = .ok (.goto 6, 3) := dgL_5.2.2.2.2.2.2.2.2.2.2.2.2.2.2.2.2.2.2.2.2.2.2.2.2.2.2.2.2.2.2.2.1
theorem dL_reverse_13 : decode cL_reverse 13 = .ok (.astore_n 3, 1) := dgL_5.2.2.2.2.2.2.2.2.2.2.2.2.2.2.2.2.2.2.2.2.2.2.2.2.2.2.2.2.2.2.2.2.1
theorem dL_reverse_14 : decode cL_reverse 14 = .ok (.iconst 1, 1) := dgL_5.2.2.2.2.2.2.2.2.2.2.2.2.2.2.2.2.2.2.2.2.2.2.2.2.2.2.2.2.2.2.2.2.2.1
theorem dL_reverse_15 : decode cL_reverse 15 = .ok (.ireturn, 1) := dgL_5.2.2.2.2.2.2.2.2.2.2.2.2.2.2.2.2.2.2.2.2.2.2.2.2.2.2.2.2.2.2.2.2.2.2.1
theorem dL_reverse_16 : decode cL_reverse 16 = .ok (.iconst 0, 1) := dgL_5.2.2.2.2.2.2.2.2.2.2.2.2.2.2.2.2.2.2.2.2.2.2.2.2.2.2.2.2.2.2.2.2.2.2.2.1
theorem dL_reverse_17 : decode cL_reverse 17 = .ok (.ireturn, 1) := dgL_5.2.2.2.2.2.2.2.2.2.2.2.2.2.2.2.2.2.2.2.2.2.2.2.2.2.2.2.2.2.2.2.2.2.2.2.2.1
theorem dL_undo_0 : decode cL_undo 0 = .ok (.aload_n 1, 1) := dgL_5.2.2.2.2.2.2.2.2.2.2.2.2.2.2.2.2.2.2.2.2.2.2.2.2.2.2.2.2.2.2.2.2.2.2.2.2.2.1
theorem dL_undo_1 : decode cL_undo 1 = .ok (.aload_n 0, 1) := dgL_5.2.2.2.2.2.2.2.2.2.2.2.2.2.2.2.2.2.2.2.2.2.2.2.2.2.2.2.2.2.2.2.2.2.2.2.2.2.2.1
theorem dL_undo_2 : decode cL_undo 2 = .ok (.invokevirtual 74, 3) := dgL_5.2.2.2.2.2.2.2.2.2.2.2.2.2.2.2.2.2.2.2.2.2.2.2.2.2.2.2.2.2.2.2.2.2.2.2.2.2.2.2
theorem dgL_6 : (decode cL_undo 5 = .ok (.i2l, 1)) ∧ (decode cL_undo 6 = .ok (.putfield 13, 3)) ∧ (decode cL_undo 9 = .ok (.goto 6, 3)) ∧ (decode cL_undo 12 = .ok (.astore_n 2, 1)) ∧ (decode cL_undo 13 = .ok (.iconst 1, 1)) ∧ (decode cL_undo 14 = .ok (.ireturn, 1)) ∧ (decode cL_undo 15 = .ok (.iconst 0, 1)) ∧ (decode cL_undo 16 = .ok (.ireturn, 1)) ∧ (decode cL_isDigit 0 = .ok (.aload_n 2, 1)) ∧ (decode cL_isDigit 1 = .ok (.aload_n 0, 1)) ∧ (decode cL_isDigit 2 = .ok (.iload_n 1, 1)) ∧ (decode cL_isDigit 3 = .ok (.invokevirtual 78, 3)) ∧ (decode cL_isDigit 6 = .ok (.ifCond .eq 7, 3)) ∧ (decode cL_isDigit 9 = .ok (.lconst 1, 1)) ∧ (decode cL_isDigit 10 = .ok (.goto 4, 3)) ∧ (decode cL_isDigit 13 = .ok (.lconst 0, 1)) ∧ (decode cL_isDigit 14 = .ok (.putfield 13, 3)) ∧ (decode cL_isDigit 17 = .ok (.goto 6, 3)) ∧ (decode cL_isDigit 20 = .ok (.astore_n 3, 1)) ∧ (decode cL_isDigit 21 = .ok (.iconst 1, 1)) ∧ (decode cL_isDigit 22 = .ok (.ireturn, 1)) ∧ (decode cL_isDigit 23 = .ok (.iconst 0, 1)) ∧ (decode cL_isDigit 24 = .ok (.ireturn, 1)) ∧ (decode cL_isLetter 0 = .ok (.aload_n 2, 1)) ∧ (decode cL_isLetter 1 = .ok (.aload_n 0, 1)) ∧ (decode cL_isLetter 2 = .ok (.iload_n 1, 1)) ∧ (decode cL_isLetter 3 = .ok (.invokevirtual 82, 3)) ∧ (decode cL_isLetter 6 = .ok (.ifCond .eq 7, 3)) ∧ (decode cL_isLetter 9 = .ok (.lconst 1, 1)) ∧ (decode cL_isLetter 10 = .ok (.goto 4, 3)) ∧ (decode cL_isLetter 13 = .ok (.lconst 0, 1)) ∧ (decode cL_isLetter 14 = .ok (.putfield 13, 3)) ∧ (decode cL_isLetter 17 = .ok (.goto 6, 3)) ∧ (decode cL_isLetter 20 = .ok (.astore_n 3, 1)) ∧ (decode cL_isLetter 21 = .ok (.iconst 1, 1)) ∧ (decode cL_isLetter 22 = .ok (.ireturn, 1)) ∧ (decode cL_isLetter 23 = .ok (.iconst 0, 1)) ∧ (decode cL_isLetter 24 = .ok (.ireturn, 1)) ∧ (decode cL_isLetterOrDigit 0 = .ok (.aload_n 2, 1)) ∧ (decode cL_isLetterOrDigit 1 = .ok (.aload_n 0, 1)) := by decide +kernel
theorem dL_undo_5 : decode cL_undo 5 = .ok (.i2l, 1) := dgL_6.1
theorem dL_undo_6 : decode cL_undo 6 = .ok (.putfield 13, 3) := dgL_6.2.1
theorem dL_undo_9 : decode cL_undo 9 = .ok (.goto 6, 3) := dgL_6.2.2.1
theorem dL_undo_12 : decode cL_undo 12 = .ok (.astore_n 2, 1) := dgL_6.2.2.2.1
theorem dL_undo_13 : decode cL_undo 13 = .ok (.iconst 1, 1) := dgL_6.2.2.2.2.1
theorem dL_undo_14 : decode cL_undo 14 = .ok (.ireturn, 1) := dgL_6.2.2.2.2.2.1
theorem dL_undo_15 : decode cL_undo 15 = .ok (.iconst 0, 1) := dgL_6.2.2.2.2.2.2.1
theorem dL_undo_16 : decode cL_undo 16 = .ok (.ireturn, 1) := dgL_6.2.2.2.2.2.2.2.1
theorem dL_isDigit_0 : decode cL_isDigit 0 = .ok (.aload_n 2, 1) := dgL_6.2.2.2.2.2.2.2.2.1
theorem dL_isDigit_1 : decode cL_isDigit 1 = .ok (.aload_n 0, 1) := dgL_6.2.2.2.2.2.2.2.2.2.1
theorem dL_isDigit_2 : decode cL_isDigit 2 = .ok (.iload_n 1, 1) := dgL_6.2.2.2.2.2.2.2.2.2.2.1
theorem dL_isDigit_3 : decode cL_isDigit 3 = .ok (.invokevirtual 78, 3) := dgL_6.2.2.2.2.2.2.2.2.2.2.2.1
theorem dL_isDigit_6 : decode cL_isDigit 6 = .ok (.ifCond .eq 7, 3) := dgL_6.2.2.2.2.2.2.2.2.2.2.2.2.1
theorem dL_isDigit_9 : decode cL_isDigit 9 = .ok (.lconst 1, 1) := dgL_6.2.2.2.2.2.2.2.2.2.2.2.2.2.1
theorem dL_isDigit_10 : decode cL_isDigit 10 = .ok (.goto 4, 3) := dgL_6.2.2.2.2.2.2.2.2.2.2.2.2.2.2.1
theorem dL_isDigit_13 : decode cL_isDigit 13 = .ok (.lconst 0, 1) := dgL_6.2.2.2.2.2.2.2.2.2.2.2.2.2.2.2.1
theorem dL_isDigit_14 : decode cL_isDigit 14 = .ok (.putfield 13, 3) := dgL_6.2.2.2.2.2.2.2.2.2.2.2.2.2.2.2.2.1
theorem dL_isDigit_17 : decode cL_isDigit 17 = .ok (.goto 6, 3) := dgL_6.2.2.2.2.2.2.2.2.2.2.2.2.2.2.2.2.2.1
theorem dL_isDigit_20 : decode cL_isDigit 20 = .ok (.astore_n 3, 1) := dgL_6.2.2.2.2.2.2.2.2.2.2.2.2.2.2.2.2.2.2.1
theorem dL_isDigit_21 : decode cL_isDigit 21 = .ok (.iconst 1, 1) := dgL_6.2.2.2.2.2.2.2.2.2.2.2.2.2.2.2.2.2.2.2.1
theorem dL_isDigit_22 : decode cL_isDigit 22 = .ok (.ireturn, 1) := dgL_6.2.2.2.2.2.2.2.2.2.2.2.2.2.2.2.2.2.2.2.2.1
theorem dL_isDigit_23 : decode cL_isDigit 23 = .ok (.iconst 0, 1) := dgL_6.2.2.2.2.2.2.2.2.2.2.2.2.2.2.2.2.2.2.2.2.2.1
theorem dL_isDigit_24 : decode cL_isDigit 24 = .ok (.ireturn, 1) := dgL_6.2.2.2.2.2.2.2.2.2.2.2.2.2.2.2.2.2.2.2.2.2.2.1
theorem dL_isLetter_0 : decode cL_isLetter 0 = .ok (.aload_n 2, 1) := dgL_6.2.2.2.2.2.2.2.2.2.2.2.2.2.2.2.2.2.2.2.2.2.2.2.1
theorem dL_isLetter_1 : decode cL_isLetter 1 = .ok (.aload_n 0, 1) := dgL_6.2.2.2.2.2.2.2.2.2.2.2.2.2.2.2.2.2.2.2.2.2.2.2.2.1
theorem dL_isLetter_2 : decode cL_isLetter 2 = .ok (.iload_n 1, 1) := dgL_6.2.2.2.2.2.2.2.2.2.2.2.2.2.2.2.2.2.2.2.2.2.2.2.2.2.1
theorem dL_isLetter_3 : decode cL_isLetter 3 = .ok (.invokevirtual 82, 3) := dgL_6.2.2.2.2.2.2.2.2.2.2.2.2.2.2.2.2.2.2.2.2.2.2.2.2.2.2.1
theorem dL_isLetter_6 : decode cL_isLetter 6 = .ok (.ifCond .eq 7, 3) := dgL_6.2.2.2.2.2.2.2.2.2.2.2.2.2.2.2.2.2.2.2.2.2.2.2.2.2.2.2.1
theorem dL_isLetter_9 : decode cL_isLetter 9 = .ok (.lconst 1, 1) := dgL_6.2.2.2.2.2.2.2.2.2.2.2.2.2.2.2.2.2.2.2.2.2.2.2.2.2.2.2.2.1
theorem dL_isLetter_10 : decode cL_isLetter 10 = .ok (.goto 4, 3) := dgL_6.2.2.2.2.2.2.2.2.2.2.2.2.2.2.2.2.2.2.2.2.2.2.2.2.2.2.2.2.2.1
theorem dL_isLetter_13 : decode cL_isLetter 13 = .ok (.lconst 0, 1) := dgL_6.2.2.2.2.2.2.2.2.2.2.2.2.2.2.2.2.2.2.2.2.2.2.2.2.2.2.2.2.2.2.1
theorem dL_isLetter_14 : decode cL_isLetter 14 = .ok (.putfield 13, 3) := dgL_6.2.2.2.2.2.2.2.2.2.2.2.2.2.2.2.2.2.2.2.2.2.2.2.2.2.2.2.2.2.2.2.1
theorem dL_isLetter_17 : decode cL_isLetter 17 = .ok (.goto 6, 3) := dgL_6.2.2.2.2.2.2.2.2.2.2.2.2.2.2.2.2.2.2.2.2.2.2.2.2.2.2.2.2.2.2.2.2.1
theorem dL_isLetter_20 : decode cL_isLetter 20 = .ok (.astore_n 3, 1) := dgL_6.2.2.2.2.2.2.2.2.2.2.2.2.2.2.2.2.2.2.2.2.2.2.2.2.2.2.2.2.2.2.2.2.2.1
theorem dL_isLetter_21 : decode cL_isLetter 21 = .ok (.iconst 1, 1) := dgL_6.2.2.2.2.2.2.2.2.2.2.2.2.2.2.2.2.2.2.2.2.2.2.2.2.2.2.2.2.2.2.2.2.2.2.1
theorem dL_isLetter_22 : decode cL_isLetter 22 = .ok (.ireturn, 1) := dgL_6.2.2.2.2.2.2.2.2.2.2.2.2.2.2.2.2.2.2.2.2.2.2.2.2.2.2.2.2.2.2.2.2.2.2.2.1
theorem dL_isLetter_23 : decode cL_isLetter 23 = .ok (.iconst 0, 1) := dgL_6.2.2.2.2.2.2.2.2.2.2.2.2.2.2.2.2.2.2.2.2.2.2.2.2.2.2.2.2.2.2.2.2.2.2.2.2.1
theorem dL_isLetter_24 : decode cL_isLetter 24 = .ok (.ireturn, 1) := dgL_6.2.2.2.2.2.2.2.2.2.2.2.2.2.2.2.2.2.2.2.2.2.2.2.2.2.2.2.2.2.2.2.2.2.2.2.2.2.1
theorem dL_isLetterOrDigit_0 : decode cL_isLetterOrDigit 0 = .ok (.aload_n 2, 1) := dgL_6.2.2.2.2.2.2.2.2.2.2.2.2.2.2.2.2.2.2.2.2.2.2.2.2.2.2.2.2.2.2.2.2.2.2.2.2.2.2.1
theorem dL_isLetterOrDigit_1 : decode cL_isLetterOrDigit 1 = .ok (.aload_n 0, 1) := dgL_6.2.2.2.2.2.2.2.2.2.2.2.2.2.2.2.2.2.2.2.2.2.2.2.2.2.2.2.2.2.2.2.2.2.2.2.2.2.2.2
theorem dgL_7 : (decode cL_isLetterOrDigit 2 = .ok (.iload_n 1, 1)) ∧ (decode cL_isLetterOrDigit 3 = .ok (.invokevirtual 85, 3)) ∧ (decode cL_isLetterOrDigit 6 = .ok (.ifCond .eq 7, 3)) ∧ (decode cL_isLetterOrDigit 9 = .ok (.lconst 1, 1)) ∧ (decode cL_isLetterOrDigit 10 = .ok (.goto 4, 3)) ∧ (decode cL_isLetterOrDigit 13 = .ok (.lconst 0, 1)) ∧ (decode cL_isLetterOrDigit 14 = .ok (.putfield 13, 3)) ∧ (decode cL_isLetterOrDigit 17 = .ok (.goto 6, 3)) ∧ (decode cL_isLetterOrDigit 20 = .ok (.astore_n 3, 1)) ∧ (decode cL_isLetterOrDigit 21 = .ok (.iconst 1, 1)) ∧ (decode cL_isLetterOrDigit 22 = .ok (.ireturn, 1)) ∧ (decode cL_isLetterOrDigit 23 = .ok (.iconst 0, 1)) ∧ (decode cL_isLetterOrDigit 24 = .ok (.ireturn, 1)) ∧ (decode cL_isWhite 0 = .ok (.aload_n 2, 1)) ∧ (decode cL_isWhite 1 = .ok (.aload_n 0, 1)) ∧ (decode cL_isWhite 2 = .ok (.iload_n 1, 1)) ∧ (decode cL_isWhite 3 = .ok (.invokevirtual 88, 3)) ∧ (decode cL_isWhite 6 = .ok (.ifCond .eq 7, 3)) ∧ (decode cL_isWhite 9 = .ok (.lconst 1, 1)) ∧ (decode cL_isWhite 10 = .ok (.goto 4, 3)) ∧ (decode cL_isWhite 13 = .ok (.lconst 0, 1)) ∧ (decode cL_isWhite 14 = .ok (.putfield 13, 3)) ∧ (decode cL_isWhite 17 = .ok (.goto 6, 3)) ∧ (decode cL_isWhite 20 = .ok (.astore_n 3, 1)) ∧ (decode cL_isWhite 21 = .ok (.iconst 1, 1)) ∧ (decode cL_isWhite 22 = .ok (.ireturn, 1)) ∧ (decode cL_isWhite 23 = .ok (.iconst 0, 1)) ∧ (decode cL_isWhite 24 = .ok (.ireturn, 1)) ∧ (decode cL_isGreat 0 = .ok (.aload_n 2, 1)) ∧ (decode cL_isGreat 1 = .ok (.aload_n 0, 1)) ∧ (decode cL_isGreat 2 = .ok (.iload_n 1, 1)) ∧ (decode cL_isGreat 3 = .ok (.invokevirtual 91, 3)) ∧ (decode cL_isGreat 6 = .ok (.ifCond .eq 7, 3)) ∧ (decode cL_isGreat 9 = .ok (.lconst 1, 1)) ∧ (decode cL_isGreat 10 = .ok (.goto 4, 3)) ∧ (decode cL_isGreat 13 = .ok (.lconst 0, 1)) ∧ (decode cL_isGreat 14 = .ok (.putfield 13, 3)) ∧ (decode cL_isGreat 17 = .ok (.goto 6, 3)) ∧ (decode cL_isGreat 20 = .ok (.astore_n 3, 1)) ∧ (decode cL_isGreat 21 = .ok (.iconst 1, 1)) := by decide +kernel
theorem dL_isLetterOrDigit_2 : decode cL_isLetterOrDigit 2 = .ok (.iload_n 1, 1) := dgL_7.1
theorem dL_isLetterOrDigit_3 : decode cL_isLetterOrDigit 3 = .ok (.invokevirtual 85, 3) := dgL_7.2.1
theorem dL_isLetterOrDigit_6 : decode cL_isLetterOrDigit 6 = .ok (.ifCond .eq 7, 3) := dgL_7.2.2.1
theorem dL_isLetterOrDigit_9 : decode cL_isLetterOrDigit 9 = .ok (.lconst 1, 1) := dgL_7.2.2.2.1
theorem dL_isLetterOrDigit_10 : decode cL_isLetterOrDigit 10 = .ok (.goto 4, 3) := dgL_7.2.2.2.2.1
theorem dL_isLetterOrDigit_13 : decode cL_isLetterOrDigit 13 = .ok (.lconst 0, 1) := dgL_7.2.2.2.2.2.1
theorem dL_isLetterOrDigit_14 : decode cL_isLetterOrDigit 14 = .ok (.putfield 13, 3) := dgL_7.2.2.2.2.2.2.1
theorem dL_isLetterOrDigit_17 : decode cL_isLetterOrDigit 17 = .ok (.goto 6, 3) := dgL_7.2.2.2.2.2.2.2.1
theorem dL_isLetterOrDigit_20 : decode cL_isLetterOrDigit 20 = .ok (.astore_n 3, 1) := dgL_7.2.2.2.2.2.2.2.2.1
theorem dL_isLetterOrDigit_21 : decode cL_isLetterOrDigit 21 = .ok (.iconst 1, 1) := dgL_7.2.2.2.2.2.2.2.2.2.1
theorem dL_isLetterOrDigit_22 : decode cL_isLetterOrDigit 22 = .ok (.ireturn, 1) := dgL_7.2.2.2.2.2.2.2.2.2.2.1
theorem dL_isLetterOrDigit_23 : decode cL_isLetterOrDigit 23 = .ok (.iconst 0, 1) := dgL_7.2.2.2.2.2.2.2.2.2.2.2.1
theorem dL_isLetterOrDigit_24 : decode cL_isLetterOrDigit 24 = .ok (.ireturn, 1) := dgL_7.2.2.2.2.2.2.2.2.2.2.2.2.1
theorem dL_isWhite_0 : decode cL_isWhite 0 = .ok (.aload_n 2, 1) := dgL_7.2.2.2.2.2.2.2.2.2.2.2.2.2.1
theorem dL_isWhite_1 : decode cL_isWhite 1 = .ok (.aload_n 0, 1) := dgL_7.2.2.2.2.2.2.2.2.2.2.2.2.2.2.1
theorem dL_isWhite_2 : decode cL_isWhite 2 = .ok (.iload_n 1, 1) := dgL_7.2.2.2.2.2.2.2.2.2.2.2.2.2.2.2.1
theorem dL_isWhite_3 : decode cL_isWhite 3 = .ok (.invokevirtual 88, 3) := dgL_7.2.2.2.2.2.2.2.2.2.2.2.2.2.2.2.2.1
theorem dL_isWhite_6 : decode cL_isWhite 6 = .ok (.ifCond .eq 7, 3) := dgL_7.2.2.2.2.2.2.2.2.2.2.2.2.2.2.2.2.2.1
theorem dL_isWhite_9 : decode cL_isWhite 9 = .ok (.lconst 1, 1) := dgL_7.2.2.2.2.2.2.2.2.2.2.2.2.2.2.2.2.2.2.1
theorem dL_isWhite_10 : decode cL_isWhite 10 = .ok (.goto 4, 3) := dgL_7.2.2.2.2.2.2.2.2.2.2.2.2.2.2.2.2.2.2.2.1
theorem dL_isWhite_13 : decode cL_isWhite 13 = .ok (.lconst 0, 1) := dgL_7.2.2.2.2.2.2.2.2.2.2.2.2.2.2.2.2.2.2.2.2.1
theorem dL_isWhite_14 : decode cL_isWhite 14 = .ok (.putfield 13, 3) := dgL_7.2.2.2.2.2.2.2.2.2.2.2.2.2.2.2.2.2.2.2.2.2.1
theorem dL_isWhite_17 : decode cL_isWhite 17 = .ok (.goto 6, 3) := dgL_7.2.2.2.2.2.2.2.2.2.2.2.2.2.2.2.2.2.2.2.2.2.2.1
theorem dL_isWhite_20 : decode cL_isWhite 20 = .ok (.astore_n 3, 1) := dgL_7.2.2.2.2.2.2.2.2.2.2.2.2.2.2.2.2.2.2.2.2.2.2.2.1
theorem dL_isWhite_21 : decode cL_isWhite 21 = .ok (.iconst 1, 1) := dgL_7.2.2.2.2.2.2.2.2.2.2.2.2.2.2.2.2.2.2.2.2.2.2.2.2.1
theorem dL_isWhite_22 : decode cL_isWhite 22 = .ok (.ireturn, 1) := dgL_7.2.2.2.2.2.2.2.2.2.2.2.2.2.2.2.2.2.2.2.2.2.2.2.2.2.1
theorem dL_isWhite_23 : decode cL_isWhite 23 = .ok (.iconst 0, 1) := dgL_7.2.2.2.2.2.2.2.2.2.2.2.2.2.2.2.2.2.2.2.2.2.2.2.2.2.2.1
theorem dL_isWhite_24 : decode cL_isWhite 24 = .ok (.ireturn, 1) := dgL_7.2.2.2.2.2.2.2.2.2.2.2.2.2.2.2.2.2.2.2.2.2.2.2.2.2.2.2.1
theorem dL_isGreat_0 : decode cL_isGreat 0 = .ok (.aload_n 2, 1) := dgL_7.2.2.2.2.2.2.2.2.2.2.2.2.2.2.2.2.2.2.2.2.2.2.2.2.2.2.2.2.1
theorem dL_isGreat_1 : decode cL_isGreat 1 = .ok (.aload_n 0, 1) := dgL_7.2.2.2.2.2.2.2.2.2.2.2.2.2.2.2.2.2.2.2.2.2.2.2.2.2.2.2.2.2.1
theorem dL_isGreat_2 : decode cL_isGreat 2 = .ok (.iload_n 1, 1) := dgL_7.2.2.2.2.2.2.2.2.2.2.2.2.2.2.2.2.2.2.2.2.2.2.2.2.2.2.2.2.2.2.1
theorem dL_isGreat_3 : decode cL_isGreat 3 = .ok (.invokevirtual 91, 3) := dgL_7.2.2.2.2.2.2.2.2.2.2.2.2.2.2.2.2.2.2.2.2.2.2.2.2.2.2.2.2.2.2.2.1
theorem dL_isGreat_6 : decode cL_isGreat 6 = .ok (.ifCond .eq 7, 3) := dgL_7.2.2.2.2.2.2.2.2.2.2.2.2.2.2.2.2.2.2.2.2.2.2.2.2.2.2.2.2.2.2.2.2.1
theorem dL_isGreat_9 : decode cL_isGreat 9 = .ok (.lconst 1, 1) := dgL_7.2.2.2.2.2.2.2.2.2.2.2.2.2.2.2.2.2.2.2.2.2.2.2.2.2.2.2.2.2.2.2.2.2.1
theorem dL_isGreat_10 : decode cL_isGreat 10 = .ok (.goto 4, 3) := dgL_7.2.2.2.2.2.2.2.2.2.2.2.2.2.2.2.2.2.2.2.2.2.2.2.2.2.2.2.2.2.2.2.2.2.2.1
theorem dL_isGreat_13 : decode cL_isGreat 13 = .ok (.lconst 0, 1) := dgL_7.2.2.2.2.2.2.2.2.2.2.2.2.2.2.2.2.2.2.2.2.2.2.2.2.2.2.2.2.2.2.2.2.2.2.2.1
theorem dL_isGreat_14 : decode cL_isGreat 14 = .ok (.putfield 13, 3) := dgL_7.2.2.2.2.2.2.2.2.2.2.2.2.2.2.2.2.2.2.2.2.2.2.2.2.2.2.2.2.2.2.2.2.2.2.2.2.1
theorem dL_isGreat_17 : decode cL_isGreat 17 = .ok (.goto 6, 3) := dgL_7.2.2.2.2.2.2.2.2.2.2.2.2.2.2.2.2.2.2.2.2.2.2.2.2.2.2.2.2.2.2.2.2.2.2.2.2.2.1
theorem dL_isGreat_20 : decode cL_isGreat 20 = .ok (.astore_n 3, 1) := dgL_7.2.2.2.2.2.2.2.2.2.2.2.2.2.2.2.2.2.2.2.2.2.2.2.2.2.2.2.2.2.2.2.2.2.2.2.2.2.2.1
theorem dL_isGreat_21 : decode cL_isGreat 21 = .ok (.iconst 1, 1) := dgL_7.2.2.2.2.2.2.2.2.2.2.2.2.2.2.2.2.2.2.2.2.2.2.2.2.2.2.2.2.2.2.2.2.2.2.2.2.2.2.2
theorem dgL_8 : (decode cL_isGreat 22 = .ok (.ireturn, 1)) ∧ (decode cL_isGreat 23 = .ok (.iconst 0, 1)) ∧ (decode cL_isGreat 24 = .ok (.ireturn, 1)) ∧ (decode cL_kinds 0 = .ok (.aload_n 2, 1)) ∧ (decode cL_kinds 1 = .ok (.aload_n 0, 1)) ∧ (decode cL_kinds 2 = .ok (.iload_n 1, 1)) ∧ (decode cL_kinds 3 = .ok (.invokevirtual 94, 3)) ∧ (decode cL_kinds 6 = .ok (.i2l, 1)) ∧ (decode cL_kinds 7 = .ok (.putfield 13, 3)) ∧ (decode cL_kinds 10 = .ok (.goto 6, 3)) ∧ (decode cL_kinds 13 = .ok (.astore_n 3, 1)) ∧ (decode cL_kinds 14 = .ok (.iconst 1, 1)) ∧ (decode cL_kinds 15 = .ok (.ireturn, 1)) ∧ (decode cL_kinds 16 = .ok (.iconst 0, 1)) ∧ (decode cL_kinds 17 = .ok (.ireturn, 1)) ∧ (decode cL_upper 0 = .ok (.aload_n 3, 1)) ∧ (decode cL_upper 1 = .ok (.aload_n 0, 1)) ∧ (decode cL_upper 2 = .ok (.iload_n 1, 1)) ∧ (decode cL_upper 3 = .ok (.iload_n 2, 1)) ∧ (decode cL_upper 4 = .ok (.invokevirtual 97, 3)) ∧ (decode cL_upper 7 = .ok (.i2l, 1)) ∧ (decode cL_upper 8 = .ok (.putfield 13, 3)) ∧ (decode cL_upper 11 = .ok (.goto 7, 3)) ∧ (decode cL_upper 14 = .ok (.astore 4, 2)) ∧ (decode cL_upper 16 = .ok (.iconst 1, 1)) ∧ (decode cL_upper 17 = .ok (.ireturn, 1)) ∧ (decode cL_upper 18 = .ok (.iconst 0, 1)) ∧ (decode cL_upper 19 = .ok (.ireturn, 1)) ∧ (decode cL_lower 0 = .ok (.aload_n 3, 1)) ∧ (decode cL_lower 1 = .ok (.aload_n 0, 1)) ∧ (decode cL_lower 2 = .ok (.iload_n 1, 1)) ∧ (decode cL_lower 3 = .ok (.iload_n 2, 1)) ∧ (decode cL_lower 4 = .ok (.invokevirtual 101, 3)) ∧ (decode cL_lower 7 = .ok (.i2l, 1)) ∧ (decode cL_lower 8 = .ok (.putfield 13, 3)) ∧ (decode cL_lower 11 = .ok (.goto 7, 3)) ∧ (decode cL_lower 14 = .ok (.astore 4, 2)) ∧ (decode cL_lower 16 = .ok (.iconst 1, 1)) ∧ (decode cL_lower 17 = .ok (.ireturn, 1)) ∧ (decode cL_lower 18 = .ok (.iconst 0, 1)) := by decide +kernel
theorem dL_isGreat_22 : decode cL_isGreat 22 = .ok (.ireturn, 1) := dgL_8.1
theorem dL_isGreat_23 : decode cL_isGreat 23 = .ok (.iconst 0, 1) := dgL_8.2.1
theorem dL_isGreat_24 : decode cL_isGreat 24 = .ok (.ireturn, 1) := dgL_8.2.2.1
theorem dL_kinds_0 : decode cL_kinds 0 = .ok (.aload_n 2, 1) := dgL_8.2.2.2.1
theorem dL_kinds_1 : decode cL_kinds 1 = .ok (.aload_n 0, 1) := dgL_8.2.2.2.2.1
theorem dL_kinds_2 : decode cL_kinds 2 = .ok (.iload_n 1, 1) := dgL_8.2.2.2.2.2.1
theorem dL_kinds_3 : decode cL_kinds 3 = .ok (.invokevirtual 94, 3) := dgL_8.2.2.2.2.2.2.1
theorem dL_kinds_6 : decode cL_kinds 6 = .ok (.i2l, 1) := dgL_8.2.2.2.2.2.2.2.1
theorem dL_kinds_7 : decode cL_kinds 7 = .ok (.putfield 13, 3) := dgL_8.2.2.2.2.2.2.2.2.1
theorem dL_kinds_10 : decode cL_kinds 10 = .ok (.goto 6, 3) := dgL_8.2.2.2.2.2.2.2.2.2.1
theorem dL_kinds_13 : decode cL_kinds 13 = .ok (.astore_n 3, 1) := dgL_8.2.2.2.2.2.2.2.2.2.2.1
theorem dL_kinds_14 : decode cL_kinds 14 = .ok (.iconst 1, 1) := dgL_8.2.2.2.2.2.2.2.2.2.2.2.1
theorem dL_kinds_15 : decode cL_kinds 15 = .ok (.ireturn, 1) := dgL_8.2.2.2.2.2.2.2.2.2.2.2.2.1
theorem dL_kinds_16 : decode cL_kinds 16 = .ok (.iconst 0, 1) := dgL_8.2.2.2.2.2.2.2.2.2.2.2.2.2.1
theorem dL_kinds_17 : decode cL_kinds 17 = .ok (.ireturn, 1) := dgL_8.2.2.2.2.2.2.2.2.2.2.2.2.2.2.1
theorem dL_upper_0 : decode cL_upper 0 = .ok (.aload_n 3, 1) := dgL_8.2.2.2.2.2.2.2.2.2.2.2.2.2.2.2.1
theorem dL_upper_1 : decode cL_upper 1 = .ok (.aload_n 0, 1) := dgL_8.2.2.2.2.2.2.2.2.2.2.2.2.2.2.2.2.1
theorem dL_upper_2 : decode cL_upper 2 = .ok (.iload_n 1, 1) := dgL_8.2.2.2.2.2.2.2.2.2.2.2.2.2.2.2.2.2.1
theorem dL_upper_3 : decode cL_upper 3 = .ok (.iload_n 2, 1) := dgL_8.2.2.2.2.2.2.2.2.2.2.2.2.2.2.2.2.2.2.1
theorem dL_upper_4 : decode cL_upper 4 = .ok (.invokevirtual 97, 3) := dgL_8.2.2.2.2.2.2.2.2.2.2.2.2.2.2.2.2.2.2.2.1
theorem dL_upper_7 : decode cL_upper 7 = .ok (.i2l, 1) := dgL_8.2.2.2.2.2.2.2.2.2.2.2.2.2.2.2.2.2.2.2.2.1
theorem dL_upper_8 : decode cL_upper 8 = .ok (.putfield 13, 3) := dgL_8.2.2.2.2.2.2.2.2.2.2.2.2.2.2.2.2.2.2.2.2.2.1
theorem dL_upper_11 : decode cL_upper 11 = .ok (.goto 7, 3) := dgL_8.2.2.2.2.2.2.2.2.2.2.2.2.2.2.2.2.2.2.2.2.2.2.1
theorem dL_upper_14 : decode cL_upper 14 = .ok (.astore 4, 2) := dgL_8.2.2.2.2.2.2.2.2.2.2.2.2.2.2.2.2.2.2.2.2.2.2.2.1
theorem dL_upper_16 : decode cL_upper 16 = .ok (.iconst 1, 1) := dgL_8.2.2.2.2.2.2.2.2.2.2.2.2.2.2.2.2.2.2.2.2.2.2.2.2.1
theorem dL_upper_17 : decode cL_upper 17 = .ok (.ireturn, 1) := dgL_8.2.2.2.2.2.2.2.2.2.2.2.2.2.2.2.2.2.2.2.2.2.2.2.2.2.1
theorem dL_upper_18 : decode cL_upper 18 = .ok (.iconst 0, 1) := dgL_8.2.2.2.2.2.2.2.2.2.2.2.2.2.2.2.2.2.2.2.2.2.2.2.2.2.2.1
theorem dL_upper_19 : decode cL_upper 19 = .ok (.ireturn, 1) := dgL_8.2.2.2.2.2.2.2.2.2.2.2.2.2.2.2.2.2.2.2.2.2.2.2.2.2.2.2.1
theorem dL_lower_0 : decode cL_lower 0 = .ok (.aload_n 3, 1) := dgL_8.2.2.2.2.2.2.2.2.2.2.2.2.2.2.2.2.2.2.2.2.2.2.2.2.2.2.2.2.1
theorem dL_lower_1 : decode cL_lower 1 = .ok (.aload_n 0, 1) := dgL_8.2.2.2.2.2.2.2.2.2.2.2.2.2.2.2.2.2.2.2.2.2.2.2.2.2.2.2.2.2.1
theorem dL_lower_2 : decode cL_lower 2 = .ok (.iload_n 1, 1) := dgL_8.2.2.2.2.2.2.2.2.2.2.2.2.2.2.2.2.2.2.2.2.2.2.2.2.2.2.2.2.2.2.1
theorem dL_lower_3 : decode cL_lower 3 = .ok (.iload_n 2, 1) := dgL_8.2.2.2.2.2.2.2.2.2.2.2.2.2.2.2.2.2.2.2.2.2.2.2.2.2.2.2.2.2.2.2.1
theorem dL_lower_4 : decode cL_lower 4 = .ok (.invokevirtual 101, 3) := dgL_8.2.2.2.2.2.2.2.2.2.2.2.2.2.2.2.2.2.2.2.2.2.2.2.2.2.2.2.2.2.2.2.2.1
theorem dL_lower_7 : decode cL_lower 7 = .ok (.i2l, 1) := dgL_8.2.2.2.2.2.2.2.2.2.2.2.2.2.2.2.2.2.2.2.2.2.2.2.2.2.2.2.2.2.2.2.2.2.1
theorem dL_lower_8 : decode cL_lower 8 = .ok (.putfield 13, 3) := dgL_8.2.2.2.2.2.2.2.2.2.2.2.2.2.2.2.2.2.2.2.2.2.2.2.2.2.2.2.2.2.2.2.2.2.2.1
theorem dL_lower_11 : decode cL_lower 11 = .ok (.goto 7, 3) := dgL_8.2.2.2.2.2.2.2.2.2.2.2.2.2.2.2.2.2.2.2.2.2.2.2.2.2.2.2.2.2.2.2.2.2.2.2.1
theorem dL_lower_14 : decode cL_lower 14 = .ok (.astore 4, 2) := dgL_8.2.2.2.2.2.2.2.2.2.2.2.2.2.2.2.2.2.2.2.2.2.2.2.2.2.2.2.2.2.2.2.2.2.2.2.2.1
theorem dL_lower_16 : decode cL_lower 16 = .ok (.iconst 1, 1) := dgL_8.2.2.2.2.2.2.2.2.2.2.2.2.2.2.2.2.2.2.2.2.2.2.2.2.2.2.2.2.2.2.2.2.2.2.2.2.2.1
theorem dL_lower_17 : decode cL_lower 17 = .ok (.ireturn, 1) := dgL_8.2.2.2.2.2.2.2.2.2.2.2.2.2.2.2.2.2.2.2.2.2.2.2.2.2.2.2.2.2.2.2.2.2.2.2.2.2.2.1
theorem dL_lower_18 : decode cL_lower 18 = .ok (.iconst 0, 1) := dgL_8.2.2.2.2.2.2.2.2.2.2.2.2.2.2.2.2.2.2.2.2.2.2.2.2.2.2.2.2.2.2.2.2.2.2.2.2.2.2.2
theorem dgL_9 : (decode cL_lower 19 = .ok (.ireturn, 1)) ∧ (decode cL_value 0 = .ok (.aload_n 3, 1)) ∧ (decode cL_value 1 = .ok (.aload_n 0, 1)) ∧ (decode cL_value 2 = .ok (.iload_n 1, 1)) ∧ (decode cL_value 3 = .ok (.iload_n 2, 1)) ∧ (decode cL_value 4 = .ok (.invokevirtual 104, 3)) ∧ (decode cL_value 7 = .ok (.i2l, 1)) ∧ (decode cL_value 8 = .ok (.putfield 13, 3)) ∧ (decode cL_value 11 = .ok (.goto 7, 3)) ∧ (decode cL_value 14 = .ok (.astore 4, 2)) ∧ (decode cL_value 16 = .ok (.iconst 1, 1)) ∧ (decode cL_value 17 = .ok (.ireturn, 1)) ∧ (decode cL_value 18 = .ok (.iconst 0, 1)) ∧ (decode cL_value 19 = .ok (.ireturn, 1)) ∧ (decode cL_number 0 = .ok (.aload 4, 2)) ∧ (decode cL_number 2 = .ok (.aload_n 0, 1)) ∧ (decode cL_number 3 = .ok (.iload_n 1, 1)) ∧ (decode cL_number 4 = .ok (.iload_n 2, 1)) ∧ (decode cL_number 5 = .ok (.iload_n 3, 1)) ∧ (decode cL_number 6 = .ok (.invokevirtual 107, 3)) ∧ (decode cL_number 9 = .ok (.i2l, 1)) ∧ (decode cL_number 10 = .ok (.putfield 13, 3)) ∧ (decode cL_number 13 = .ok (.goto 7, 3)) ∧ (decode cL_number 16 = .ok (.astore 5, 2)) ∧ (decode cL_number 18 = .ok (.iconst 1, 1)) ∧ (decode cL_number 19 = .ok (.ireturn, 1)) ∧ (decode cL_number 20 = .ok (.iconst 0, 1)) ∧ (decode cL_number 21 = .ok (.ireturn, 1)) ∧ (decode cL_length 0 = .ok (.aload_n 2, 1)) ∧ (decode cL_length 1 = .ok (.aload_n 0, 1)) ∧ (decode cL_length 2 = .ok (.iload_n 1, 1)) ∧ (decode cL_length 3 = .ok (.invokevirtual 110, 3)) ∧ (decode cL_length 6 = .ok (.i2l, 1)) ∧ (decode cL_length 7 = .ok (.putfield 13, 3)) ∧ (decode cL_length 10 = .ok (.goto 6, 3)) ∧ (decode cL_length 13 = .ok (.astore_n 3, 1)) ∧ (decode cL_length 14 = .ok (.iconst 1, 1)) ∧ (decode cL_length 15 = .ok (.ireturn, 1)) ∧ (decode cL_length 16 = .ok (.iconst 0, 1)) ∧ (decode cL_length 17 = .ok (.ireturn, 1)) := by decide +kernel
theorem dL_lower_19 : decode cL_lower 19 = .ok (.ireturn, 1) := dgL_9.1
theorem dL_value_0 : decode cL_value 0 = .ok (.aload_n 3, 1) := dgL_9.2.1
theorem dL_value_1 : decode cL_value 1 = .ok (.aload_n 0, 1) := dgL_9.2.2.1
theorem dL_value_2 : decode cL_value 2 = .ok (.iload_n 1, 1) := dgL_9.2.2.2.1
theorem dL_value_3 : decode cL_value 3 = .ok (.iload_n 2, 1) := dgL_9.2.2.2.2.1
theorem dL_value_4 : decode cL_value 4 = .ok (.invokevirtual 104, 3) := dgL_9.2.2.2.2.2.1
theorem dL_value_7 : decode cL_value 7 = .ok (.i2l, 1) := dgL_9.2.2.2.2.2.2.1
theorem dL_value_8 : decode cL_value 8 = .ok (.putfield 13, 3) := dgL_9.2.2.2.2.2.2.2.1
theorem dL_value_11 : decode cL_value 11 = .ok (.goto 7, 3) := dgL_9.2.2.2.2.2.2.2.2.1
theorem dL_value_14 : decode cL_value 14 = .ok (.astore 4, 2) := dgL_9.2.2.2.2.2.2.2.2.2.1
theorem dL_value_16 : decode cL_value 16 = .ok (.iconst 1, 1) := dgL_9.2.2.2.2.2.2.2.2.2.2.1
theorem dL_value_17 : decode cL_value 17 = .ok (.ireturn, 1) := dgL_9.2.2.2.2.2.2.2.2.2.2.2.1
theorem dL_value_18 : decode cL_value 18 = .ok (.iconst 0, 1) := dgL_9.2.2.2.2.2.2.2.2.2.2.2.2.1
theorem dL_value_19 : decode cL_value 19 = .ok (.ireturn, 1) := dgL_9.2.2.2.2.2.2.2.2.2.2.2.2.2.1
theorem dL_number_0 : decode cL_number 0 = .ok (.aload 4, 2) := dgL_9.2.2.2.2.2.2.2.2.2.2.2.2.2.2.1
theorem dL_number_2 : decode cL_number 2 = .ok (.aload_n 0, 1) := dgL_9.2.2.2.2.2.2.2.2.2.2.2.2.2.2.2.1
theorem dL_number_3 : decode cL_number 3 = .ok (.iload_n 1, 1) := dgL_9.2.2.2.2.2.2.2.2.2.2.2.2.2.2.2.2.1
theorem dL_number_4 : decode cL_number 4 = .ok (.iload_n 2, 1) := dgL_9.2.2.2.2.2.2.2.2.2.2.2.2.2.2.2.2.2.1
theorem dL_number_5 : decode cL_number 5 = .ok (.iload_n 3, 1) := dgL_9.2.2.2.2.2.2.2.2.2.2.2.2.2.2.2.2.2.2.1
theorem dL_number_6 : decode cL_number 6 = .ok (.invokevirtual 107, 3) := dgL_9.2.2.2.2.2.2.2.2.2.2.2.2.2.2.2.2.2.2.2.1
theorem dL_number_9 : decode cL_number 9 = .ok (.i2l, 1) := dgL_9.2.2.2.2.2.2.2.2.2.2.2.2.2.2.2.2.2.2.2.2.1
theorem dL_number_10 : decode cL_number 10 = .ok (.putfield 13, 3) := dgL_9.2.2.2.2.2.2.2.2.2.2.2.2.2.2.2.2.2.2.2.2.2.1
theorem dL_number_13 : decode cL_number 13 = .ok (.goto 7, 3) := dgL_9.2.2.2.2.2.2.2.2.2.2.2.2.2.2.2.2.2.2.2.2.2.2.1
theorem dL_number_16 : decode cL_number 16 = .ok (.astore 5, 2) := dgL_9.2.2.2.2.2.2.2.2.2.2.2.2.2.2.2.2.2.2.2.2.2.2.2.1
theorem dL_number_18 : decode cL_number 18 = .ok (.iconst 1, 1) := dgL_9.2.2.2.2.2.2.2.2.2.2.2.2.2.2.2.2.2.2.2.2.2.2.2.2.1
theorem dL_number_19 : decode cL_number 19 = .ok (.ireturn, 1) := dgL_9.2.2.2.2.2.2.2.2.2.2.2.2.2.2.2.2.2.2.2.2.2.2.2.2.2.1
theorem dL_number_20 : decode cL_number 20 = .ok (.iconst 0, 1) := dgL_9.2.2.2.2.2.2.2.2.2.2.2.2.2.2.2.2.2.2.2.2.2.2.2.2.2.2.1
theorem dL_number_21 : decode cL_number 21 = .ok (.ireturn, 1) := dgL_9.2.2.2.2.2.2.2.2.2.2.2.2.2.2.2.2.2.2.2.2.2.2.2.2.2.2.2.1
theorem dL_length_0 : decode cL_length 0 = .ok (.aload_n 2, 1) := dgL_9.2.2.2.2.2.2.2.2.2.2.2.2.2.2.2.2.2.2.2.2.2.2.2.2.2.2.2.2.1
theorem dL_length_1 : decode cL_length 1 = .ok (.aload_n 0, 1) := dgL_9.2.2.2.2.2.2.2.2.2.2.2.2.2.2.2.2.2.2.2.2.2.2.2.2.2.2.2.2.2.1
theorem dL_length_2 : decode cL_length 2 = .ok (.iload_n 1, 1) := dgL_9.2.2.2.2.2.2.2.2.2.2.2.2.2.2.2.2.2.2.2.2.2.2.2.2.2.2.2.2.2.2.1
theorem dL_length_3 : decode cL_length 3 = .ok (.invokevirtual 110, 3) := dgL_9.2.2.2.2.2.2.2.2.2.2.2.2.2.2.2.2.2.2.2.2.2.2.2.2.2.2.2.2.2.2.2.1
theorem dL_length_6 : decode cL_length 6 = .ok (.i2l, 1) := dgL_9.2.2.2.2.2.2.2.2.2.2.2.2.2.2.2.2.2.2.2.2.2.2.2.2.2.2.2.2.2.2.2.2.1
theorem dL_length_7 : decode cL_length 7 = .ok (.putfield 13, 3) := dgL_9.2.2.2.2.2.2.2.2.2.2.2.2.2.2.2.2.2.2.2.2.2.2.2.2.2.2.2.2.2.2.2.2.2.1
theorem dL_length_10 : decode cL_length 10 = .ok (.goto 6, 3) := dgL_9.2.2.2.2.2.2.2.2.2.2.2.2.2.2.2.2.2.2.2.2.2.2.2.2.2.2.2.2.2.2.2.2.2.2.1
theorem dL_length_13 : decode cL_length 13 = .ok (.astore_n 3, 1) := dgL_9.2.2.2.2.2.2.2.2.2.2.2.2.2.2.2.2.2.2.2.2.2.2.2.2.2.2.2.2.2.2.2.2.2.2.2.1
theorem dL_length_14 : decode cL_length 14 = .ok (.iconst 1, 1) := dgL_9.2.2.2.2.2.2.2.2.2.2.2.2.2.2.2.2.2.2.2.2.2.2.2.2.2.2.2.2.2.2.2.2.2.2.2.2.1
theorem dL_length_15 : decode cL_length 15 = .ok (.ireturn, 1) := dgL_9.2.2.2.2.2.2.2.2.2.2.2.2.2.2.2.2.2.2.2.2.2.2.2.2.2.2.2.2.2.2.2.2.2.2.2.2.2.1
theorem dL_length_16 : decode cL_length 16 = .ok (.iconst 0, 1) := dgL_9.2.2.2.2.2.2.2.2.2.2.2.2.2.2.2.2.2.2.2.2.2.2.2.2.2.2.2.2.2.2.2.2.2.2.2.2.2.2.1
theorem dL_length_17 : decode cL_length 17 = .ok (.ireturn, 1) := dgL_9.2.2.2.2.2.2.2.2.2.2.2.2.2.2.2.2.2.2.2.2.2.2.2.2.2.2.2.2.2.2.2.2.2.2.2.2.2.2.2
theorem dgL_10 : (decode cL_at 0 = .ok (.aload_n 3, 1)) ∧ (decode cL_at 1 = .ok (.aload_n 0, 1)) ∧ (decode cL_at 2 = .ok (.iload_n 1, 1)) ∧ (decode cL_at 3 = .ok (.iload_n 2, 1)) ∧ (decode cL_at 4 = .ok (.invokevirtual 113, 3)) ∧ (decode cL_at 7 = .ok (.i2l, 1)) ∧ (decode cL_at 8 = .ok (.putfield 13, 3)) ∧ (decode cL_at 11 = .ok (.goto 7, 3)) ∧ (decode cL_at 14 = .ok (.astore 4, 2)) ∧ (decode cL_at 16 = .ok (.iconst 1, 1)) ∧ (decode cL_at 17 = .ok (.ireturn, 1)) ∧ (decode cL_at 18 = .ok (.iconst 0, 1)) ∧ (decode cL_at 19 = .ok (.ireturn, 1)) ∧ (decode cL_count 0 = .ok (.aload_n 3, 1)) ∧ (decode cL_count 1 = .ok (.aload_n 0, 1)) ∧ (decode cL_count 2 = .ok (.iload_n 1, 1)) ∧ (decode cL_count 3 = .ok (.iload_n 2, 1)) ∧ (decode cL_count 4 = .ok (.invokevirtual 116, 3)) ∧ (decode cL_count 7 = .ok (.i2l, 1)) ∧ (decode cL_count 8 = .ok (.putfield 13, 3)) ∧ (decode cL_count 11 = .ok (.goto 11, 3)) ∧ (decode cL_count 14 = .ok (.astore 4, 2)) ∧ (decode cL_count 16 = .ok (.iconst 1, 1)) ∧ (decode cL_count 17 = .ok (.ireturn, 1)) ∧ (decode cL_count 18 = .ok (.astore 4, 2)) ∧ (decode cL_count 20 = .ok (.iconst 2, 1)) ∧ (decode cL_count 21 = .ok (.ireturn, 1)) ∧ (decode cL_count 22 = .ok (.iconst 0, 1)) ∧ (decode cL_count 23 = .ok (.ireturn, 1)) ∧ (decode cL_first 0 = .ok (.aload 4, 2)) ∧ (decode cL_first 2 = .ok (.aload_n 0, 1)) ∧ (decode cL_first 3 = .ok (.iload_n 1, 1)) ∧ (decode cL_first 4 = .ok (.iload_n 2, 1)) ∧ (decode cL_first 5 = .ok (.iload_n 3, 1)) ∧ (decode cL_first 6 = .ok (.invokevirtual 119, 3)) ∧ (decode cL_first 9 = .ok (.i2l, 1)) ∧ (decode cL_first 10 = .ok (.putfield 13, 3)) ∧ (decode cL_first 13 = .ok (.goto 11, 3)) ∧ (decode cL_first 16 = .ok (.astore 5, 2)) ∧ (decode cL_first 18 = .ok (.iconst 1, 1)) := by decide +kernel
theorem dL_at_0 : decode cL_at 0 = .ok (.aload_n 3, 1) := dgL_10.1
theorem dL_at_1 : decode cL_at 1 = .ok (.aload_n 0, 1) := dgL_10.2.1
theorem dL_at_2 : decode cL_at 2 = .ok (.iload_n 1, 1) := dgL_10.2.2.1
theorem dL_at_3 : decode cL_at 3 = .ok (.iload_n 2, 1) := dgL_10.2.2.2.1
theorem dL_at_4 : decode cL_at 4 = .ok (.invokevirtual 113, 3) := dgL_10.2.2.2.2.1
theorem dL_at_7 : decode cL_at 7 = .ok (.i2l, 1) := dgL_10.2.2.2.2.2.1
theorem dL_at_8 : decode cL_at 8 = .ok (.putfield 13, 3) := dgL_10.2.2.2.2.2.2.1
theorem dL_at_11 : decode cL_at 11 = .ok (.goto 7, 3) := dgL_10.2.2.2.2.2.2.2.1
theorem dL_at_14 : decode cL_at 14 = .ok (.astore 4, 2) := dgL_10.2.2.2.2.2.2.2.2.1
theorem dL_at_16 : decode cL_at 16 = .ok (.iconst 1, 1) := dgL_10.2.2.2.2.2.2.2.2.2.1
theorem dL_at_17 : decode cL_at 17 = .ok (.ireturn, 1) := dgL_10.2.2.2.2.2.2.2.2.2.2.1
theorem dL_at_18 : decode cL_at 18 = .ok (.iconst 0, 1) := dgL_10.2.2.2.2.2.2.2.2.2.2.2.1
theorem dL_at_19 : decode cL_at 19 = .ok (.ireturn, 1) := dgL_10.2.2.2.2.2.2.2.2.2.2.2.2.1
theorem dL_count_0 : decode cL_count 0 = .ok (.aload_n 3, 1) := dgL_10.2.2.2.2.2.2.2.2.2.2.2.2.2.1
theorem dL_count_1 : decode cL_count 1 = .ok (.aload_n 0, 1) := dgL_10.2.2.2.2.2.2.2.2.2.2.2.2.2.2.1
theorem dL_count_2 : decode cL_count 2 = .ok (.iload_n 1, 1) := dgL_10.2.2.2.2.2.2.2.2.2.2.2.2.2.2.2.1
theorem dL_count_3 : decode cL_count 3 = .ok (.iload_n 2, 1) := dgL_10.2.2.2.2.2.2.2.2.2.2.2.2.2.2.2.2.1
theorem dL_count_4 : decode cL_count 4 = .ok (.invokevirtual 116, 3) := dgL_10.2.2.2.2.2.2.2.2.2.2.2.2.2.2.2.2.2.1
theorem dL_count_7 : decode cL_count 7 = .ok (.i2l, 1) := dgL_10.2.2.2.2.2.2.2.2.2.2.2.2.2.2.2.2.2.2.1
theorem dL_count_8 : decode cL_count 8 = .ok (.putfield 13, 3) := dgL_10.2.2.2.2.2.2.2.2.2.2.2.2.2.2.2.2.2.2.2.1
theorem dL_count_11 : decode cL_count 11 = .ok (.goto 11, 3) := dgL_10.2.2.2.2.2.2.2.2.2.2.2.2.2.2.2.2.2.2.2.2.1
theorem dL_count_14 : decode cL_count 14 = .ok (.astore 4, 2) := dgL_10.2.2.2.2.2.2.2.2.2.2.2.2.2.2.2.2.2.2.2.2.2.1
theorem dL_count_16 : decode cL_count 16 = .ok (.iconst 1, 1) := dgL_10.2.2.2.2.2.2.2.2.2.2.2.2.2.2.2.2.2.2.2.2.2.2.1
theorem dL_count_17 : decode cL_count 17 = .ok (.ireturn, 1) := dgL_10.2.2.2.2.2.2.2.2.2.2.2.2.2.2.2.2.2.2.2.2.2.2.2.1
theorem dL_count_18 : decode cL_count 18 = .ok (.astore 4, 2) := dgL_10.2.2.2.2.2.2.2.2.2.2.2.2.2.2.2.2.2.2.2.2.2.2.2.2.1
theorem dL_count_20 : decode cL_count 20 = .ok (.iconst 2, 1) := dgL_10.2.2.2.2.2.2.2.2.2.2.2.2.2.2.2.2.2.2.2.2.2.2.2.2.2.1
theorem dL_count_21 : decode cL_count 21 = .ok (.ireturn, 1) := dgL_10.2.2.2.2.2.2.2.2.2.2.2.2.2.2.2.2.2.2.2.2.2.2.2.2.2.2.1
theorem dL_count_22 : decode cL_count 22 = .ok (.iconst 0, 1) := dgL_10.2.2.2.2.2.2.2.2.2.2.2.2.2.2.2.2.2.2.2.2.2.2.2.2.2.2.2.1
theorem dL_count_23 : decode cL_count 23 = .ok (.ireturn, 1) := dgL_10.2.2.2.2.2.2.2.2.2.2.2.2.2.2.2.2.2.2.2.2.2.2.2.2.2.2.2.2.1
theorem dL_first_0 : decode cL_first 0 = .ok (.aload 4, 2) := dgL_10.2.2.2.2.2.2.2.2.2.2.2.2.2.2.2.2.2.2.2.2.2.2.2.2.2.2.2.2.2.1
theorem dL_first_2 : decode cL_first 2 = .ok (.aload_n 0, 1) := dgL_10.2.2.2.2.2.2.2.2.2.2.2.2.2.2.2.2.2.2.2.2.2.2.2.2.2.2.2.2.2.2.1
theorem dL_first_3 : decode cL_first 3 = .ok (.iload_n 1, 1) := dgL_10.2.2.2.2.2.2.2.2.2.2.2.2.2.2.2.2.2.2.2.2.2.2.2.2.2.2.2.2.2.2.2.1
theorem dL_first_4 : decode cL_first 4 = .ok (.iload_n 2, 1) := dgL_10.2.2.2.2.2.2.2.2.2.2.2.2.2.2.2.2.2.2.2.2.2.2.2.2.2.2.2.2.2.2.2.2.1
theorem dL_first_5 : decode cL_first 5 = .ok (.iload_n 3, 1) := dgL_10.2.2.2.2.2.2.2.2.2.2.2.2.2.2.2.2.2.2.2.2.2.2.2.2.2.2.2.2.2.2.2.2.2.1
theorem dL_first_6 : decode cL_first 6 = .ok (.invokevirtual 119, 3) := dgL_10.2.2.2.2.2.2.2.2.2.2.2.2.2.2.2.2.2.2.2.2.2.2.2.2.2.2.2.2.2.2.2.2.2.2.1
theorem dL_first_9 : decode cL_first 9 = .ok (.i2l, 1) := dgL_10.2.2.2.2.2.2.2.2.2.2.2.2.2.2.2.2.2.2.2.2.2.2.2.2.2.2.2.2.2.2.2.2.2.2.2.1
theorem dL_first_10 : decode cL_first 10 = .ok (.putfield 13, 3) := dgL_10.2.2.2.2.2.2.2.2.2.2.2.2.2.2.2.2.2.2.2.2.2.2.2.2.2.2.2.2.2.2.2.2.2.2.2.2.1
theorem dL_first_13 : decode cL_first 13 = .ok (.goto 11, 3) := dgL_10.2.2.2.2.2.2.2.2.2.2.2.2.2.2.2.2.2.2.2.2.2.2.2.2.2.2.2.2.2.2.2.2.2.2.2.2.2.1
theorem dL_first_16 : decode cL_first 16 = .ok (.astore 5, 2) := dgL_10.2.2.2.2.2.2.2.2.2.2.2.2.2.2.2.2.2.2.2.2.2.2.2.2.2.2.2.2.2.2.2.2.2.2.2.2.2.2.1
theorem dL_first_18 : decode cL_first 18 = .ok (.iconst 1, 1) := dgL_10.2.2.2.2.2.2.2.2.2.2.2.2.2.2.2.2.2.2.2.2.2.2.2.2.2.2.2.2.2.2.2.2.2.2.2.2.2.2.2
theorem dgL_11 : (decode cL_first 19 = .ok (.ireturn, 1)) ∧ (decode cL_first 20 = .ok (.astore 5, 2)) ∧ (decode cL_first 22 = .ok (.iconst 2, 1)) ∧ (decode cL_first 23 = .ok (.ireturn, 1)) ∧ (decode cL_first 24 = .ok (.iconst 0, 1)) ∧ (decode cL_first 25 = .ok (.ireturn, 1)) ∧ (decode cL_last 0 = .ok (.aload_n 3, 1)) ∧ (decode cL_last 1 = .ok (.aload_n 0, 1)) ∧ (decode cL_last 2 = .ok (.iload_n 1, 1)) ∧ (decode cL_last 3 = .ok (.iload_n 2, 1)) ∧ (decode cL_last 4 = .ok (.invokevirtual 122, 3)) ∧ (decode cL_last 7 = .ok (.i2l, 1)) ∧ (decode cL_last 8 = .ok (.putfield 13, 3)) ∧ (decode cL_last 11 = .ok (.goto 11, 3)) ∧ (decode cL_last 14 = .ok (.astore 4, 2)) ∧ (decode cL_last 16 = .ok (.iconst 1, 1)) ∧ (decode cL_last 17 = .ok (.ireturn, 1)) ∧ (decode cL_last 18 = .ok (.astore 4, 2)) ∧ (decode cL_last 20 = .ok (.iconst 2, 1)) ∧ (decode cL_last 21 = .ok (.ireturn, 1)) ∧ (decode cL_last 22 = .ok (.iconst 0, 1)) ∧ (decode cL_last 23 = .ok (.ireturn, 1)) ∧ (decode cL_forms 0 = .ok (.aload_n 2, 1)) ∧ (decode cL_forms 1 = .ok (.aload_n 0, 1)) ∧ (decode cL_forms 2 = .ok (.iload_n 1, 1)) ∧ (decode cL_forms 3 = .ok (.invokevirtual 125, 3)) ∧ (decode cL_forms 6 = .ok (.putfield 129, 3)) ∧ (decode cL_forms 9 = .ok (.goto 6, 3)) ∧ (decode cL_forms 12 = .ok (.astore_n 3, 1)) ∧ (decode cL_forms 13 = .ok (.iconst 1, 1)) ∧ (decode cL_forms 14 = .ok (.ireturn, 1)) ∧ (decode cL_forms 15 = .ok (.iconst 0, 1)) ∧ (decode cL_forms 16 = .ok (.ireturn, 1)) ∧ (decode cL_spelled 0 = .ok (.aload_n 2, 1)) ∧ (decode cL_spelled 1 = .ok (.aload_n 0, 1)) ∧ (decode cL_spelled 2 = .ok (.iload_n 1, 1)) ∧ (decode cL_spelled 3 = .ok (.invokevirtual 133, 3)) ∧ (decode cL_spelled 6 = .ok (.putfield 129, 3)) ∧ (decode cL_spelled 9 = .ok (.goto 6, 3)) ∧ (decode cL_spelled 12 = .ok (.astore_n 3, 1)) := by decide +kernel
theorem dL_first_19 : decode cL_first 19 = .ok (.ireturn, 1) := dgL_11.1
theorem dL_first_20 : decode cL_first 20 = .ok (.astore 5, 2) := dgL_11.2.1
theorem dL_first_22 : decode cL_first 22 = .ok (.iconst 2, 1) := dgL_11.2.2.1
theorem dL_first_23 : decode cL_first 23 = .ok (.ireturn, 1) := dgL_11.2.2.2.1
theorem dL_first_24 : decode cL_first 24 = .ok (.iconst 0, 1) := dgL_11.2.2.2.2.1
theorem dL_first_25 : decode cL_first 25 = .ok (.ireturn, 1) := dgL_11.2.2.2.2.2.1
theorem dL_last_0 : decode cL_last 0 = .ok (.aload_n 3, 1) := dgL_11.2.2.2.2.2.2.1
theorem dL_last_1 : decode cL_last 1 = .ok (.aload_n 0, 1) := dgL_11.2.2.2.2.2.2.2.1
theorem dL_last_2 : decode cL_last 2 = .ok (.iload_n 1, 1) := dgL_11.2.2.2.2.2.2.2.2.1
theorem dL_last_3 : decode cL_last 3 = .ok (.iload_n 2, 1) := dgL_11.2.2.2.2.2.2.2.2.2.1
theorem dL_last_4 : decode cL_last 4 = .ok (.invokevirtual 122, 3) := dgL_11.2.2.2.2.2.2.2.2.2.2.1
theorem dL_last_7 : decode cL_last 7 = .ok (.i2l, 1) := dgL_11.2.2.2.2.2.2.2.2.2.2.2.1
theorem dL_last_8 : decode cL_last 8 = .ok (.putfield 13, 3) := dgL_11.2.2.2.2.2.2.2.2.2.2.2.2.1
theorem dL_last_11 : decode cL_last 11 = .ok (.goto 11, 3) := dgL_11.2.2.2.2.2.2.2.2.2.2.2.2.2.1
theorem dL_last_14 : decode cL_last 14 = .ok (.astore 4, 2) := dgL_11.2.2.2.2.2.2.2.2.2.2.2.2.2.2.1
theorem dL_last_16 : decode cL_last 16 = .ok (.iconst 1, 1) := dgL_11.2.2.2.2.2.2.2.2.2.2.2.2.2.2.2.1
theorem dL_last_17 : decode cL_last 17 = .ok (.ireturn, 1) := dgL_11.2.2.2.2.2.2.2.2.2.2.2.2.2.2.2.2.1
theorem dL_last_18 : decode cL_last 18 = .ok (.astore 4, 2) := dgL_11.2.2.2.2.2.2.2.2.2.2.2.2.2.2.2.2.2.1
theorem dL_last_20 : decode cL_last 20 = .ok (.iconst 2, 1) := dgL_11.2.2.2.2.2.2.2.2.2.2.2.2.2.2.2.2.2.2.1
theorem dL_last_21 : decode cL_last 21 = .ok (.ireturn, 1) := dgL_11.2.2.2.2.2.2.2.2.2.2.2.2.2.2.2.2.2.2.2.1
theorem dL_last_22 : decode cL_last 22 = .ok (.iconst 0, 1) := dgL_11.2.2.2.2.2.2.2.2.2.2.2.2.2.2.2.2.2.2.2.2.1
theorem dL_last_23 : decode cL_last 23 = .ok (.ireturn, 1) := dgL_11.2.2.2.2.2.2.2.2.2.2.2.2.2.2.2.2.2.2.2.2.2.1
theorem dL_forms_0 : decode cL_forms 0 = .ok (.aload_n 2, 1) := dgL_11.2.2.2.2.2.2.2.2.2.2.2.2.2.2.2.2.2.2.2.2.2.2.1
theorem dL_forms_1 : decode cL_forms 1 = .ok (.aload_n 0, 1) := dgL_11.2.2.2.2.2.2.2.2.2.2.2.2.2.2.2.2.2.2.2.2.2.2.2.1
theorem dL_forms_2 : decode cL_forms 2 = .ok (.iload_n 1, 1) := dgL_11.2.2.2.2.2.2.2.2.2.2.2.2.2.2.2.2.2.2.2.2.2.2.2.2.1
theorem dL_forms_3 : decode cL_forms 3 = .ok (.invokevirtual 125, 3) := dgL_11.2.2.2.2.2.2.2.2.2.2.2.2.2.2.2.2.2.2.2.2.2.2.2.2.2.1
theorem dL_forms_6 : decode cL_forms 6 = .ok (.putfield 129, 3) := dgL_11.2.2.2.2.2.2.2.2.2.2.2.2.2.2.2.2.2.2.2.2.2.2.2.2.2.2.1
theorem dL_forms_9 : decode cL_forms 9 = .ok (.goto 6, 3) := dgL_11.2.2.2.2.2.2.2.2.2.2.2.2.2.2.2.2.2.2.2.2.2.2.2.2.2.2.2.1
theorem dL_forms_12 : decode cL_forms 12 = .ok (.astore_n 3, 1) := dgL_11.2.2.2.2.2.2.2.2.2.2.2.2.2.2.2.2.2.2.2.2.2.2.2.2.2.2.2.2.1
theorem dL_forms_13 : decode cL_forms 13 = .ok (.iconst 1, 1) := dgL_11.2.2.2.2.2.2.2.2.2.2.2.2.2.2.2.2.2.2.2.2.2.2.2.2.2.2.2.2.2.1
theorem dL_forms_14 : decode cL_forms 14 = .ok (.ireturn, 1) := dgL_11.2.2.2.2.2.2.2.2.2.2.2.2.2.2.2.2.2.2.2.2.2.2.2.2.2.2.2.2.2.2.1
theorem dL_forms_15 : decode cL_forms 15 = .ok (.iconst 0, 1) := dgL_11.2.2.2.2.2.2.2.2.2.2.2.2.2.2.2.2.2.2.2.2.2.2.2.2.2.2.2.2.2.2.2.1
theorem dL_forms_16 : decode cL_forms 16 = .ok (.ireturn, 1) := dgL_11.2.2.2.2.2.2.2.2.2.2.2.2.2.2.2.2.2.2.2.2.2.2.2.2.2.2.2.2.2.2.2.2.1
theorem dL_spelled_0 : decode cL_spelled 0 = .ok (.aload_n 2, 1) := dgL_11.2.2.2.2.2.2.2.2.2.2.2.2.2.2.2.2.2.2.2.2.2.2.2.2.2.2.2.2.2.2.2.2.2.1
theorem dL_spelled_1 : decode cL_spelled 1 = .ok (.aload_n 0, 1) := dgL_11.2.2.2.2.2.2.2.2.2.2.2.2.2.2.2.2.2.2.2.2.2.2.2.2.2.2.2.2.2.2.2.2.2.2.1
theorem dL_spelled_2 : decode cL_spelled 2 = .ok (.iload_n 1, 1) := dgL_11.2.2.2.2.2.2.2.2.2.2.2.2.2.2.2.2.2.2.2.2.2.2.2.2.2.2.2.2.2.2.2.2.2.2.2.1
theorem dL_spelled_3 : decode cL_spelled 3 = .ok (.invokevirtual 133, 3) := dgL_11.2.2.2.2.2.2.2.2.2.2.2.2.2.2.2.2.2.2.2.2.2.2.2.2.2.2.2.2.2.2.2.2.2.2.2.2.1
theorem dL_spelled_6 : decode cL_spelled 6 = .ok (.putfield 129, 3) := dgL_11.2.2.2.2.2.2.2.2.2.2.2.2.2.2.2.2.2.2.2.2.2.2.2.2.2.2.2.2.2.2.2.2.2.2.2.2.2.1
theorem dL_spelled_9 : decode cL_spelled 9 = .ok (.goto 6, 3) := dgL_11.2.2.2.2.2.2.2.2.2.2.2.2.2.2.2.2.2.2.2.2.2.2.2.2.2.2.2.2.2.2.2.2.2.2.2.2.2.2.1
theorem dL_spelled_12 : decode cL_spelled 12 = .ok (.astore_n 3, 1) := dgL_11.2.2.2.2.2.2.2.2.2.2.2.2.2.2.2.2.2.2.2.2.2.2.2.2.2.2.2.2.2.2.2.2.2.2.2.2.2.2.2
theorem dgL_12 : (decode cL_spelled 13 = .ok (.iconst 1, 1)) ∧ (decode cL_spelled 14 = .ok (.ireturn, 1)) ∧ (decode cL_spelled 15 = .ok (.iconst 0, 1)) ∧ (decode cL_spelled 16 = .ok (.ireturn, 1)) ∧ (decode cL_told 0 = .ok (.aload_n 3, 1)) ∧ (decode cL_told 1 = .ok (.aload_n 0, 1)) ∧ (decode cL_told 2 = .ok (.iload_n 1, 1)) ∧ (decode cL_told 3 = .ok (.iload_n 2, 1)) ∧ (decode cL_told 4 = .ok (.invokevirtual 136, 3)) ∧ (decode cL_told 7 = .ok (.i2l, 1)) ∧ (decode cL_told 8 = .ok (.putfield 13, 3)) ∧ (decode cL_told 11 = .ok (.goto 11, 3)) ∧ (decode cL_told 14 = .ok (.astore 4, 2)) ∧ (decode cL_told 16 = .ok (.iconst 1, 1)) ∧ (decode cL_told 17 = .ok (.ireturn, 1)) ∧ (decode cL_told 18 = .ok (.astore 4, 2)) ∧ (decode cL_told 20 = .ok (.iconst 2, 1)) ∧ (decode cL_told 21 = .ok (.ireturn, 1)) ∧ (decode cL_told 22 = .ok (.iconst 0, 1)) ∧ (decode cL_told 23 = .ok (.ireturn, 1)) ∧ (decode cL_sum 0 = .ok (.aload_n 3, 1)) ∧ (decode cL_sum 1 = .ok (.aload_n 0, 1)) ∧ (decode cL_sum 2 = .ok (.iload_n 1, 1)) ∧ (decode cL_sum 3 = .ok (.iload_n 2, 1)) ∧ (decode cL_sum 4 = .ok (.invokevirtual 139, 3)) ∧ (decode cL_sum 7 = .ok (.i2l, 1)) ∧ (decode cL_sum 8 = .ok (.putfield 13, 3)) ∧ (decode cL_sum 11 = .ok (.goto 7, 3)) ∧ (decode cL_sum 14 = .ok (.astore 4, 2)) ∧ (decode cL_sum 16 = .ok (.iconst 1, 1)) ∧ (decode cL_sum 17 = .ok (.ireturn, 1)) ∧ (decode cL_sum 18 = .ok (.iconst 0, 1)) ∧ (decode cL_sum 19 = .ok (.ireturn, 1)) ∧ (decode cL_values 0 = .ok (.aload_n 2, 1)) ∧ (decode cL_values 1 = .ok (.aload_n 0, 1)) ∧ (decode cL_values 2 = .ok (.iload_n 1, 1)) ∧ (decode cL_values 3 = .ok (.invokevirtual 142, 3)) ∧ (decode cL_values 6 = .ok (.i2l, 1)) ∧ (decode cL_values 7 = .ok (.putfield 13, 3)) ∧ (decode cL_values 10 = .ok (.goto 6, 3)) := by decide +kernel
theorem dL_spelled_13 : decode cL_spelled 13 = .ok (.iconst 1, 1) := dgL_12.1
theorem dL_spelled_14 : decode cL_spelled 14 = .ok (.ireturn, 1) := dgL_12.2.1
theorem dL_spelled_15 : decode cL_spelled 15 = .ok (.iconst 0, 1) := dgL_12.2.2.1
theorem dL_spelled_16 : decode cL_spelled 16 = .ok (.ireturn, 1) := dgL_12.2.2.2.1
theorem dL_told_0 : decode cL_told 0 = .ok (.aload_n 3, 1) := dgL_12.2.2.2.2.1
theorem dL_told_1 : decode cL_told 1 = .ok (.aload_n 0, 1) := dgL_12.2.2.2.2.2.1
theorem dL_told_2 : decode cL_told 2 = .ok (.iload_n 1, 1) := dgL_12.2.2.2.2.2.2.1
theorem dL_told_3 : decode cL_told 3 = .ok (.iload_n 2, 1) := dgL_12.2.2.2.2.2.2.2.1
theorem dL_told_4 : decode cL_told 4 = .ok (.invokevirtual 136, 3) := dgL_12.2.2.2.2.2.2.2.2.1
theorem dL_told_7 : decode cL_told 7 = .ok (.i2l, 1) := dgL_12.2.2.2.2.2.2.2.2.2.1
theorem dL_told_8 : decode cL_told 8 = .ok (.putfield 13, 3) := dgL_12.2.2.2.2.2.2.2.2.2.2.1
theorem dL_told_11 : decode cL_told 11 = .ok (.goto 11, 3) := dgL_12.2.2.2.2.2.2.2.2.2.2.2.1
theorem dL_told_14 : decode cL_told 14 = .ok (.astore 4, 2) := dgL_12.2.2.2.2.2.2.2.2.2.2.2.2.1
theorem dL_told_16 : decode cL_told 16 = .ok (.iconst 1, 1) := dgL_12.2.2.2.2.2.2.2.2.2.2.2.2.2.1
theorem dL_told_17 : decode cL_told 17 = .ok (.ireturn, 1) := dgL_12.2.2.2.2.2.2.2.2.2.2.2.2.2.2.1
theorem dL_told_18 : decode cL_told 18 = .ok (.astore 4, 2) := dgL_12.2.2.2.2.2.2.2.2.2.2.2.2.2.2.2.1
theorem dL_told_20 : decode cL_told 20 = .ok (.iconst 2, 1) := dgL_12.2.2.2.2.2.2.2.2.2.2.2.2.2.2.2.2.1
theorem dL_told_21 : decode cL_told 21 = .ok (.ireturn, 1) := dgL_12.2.2.2.2.2.2.2.2.2.2.2.2.2.2.2.2.2.1
theorem dL_told_22 : decode cL_told 22 = .ok (.iconst 0, 1) := dgL_12.2.2.2.2.2.2.2.2.2.2.2.2.2.2.2.2.2.2.1
theorem dL_told_23 : decode cL_told 23 = .ok (.ireturn, 1) := dgL_12.2.2.2.2.2.2.2.2.2.2.2.2.2.2.2.2.2.2.2.1
theorem dL_sum_0 : decode cL_sum 0 = .ok (.aload_n 3, 1) := dgL_12.2.2.2.2.2.2.2.2.2.2.2.2.2.2.2.2.2.2.2.2.1
theorem dL_sum_1 : decode cL_sum 1 = .ok (.aload_n 0, 1) := dgL_12.2.2.2.2.2.2.2.2.2.2.2.2.2.2.2.2.2.2.2.2.2.1
theorem dL_sum_2 : decode cL_sum 2 = .ok (.iload_n 1, 1) := dgL_12.2.2.2.2.2.2.2.2.2.2.2.2.2.2.2.2.2.2.2.2.2.2.1
theorem dL_sum_3 : decode cL_sum 3 = .ok (.iload_n 2, 1) := dgL_12.2.2.2.2.2.2.2.2.2.2.2.2.2.2.2.2.2.2.2.2.2.2.2.1
theorem dL_sum_4 : decode cL_sum 4 = .ok (.invokevirtual 139, 3) := dgL_12.2.2.2.2.2.2.2.2.2.2.2.2.2.2.2.2.2.2.2.2.2.2.2.2.1
theorem dL_sum_7 : decode cL_sum 7 = .ok (.i2l, 1) := dgL_12.2.2.2.2.2.2.2.2.2.2.2.2.2.2.2.2.2.2.2.2.2.2.2.2.2.1
theorem dL_sum_8 : decode cL_sum 8 = .ok (.putfield 13, 3) := dgL_12.2.2.2.2.2.2.2.2.2.2.2.2.2.2.2.2.2.2.2.2.2.2.2.2.2.2.1
theorem dL_sum_11 : decode cL_sum 11 = .ok (.goto 7, 3) := dgL_12.2.2.2.2.2.2.2.2.2.2.2.2.2.2.2.2.2.2.2.2.2.2.2.2.2.2.2.1
theorem dL_sum_14 : decode cL_sum 14 = .ok (.astore 4, 2) := dgL_12.2.2.2.2.2.2.2.2.2.2.2.2.2.2.2.2.2.2.2.2.2.2.2.2.2.2.2.2.1
theorem dL_sum_16 : decode cL_sum 16 = .ok (.iconst 1, 1) := dgL_12.2.2.2.2.2.2.2.2.2.2.2.2.2.2.2.2.2.2.2.2.2.2.2.2.2.2.2.2.2.1
theorem dL_sum_17 : decode cL_sum 17 = .ok (.ireturn, 1) := dgL_12.2.2.2.2.2.2.2.2.2.2.2.2.2.2.2.2.2.2.2.2.2.2.2.2.2.2.2.2.2.2.1
theorem dL_sum_18 : decode cL_sum 18 = .ok (.iconst 0, 1) := dgL_12.2.2.2.2.2.2.2.2.2.2.2.2.2.2.2.2.2.2.2.2.2.2.2.2.2.2.2.2.2.2.2.1
theorem dL_sum_19 : decode cL_sum 19 = .ok (.ireturn, 1) := dgL_12.2.2.2.2.2.2.2.2.2.2.2.2.2.2.2.2.2.2.2.2.2.2.2.2.2.2.2.2.2.2.2.2.1
theorem dL_values_0 : decode cL_values 0 = .ok (.aload_n 2, 1) := dgL_12.2.2.2.2.2.2.2.2.2.2.2.2.2.2.2.2.2.2.2.2.2.2.2.2.2.2.2.2.2.2.2.2.2.1
theorem dL_values_1 : decode cL_values 1 = .ok (.aload_n 0, 1) := dgL_12.2.2.2.2.2.2.2.2.2.2.2.2.2.2.2.2.2.2.2.2.2.2.2.2.2.2.2.2.2.2.2.2.2.2.1
theorem dL_values_2 : decode cL_values 2 = .ok (.iload_n 1, 1) := dgL_12.2.2.2.2.2.2.2.2.2.2.2.2.2.2.2.2.2.2.2.2.2.2.2.2.2.2.2.2.2.2.2.2.2.2.2.1
theorem dL_values_3 : decode cL_values 3 = .ok (.invokevirtual 142, 3) := dgL_12.2.2.2.2.2.2.2.2.2.2.2.2.2.2.2.2.2.2.2.2.2.2.2.2.2.2.2.2.2.2.2.2.2.2.2.2.1
theorem dL_values_6 : decode cL_values 6 = .ok (.i2l, 1) := dgL_12.2.2.2.2.2.2.2.2.2.2.2.2.2.2.2.2.2.2.2.2.2.2.2.2.2.2.2.2.2.2.2.2.2.2.2.2.2.1
theorem dL_values_7 : decode cL_values 7 = .ok (.putfield 13, 3) := dgL_12.2.2.2.2.2.2.2.2.2.2.2.2.2.2.2.2.2.2.2.2.2.2.2.2.2.2.2.2.2.2.2.2.2.2.2.2.2.2.1
theorem dL_values_10 : decode cL_values 10 = .ok (.goto 6, 3) := dgL_12.2.2.2.2.2.2.2.2.2.2.2.2.2.2.2.2.2.2.2.2.2.2.2.2.2.2.2.2.2.2.2.2.2.2.2.2.2.2.2
theorem dgL_13 : (decode cL_values 13 = .ok (.astore_n 3, 1)) ∧ (decode cL_values 14 = .ok (.iconst 1, 1)) ∧ (decode cL_values 15 = .ok (.ireturn, 1)) ∧ (decode cL_values 16 = .ok (.iconst 0, 1)) ∧ (decode cL_values 17 = .ok (.ireturn, 1)) ∧ (decode cL_words 0 = .ok (.aload_n 2, 1)) ∧ (decode cL_words 1 = .ok (.aload_n 0, 1)) ∧ (decode cL_words 2 = .ok (.iload_n 1, 1)) ∧ (decode cL_words 3 = .ok (.invokevirtual 145, 3)) ∧ (decode cL_words 6 = .ok (.i2l, 1)) ∧ (decode cL_words 7 = .ok (.putfield 13, 3)) ∧ (decode cL_words 10 = .ok (.goto 6, 3)) ∧ (decode cL_words 13 = .ok (.astore_n 3, 1)) ∧ (decode cL_words 14 = .ok (.iconst 1, 1)) ∧ (decode cL_words 15 = .ok (.ireturn, 1)) ∧ (decode cL_words 16 = .ok (.iconst 0, 1)) ∧ (decode cL_words 17 = .ok (.ireturn, 1)) ∧ (decode cL_word 0 = .ok (.aload 4, 2)) ∧ (decode cL_word 2 = .ok (.aload_n 0, 1)) ∧ (decode cL_word 3 = .ok (.iload_n 1, 1)) ∧ (decode cL_word 4 = .ok (.iload_n 2, 1)) ∧ (decode cL_word 5 = .ok (.iload_n 3, 1)) ∧ (decode cL_word 6 = .ok (.invokevirtual 148, 3)) ∧ (decode cL_word 9 = .ok (.i2l, 1)) ∧ (decode cL_word 10 = .ok (.putfield 13, 3)) ∧ (decode cL_word 13 = .ok (.goto 7, 3)) ∧ (decode cL_word 16 = .ok (.astore 5, 2)) ∧ (decode cL_word 18 = .ok (.iconst 1, 1)) ∧ (decode cL_word 19 = .ok (.ireturn, 1)) ∧ (decode cL_word 20 = .ok (.iconst 0, 1)) ∧ (decode cL_word 21 = .ok (.ireturn, 1)) ∧ (decode cL_isAlike 0 = .ok (.aload_n 3, 1)) ∧ (decode cL_isAlike 1 = .ok (.aload_n 0, 1)) ∧ (decode cL_isAlike 2 = .ok (.iload_n 1, 1)) ∧ (decode cL_isAlike 3 = .ok (.iload_n 2, 1)) ∧ (decode cL_isAlike 4 = .ok (.invokevirtual 151, 3)) ∧ (decode cL_isAlike 7 = .ok (.ifCond .eq 7, 3)) ∧ (decode cL_isAlike 10 = .ok (.lconst 1, 1)) ∧ (decode cL_isAlike 11 = .ok (.goto 4, 3)) ∧ (decode cL_isAlike 14 = .ok (.lconst 0, 1)) := by decide +kernel
theorem dL_values_13 : decode cL_values 13 = .ok (.astore_n 3, 1) := dgL_13.1
theorem dL_values_14 : decode cL_values 14 = .ok (.iconst 1, 1) := dgL_13.2.1
theorem dL_values_15 : decode cL_values 15 = .ok (.ireturn, 1) := dgL_13.2.2.1
theorem dL_values_16 : decode cL_values 16 = .ok (.iconst 0, 1) := dgL_13.2.2.2.1
theorem dL_values_17 : decode cL_values 17 = .ok (.ireturn, 1) := dgL_13.2.2.2.2.1
theorem dL_words_0 : decode cL_words 0 = .ok (.aload_n 2, 1) := dgL_13.2.2.2.2.2.1
theorem dL_words_1 : decode cL_words 1 = .ok (.aload_n 0, 1) := dgL_13.2.2.2.2.2.2.1
theorem dL_words_2 : decode cL_words 2 = .ok (.iload_n 1, 1) := dgL_13.2.2.2.2.2.2.2.1
theorem dL_words_3 : decode cL_words 3 = .ok (.invokevirtual 145, 3) := dgL_13.2.2.2.2.2.2.2.2.1
theorem dL_words_6 : decode cL_words 6 = .ok (.i2l, 1) := dgL_13.2.2.2.2.2.2.2.2.2.1
theorem dL_words_7 : decode cL_words 7 = .ok (.putfield 13, 3) := dgL_13.2.2.2.2.2.2.2.2.2.2.1
theorem dL_words_10 : decode cL_words 10 = .ok (.goto 6, 3) := dgL_13.2.2.2.2.2.2.2.2.2.2.2.1
theorem dL_words_13 : decode cL_words 13 = .ok (.astore_n 3, 1) := dgL_13.2.2.2.2.2.2.2.2.2.2.2.2.1
theorem dL_words_14 : decode cL_words 14 = .ok (.iconst 1, 1) := dgL_13.2.2.2.2.2.2.2.2.2.2.2.2.2.1
theorem dL_words_15 : decode cL_words 15 = .ok (.ireturn, 1) := dgL_13.2.2.2.2.2.2.2.2.2.2.2.2.2.2.1
theorem dL_words_16 : decode cL_words 16 = .ok (.iconst 0, 1) := dgL_13.2.2.2.2.2.2.2.2.2.2.2.2.2.2.2.1
theorem dL_words_17 : decode cL_words 17 = .ok (.ireturn, 1) := dgL_13.2.2.2.2.2.2.2.2.2.2.2.2.2.2.2.2.1
theorem dL_word_0 : decode cL_word 0 = .ok (.aload 4, 2) := dgL_13.2.2.2.2.2.2.2.2.2.2.2.2.2.2.2.2.2.1
theorem dL_word_2 : decode cL_word 2 = .ok (.aload_n 0, 1) := dgL_13.2.2.2.2.2.2.2.2.2.2.2.2.2.2.2.2.2.2.1
theorem dL_word_3 : decode cL_word 3 = .ok (.iload_n 1, 1) := dgL_13.2.2.2.2.2.2.2.2.2.2.2.2.2.2.2.2.2.2.2.1
theorem dL_word_4 : decode cL_word 4 = .ok (.iload_n 2, 1) := dgL_13.2.2.2.2.2.2.2.2.2.2.2.2.2.2.2.2.2.2.2.2.1
theorem dL_word_5 : decode cL_word 5 = .ok (.iload_n 3, 1) := dgL_13.2.2.2.2.2.2.2.2.2.2.2.2.2.2.2.2.2.2.2.2.2.1
theorem dL_word_6 : decode cL_word 6 = .ok (.invokevirtual 148, 3) := dgL_13.2.2.2.2.2.2.2.2.2.2.2.2.2.2.2.2.2.2.2.2.2.2.1
theorem dL_word_9 : decode cL_word 9 = .ok (.i2l, 1) := dgL_13.2.2.2.2.2.2.2.2.2.2.2.2.2.2.2.2.2.2.2.2.2.2.2.1
theorem dL_word_10 : decode cL_word 10 = .ok (.putfield 13, 3) := dgL_13.2.2.2.2.2.2.2.2.2.2.2.2.2.2.2.2.2.2.2.2.2.2.2.2.1
theorem dL_word_13 : decode cL_word 13 = .ok (.goto 7, 3) := dgL_13.2.2.2.2.2.2.2.2.2.2.2.2.2.2.2.2.2.2.2.2.2.2.2.2.2.1
theorem dL_word_16 : decode cL_word 16 = .ok (.astore 5, 2) := dgL_13.2.2.2.2.2.2.2.2.2.2.2.2.2.2.2.2.2.2.2.2.2.2.2.2.2.2.1
theorem dL_word_18 : decode cL_word 18 = .ok (.iconst 1, 1) := dgL_13.2.2.2.2.2.2.2.2.2.2.2.2.2.2.2.2.2.2.2.2.2.2.2.2.2.2.2.1
theorem dL_word_19 : decode cL_word 19 = .ok (.ireturn, 1) := dgL_13.2.2.2.2.2.2.2.2.2.2.2.2.2.2.2.2.2.2.2.2.2.2.2.2.2.2.2.2.1
theorem dL_word_20 : decode cL_word 20 = .ok (.iconst 0, 1) := dgL_13.2.2.2.2.2.2.2.2.2.2.2.2.2.2.2.2.2.2.2.2.2.2.2.2.2.2.2.2.2.1
theorem dL_word_21 : decode cL_word 21 = .ok (.ireturn, 1) := dgL_13.2.2.2.2.2.2.2.2.2.2.2.2.2.2.2.2.2.2.2.2.2.2.2.2.2.2.2.2.2.2.1
theorem dL_isAlike_0 : decode cL_isAlike 0 = .ok (.aload_n 3, 1) := dgL_13.2.2.2.2.2.2.2.2.2.2.2.2.2.2.2.2.2.2.2.2.2.2.2.2.2.2.2.2.2.2.2.1
theorem dL_isAlike_1 : decode cL_isAlike 1 = .ok (.aload_n 0, 1) := dgL_13.2.2.2.2.2.2.2.2.2.2.2.2.2.2.2.2.2.2.2.2.2.2.2.2.2.2.2.2.2.2.2.2.1
theorem dL_isAlike_2 : decode cL_isAlike 2 = .ok (.iload_n 1, 1) := dgL_13.2.2.2.2.2.2.2.2.2.2.2.2.2.2.2.2.2.2.2.2.2.2.2.2.2.2.2.2.2.2.2.2.2.1
theorem dL_isAlike_3 : decode cL_isAlike 3 = .ok (.iload_n 2, 1) := dgL_13.2.2.2.2.2.2.2.2.2.2.2.2.2.2.2.2.2.2.2.2.2.2.2.2.2.2.2.2.2.2.2.2.2.2.1
theorem dL_isAlike_4 : decode cL_isAlike 4 = .ok (.invokevirtual 151, 3) := dgL_13.2.2.2.2.2.2.2.2.2.2.2.2.2.2.2.2.2.2.2.2.2.2.2.2.2.2.2.2.2.2.2.2.2.2.2.1
theorem dL_isAlike_7 : decode cL_isAlike 7 = .ok (.ifCond .eq 7, 3) := dgL_13.2.2.2.2.2.2.2.2.2.2.2.2.2.2.2.2.2.2.2.2.2.2.2.2.2.2.2.2.2.2.2.2.2.2.2.2.1
theorem dL_isAlike_10 : decode cL_isAlike 10 = .ok (.lconst 1, 1) := dgL_13.2.2.2.2.2.2.2.2.2.2.2.2.2.2.2.2.2.2.2.2.2.2.2.2.2.2.2.2.2.2.2.2.2.2.2.2.2.1
theorem dL_isAlike_11 : decode cL_isAlike 11 = .ok (.goto 4, 3) := dgL_13.2.2.2.2.2.2.2.2.2.2.2.2.2.2.2.2.2.2.2.2.2.2.2.2.2.2.2.2.2.2.2.2.2.2.2.2.2.2.1
theorem dL_isAlike_14 : decode cL_isAlike 14 = .ok (.lconst 0, 1) := dgL_13.2.2.2.2.2.2.2.2.2.2.2.2.2.2.2.2.2.2.2.2.2.2.2.2.2.2.2.2.2.2.2.2.2.2.2.2.2.2.2
theorem dgL_14 : (decode cL_isAlike 15 = .ok (.putfield 13, 3)) ∧ (decode cL_isAlike 18 = .ok (.goto 7, 3)) ∧ (decode cL_isAlike 21 = .ok (.astore 4, 2)) ∧ (decode cL_isAlike 23 = .ok (.iconst 1, 1)) ∧ (decode cL_isAlike 24 = .ok (.ireturn, 1)) ∧ (decode cL_isAlike 25 = .ok (.iconst 0, 1)) ∧ (decode cL_isAlike 26 = .ok (.ireturn, 1)) ∧ (decode cL_order 0 = .ok (.aload_n 3, 1)) ∧ (decode cL_order 1 = .ok (.aload_n 0, 1)) ∧ (decode cL_order 2 = .ok (.iload_n 1, 1)) ∧ (decode cL_order 3 = .ok (.iload_n 2, 1)) ∧ (decode cL_order 4 = .ok (.invokevirtual 155, 3)) ∧ (decode cL_order 7 = .ok (.i2l, 1)) ∧ (decode cL_order 8 = .ok (.putfield 13, 3)) ∧ (decode cL_order 11 = .ok (.goto 7, 3)) ∧ (decode cL_order 14 = .ok (.astore 4, 2)) ∧ (decode cL_order 16 = .ok (.iconst 1, 1)) ∧ (decode cL_order 17 = .ok (.ireturn, 1)) ∧ (decode cL_order 18 = .ok (.iconst 0, 1)) ∧ (decode cL_order 19 = .ok (.ireturn, 1)) ∧ (decode cL_half 0 = .ok (.aload_n 3, 1)) ∧ (decode cL_half 1 = .ok (.aload_n 0, 1)) ∧ (decode cL_half 2 = .ok (.iload_n 1, 1)) ∧ (decode cL_half 3 = .ok (.iload_n 2, 1)) ∧ (decode cL_half 4 = .ok (.invokevirtual 158, 3)) ∧ (decode cL_half 7 = .ok (.i2l, 1)) ∧ (decode cL_half 8 = .ok (.putfield 13, 3)) ∧ (decode cL_half 11 = .ok (.goto 7, 3)) ∧ (decode cL_half 14 = .ok (.astore 4, 2)) ∧ (decode cL_half 16 = .ok (.iconst 1, 1)) ∧ (decode cL_half 17 = .ok (.ireturn, 1)) ∧ (decode cL_half 18 = .ok (.iconst 0, 1)) ∧ (decode cL_half 19 = .ok (.ireturn, 1)) ∧ (decode cL_code 0 = .ok (.aload_n 3, 1)) ∧ (decode cL_code 1 = .ok (.aload_n 0, 1)) ∧ (decode cL_code 2 = .ok (.iload_n 1, 1)) ∧ (decode cL_code 3 = .ok (.iload_n 2, 1)) ∧ (decode cL_code 4 = .ok (.invokevirtual 161, 3)) ∧ (decode cL_code 7 = .ok (.i2l, 1)) ∧ (decode cL_code 8 = .ok (.putfield 13, 3)) := by decide +kernel
theorem dL_isAlike_15 : decode cL_isAlike 15 = .ok (.putfield 13, 3) := dgL_14.1
theorem dL_isAlike_18 : decode cL_isAlike 18 = .ok (.goto 7, 3) := dgL_14.2.1
theorem dL_isAlike_21 : decode cL_isAlike 21 = .ok (.astore 4, 2) := dgL_14.2.2.1
theorem dL_isAlike_23 : decode cL_isAlike 23 = .ok (.iconst 1, 1) := dgL_14.2.2.2.1
theorem dL_isAlike_24 : decode cL_isAlike 24 = .ok (.ireturn, 1) := dgL_14.2.2.2.2.1
theorem dL_isAlike_25 : decode cL_isAlike 25 = .ok (.iconst 0, 1) := dgL_14.2.2.2.2.2.1
theorem dL_isAlike_26 : decode cL_isAlike 26 = .ok (.ireturn, 1) := dgL_14.2.2.2.2.2.2.1
theorem dL_order_0 : decode cL_order 0 = .ok (.aload_n 3, 1) := dgL_14.2.2.2.2.2.2.2.1
theorem dL_order_1 : decode cL_order 1 = .ok (.aload_n 0, 1) := dgL_14.2.2.2.2.2.2.2.2.1
theorem dL_order_2 : decode cL_order 2 = .ok (.iload_n 1, 1) := dgL_14.2.2.2.2.2.2.2.2.2.1
theorem dL_order_3 : decode cL_order 3 = .ok (.iload_n 2, 1) := dgL_14.2.2.2.2.2.2.2.2.2.2.1
theorem dL_order_4 : decode cL_order 4 = .ok (.invokevirtual 155, 3) := dgL_14.2.2.2.2.2.2.2.2.2.2.2.1
theorem dL_order_7 : decode cL_order 7 = .ok (.i2l, 1) := dgL_14.2.2.2.2.2.2.2.2.2.2.2.2.1
theorem dL_order_8 : decode cL_order 8 = .ok (.putfield 13, 3) := dgL_14.2.2.2.2.2.2.2.2.2.2.2.2.2.1
theorem dL_order_11 : decode cL_order 11 = .ok (.goto 7, 3) := dgL_14.2.2.2.2.2.2.2.2.2.2.2.2.2.2.1
theorem dL_order_14 : decode cL_order 14 = .ok (.astore 4, 2) := dgL_14.2.2.2.2.2.2.2.2.2.2.2.2.2.2.2.1
theorem dL_order_16 : decode cL_order 16 = .ok (.iconst 1, 1) := dgL_14.2.2.2.2.2.2.2.2.2.2.2.2.2.2.2.2.1
theorem dL_order_17 : decode cL_order 17 = .ok (.ireturn, 1) := dgL_14.2.2.2.2.2.2.2.2.2.2.2.2.2.2.2.2.2.1
theorem dL_order_18 : decode cL_order 18 = .ok (.iconst 0, 1) := dgL_14.2.2.2.2.2.2.2.2.2.2.2.2.2.2.2.2.2.2.1
theorem dL_order_19 : decode cL_order 19 = .ok (.ireturn, 1) := dgL_14.2.2.2.2.2.2.2.2.2.2.2.2.2.2.2.2.2.2.2.1
theorem dL_half_0 : decode cL_half 0 = .ok (.aload_n 3, 1) := dgL_14.2.2.2.2.2.2.2.2.2.2.2.2.2.2.2.2.2.2.2.2.1
theorem dL_half_1 : decode cL_half 1 = .ok (.aload_n 0, 1) := dgL_14.2.2.2.2.2.2.2.2.2.2.2.2.2.2.2.2.2.2.2.2.2.1
theorem dL_half_2 : decode cL_half 2 = .ok (.iload_n 1, 1) := dgL_14.2.2.2.2.2.2.2.2.2.2.2.2.2.2.2.2.2.2.2.2.2.2.1
theorem dL_half_3 : decode cL_half 3 = .ok (.iload_n 2, 1) := dgL_14.2.2.2.2.2.2.2.2.2.2.2.2.2.2.2.2.2.2.2.2.2.2.2.1
theorem dL_half_4 : decode cL_half 4 = .ok (.invokevirtual 158, 3) := dgL_14.2.2.2.2.2.2.2.2.2.2.2.2.2.2.2.2.2.2.2.2.2.2.2.2.1
theorem dL_half_7 : decode cL_half 7 = .ok (.i2l, 1) := dgL_14.2.2.2.2.2.2.2.2.2.2.2.2.2.2.2.2.2.2.2.2.2.2.2.2.2.1
theorem dL_half_8 : decode cL_half 8 = .ok (.putfield 13, 3) := dgL_14.2.2.2.2.2.2.2.2.2.2.2.2.2.2.2.2.2.2.2.2.2.2.2.2.2.2.1
theorem dL_half_11 : decode cL_half 11 = .ok (.goto 7, 3) := dgL_14.2.2.2.2.2.2.2.2.2.2.2.2.2.2.2.2.2.2.2.2.2.2.2.2.2.2.2.1
theorem dL_half_14 : decode cL_half 14 = .ok (.astore 4, 2) := dgL_14.2.2.2.2.2.2.2.2.2.2.2.2.2.2.2.2.2.2.2.2.2.2.2.2.2.2.2.2.1
theorem dL_half_16 : decode cL_half 16 = .ok (.iconst 1, 1) := dgL_14.2.2.2.2.2.2.2.2.2.2.2.2.2.2.2.2.2.2.2.2.2.2.2.2.2.2.2.2.2.1
theorem dL_half_17 : decode cL_half 17 = .ok (.ireturn, 1) := dgL_14.2.2.2.2.2.2.2.2.2.2.2.2.2.2.2.2.2.2.2.2.2.2.2.2.2.2.2.2.2.2.1
theorem dL_half_18 : decode cL_half 18 = .ok (.iconst 0, 1) := dgL_14.2.2.2.2.2.2.2.2.2.2.2.2.2.2.2.2.2.2.2.2.2.2.2.2.2.2.2.2.2.2.2.1
theorem dL_half_19 : decode cL_half 19 = .ok (.ireturn, 1) := dgL_14.2.2.2.2.2.2.2.2.2.2.2.2.2.2.2.2.2.2.2.2.2.2.2.2.2.2.2.2.2.2.2.2.1
theorem dL_code_0 : decode cL_code 0 = .ok (.aload_n 3, 1) := dgL_14.2.2.2.2.2.2.2.2.2.2.2.2.2.2.2.2.2.2.2.2.2.2.2.2.2.2.2.2.2.2.2.2.2.1
theorem dL_code_1 : decode cL_code 1 = .ok (.aload_n 0, 1) := dgL_14.2.2.2.2.2.2.2.2.2.2.2.2.2.2.2.2.2.2.2.2.2.2.2.2.2.2.2.2.2.2.2.2.2.2.1
theorem dL_code_2 : decode cL_code 2 = .ok (.iload_n 1, 1) := dgL_14.2.2.2.2.2.2.2.2.2.2.2.2.2.2.2.2.2.2.2.2.2.2.2.2.2.2.2.2.2.2.2.2.2.2.2.1
theorem dL_code_3 : decode cL_code 3 = .ok (.iload_n 2, 1) := dgL_14.2.2.2.2.2.2.2.2.2.2.2.2.2.2.2.2.2.2.2.2.2.2.2.2.2.2.2.2.2.2.2.2.2.2.2.2.1
theorem dL_code_4 : decode cL_code 4 = .ok (.invokevirtual 161, 3) := dgL_14.2.2.2.2.2.2.2.2.2.2.2.2.2.2.2.2.2.2.2.2.2.2.2.2.2.2.2.2.2.2.2.2.2.2.2.2.2.1
theorem dL_code_7 : decode cL_code 7 = .ok (.i2l, 1) := dgL_14.2.2.2.2.2.2.2.2.2.2.2.2.2.2.2.2.2.2.2.2.2.2.2.2.2.2.2.2.2.2.2.2.2.2.2.2.2.2.1
theorem dL_code_8 : decode cL_code 8 = .ok (.putfield 13, 3) := dgL_14.2.2.2.2.2.2.2.2.2.2.2.2.2.2.2.2.2.2.2.2.2.2.2.2.2.2.2.2.2.2.2.2.2.2.2.2.2.2.2
theorem dgL_15 : (decode cL_code 11 = .ok (.goto 7, 3)) ∧ (decode cL_code 14 = .ok (.astore 4, 2)) ∧ (decode cL_code 16 = .ok (.iconst 1, 1)) ∧ (decode cL_code 17 = .ok (.ireturn, 1)) ∧ (decode cL_code 18 = .ok (.iconst 0, 1)) ∧ (decode cL_code 19 = .ok (.ireturn, 1)) ∧ (decode cL_ofUnit 0 = .ok (.aload_n 3, 1)) ∧ (decode cL_ofUnit 1 = .ok (.aload_n 0, 1)) ∧ (decode cL_ofUnit 2 = .ok (.iload_n 1, 1)) ∧ (decode cL_ofUnit 3 = .ok (.iload_n 2, 1)) ∧ (decode cL_ofUnit 4 = .ok (.invokevirtual 164, 3)) ∧ (decode cL_ofUnit 7 = .ok (.i2l, 1)) ∧ (decode cL_ofUnit 8 = .ok (.putfield 13, 3)) ∧ (decode cL_ofUnit 11 = .ok (.goto 7, 3)) ∧ (decode cL_ofUnit 14 = .ok (.astore 4, 2)) ∧ (decode cL_ofUnit 16 = .ok (.iconst 1, 1)) ∧ (decode cL_ofUnit 17 = .ok (.ireturn, 1)) ∧ (decode cL_ofUnit 18 = .ok (.iconst 0, 1)) ∧ (decode cL_ofUnit 19 = .ok (.ireturn, 1)) ∧ (decode cL_compare 0 = .ok (.aload_n 3, 1)) ∧ (decode cL_compare 1 = .ok (.aload_n 0, 1)) ∧ (decode cL_compare 2 = .ok (.iload_n 1, 1)) ∧ (decode cL_compare 3 = .ok (.iload_n 2, 1)) ∧ (decode cL_compare 4 = .ok (.invokevirtual 167, 3)) ∧ (decode cL_compare 7 = .ok (.i2l, 1)) ∧ (decode cL_compare 8 = .ok (.putfield 13, 3)) ∧ (decode cL_compare 11 = .ok (.goto 7, 3)) ∧ (decode cL_compare 14 = .ok (.astore 4, 2)) ∧ (decode cL_compare 16 = .ok (.iconst 1, 1)) ∧ (decode cL_compare 17 = .ok (.ireturn, 1)) ∧ (decode cL_compare 18 = .ok (.iconst 0, 1)) ∧ (decode cL_compare 19 = .ok (.ireturn, 1)) ∧ (decode cL_ofTrack 0 = .ok (.aload_n 3, 1)) ∧ (decode cL_ofTrack 1 = .ok (.aload_n 0, 1)) ∧ (decode cL_ofTrack 2 = .ok (.iload_n 1, 1)) ∧ (decode cL_ofTrack 3 = .ok (.iload_n 2, 1)) ∧ (decode cL_ofTrack 4 = .ok (.invokevirtual 170, 3)) ∧ (decode cL_ofTrack 7 = .ok (.i2l, 1)) ∧ (decode cL_ofTrack 8 = .ok (.putfield 13, 3)) ∧ (decode cL_ofTrack 11 = .ok (.goto 11, 3)) := by decide +kernel
theorem dL_code_11 : decode cL_code 11 = .ok (.goto 7, 3) := dgL_15.1
theorem dL_code_14 : decode cL_code 14 = .ok (.astore 4, 2) := dgL_15.2.1
theorem dL_code_16 : decode cL_code 16 = .ok (.iconst 1, 1) := dgL_15.2.2.1
theorem dL_code_17 : decode cL_code 17 = .ok (.ireturn, 1) := dgL_15.2.2.2.1
theorem dL_code_18 : decode cL_code 18 = .ok (.iconst 0, 1) := dgL_15.2.2.2.2.1
theorem dL_code_19 : decode cL_code 19 = .ok (.ireturn, 1) := dgL_15.2.2.2.2.2.1
theorem dL_ofUnit_0 : decode cL_ofUnit 0 = .ok (.aload_n 3, 1) := dgL_15.2.2.2.2.2.2.1
theorem dL_ofUnit_1 : decode cL_ofUnit 1 = .ok (.aload_n 0, 1) := dgL_15.2.2.2.2.2.2.2.1
theorem dL_ofUnit_2 : decode cL_ofUnit 2 = .ok (.iload_n 1, 1) := dgL_15.2.2.2.2.2.2.2.2.1
theorem dL_ofUnit_3 : decode cL_ofUnit 3 = .ok (.iload_n 2, 1) := dgL_15.2.2.2.2.2.2.2.2.2.1
theorem dL_ofUnit_4 : decode cL_ofUnit 4 = .ok (.invokevirtual 164, 3) := dgL_15.2.2.2.2.2.2.2.2.2.2.1
theorem dL_ofUnit_7 : decode cL_ofUnit 7 = .ok (.i2l, 1) := dgL_15.2.2.2.2.2.2.2.2.2.2.2.1
theorem dL_ofUnit_8 : decode cL_ofUnit 8 = .ok (.putfield 13, 3) := dgL_15.2.2.2.2.2.2.2.2.2.2.2.2.1
theorem dL_ofUnit_11 : decode cL_ofUnit 11 = .ok (.goto 7, 3) := dgL_15.2.2.2.2.2.2.2.2.2.2.2.2.2.1
theorem dL_ofUnit_14 : decode cL_ofUnit 14 = .ok (.astore 4, 2) := dgL_15.2.2.2.2.2.2.2.2.2.2.2.2.2.2.1
theorem dL_ofUnit_16 : decode cL_ofUnit 16 = .ok (.iconst 1, 1) := dgL_15.2.2.2.2.2.2.2.2.2.2.2.2.2.2.2.1
theorem dL_ofUnit_17 : decode cL_ofUnit 17 = .ok (.ireturn, 1) := dgL_15.2.2.2.2.2.2.2.2.2.2.2.2.2.2.2.2.1
theorem dL_ofUnit_18 : decode cL_ofUnit 18 = .ok (.iconst 0, 1) := dgL_15.2.2.2.2.2.2.2.2.2.2.2.2.2.2.2.2.2.1
theorem dL_ofUnit_19 : decode cL_ofUnit 19 = .ok (.ireturn, 1) := dgL_15.2.2.2.2.2.2.2.2.2.2.2.2.2.2.2.2.2.2.1
theorem dL_compare_0 : decode cL_compare 0 = .ok (.aload_n 3, 1) := dgL_15.2.2.2.2.2.2.2.2.2.2.2.2.2.2.2.2.2.2.2.1
theorem dL_compare_1 : decode cL_compare 1 = .ok (.aload_n 0, 1) := dgL_15.2.2.2.2.2.2.2.2.2.2.2.2.2.2.2.2.2.2.2.2.1
theorem dL_compare_2 : decode cL_compare 2 = .ok (.iload_n 1, 1) := dgL_15.2.2.2.2.2.2.2.2.2.2.2.2.2.2.2.2.2.2.2.2.2.1
theorem dL_compare_3 : decode cL_compare 3 = .ok (.iload_n 2, 1) := dgL_15.2.2.2.2.2.2.2.2.2.2.2.2.2.2.2.2.2.2.2.2.2.2.1
theorem dL_compare_4 : decode cL_compare 4 = .ok (.invokevirtual 167, 3) := dgL_15.2.2.2.2.2.2.2.2.2.2.2.2.2.2.2.2.2.2.2.2.2.2.2.1
theorem dL_compare_7 : decode cL_compare 7 = .ok (.i2l, 1) := dgL_15.2.2.2.2.2.2.2.2.2.2.2.2.2.2.2.2.2.2.2.2.2.2.2.2.1
theorem dL_compare_8 : decode cL_compare 8 = .ok (.putfield 13, 3) := dgL_15.2.2.2.2.2.2.2.2.2.2.2.2.2.2.2.2.2.2.2.2.2.2.2.2.2.1
theorem dL_compare_11 : decode cL_compare 11 = .ok (.goto 7, 3) := dgL_15.2.2.2.2.2.2.2.2.2.2.2.2.2.2.2.2.2.2.2.2.2.2.2.2.2.2.1
theorem dL_compare_14 : decode cL_compare 14 = .ok (.astore 4, 2) := dgL_15.2.2.2.2.2.2.2.2.2.2.2.2.2.2.2.2.2.2.2.2.2.2.2.2.2.2.2.1
theorem dL_compare_16 : decode cL_compare 16 = .ok (.iconst 1, 1) := dgL_15.2.2.2.2.2.2.2.2.2.2.2.2.2.2.2.2.2.2.2.2.2.2.2.2.2.2.2.2.1
theorem dL_compare_17 : decode cL_compare 17 = .ok (.ireturn, 1) := dgL_15.2.2.2.2.2.2.2.2.2.2.2.2.2.2.2.2.2.2.2.2.2.2.2.2.2.2.2.2.2.1
theorem dL_compare_18 : decode cL_compare 18 = .ok (.iconst 0, 1) := dgL_15.2.2.2.2.2.2.2.2.2.2.2.2.2.2.2.2.2.2.2.2.2.2.2.2.2.2.2.2.2.2.1
theorem dL_compare_19 : decode cL_compare 19 = .ok (.ireturn, 1) := dgL_15.2.2.2.2.2.2.2.2.2.2.2.2.2.2.2.2.2.2.2.2.2.2.2.2.2.2.2.2.2.2.2.1
theorem dL_ofTrack_0 : decode cL_ofTrack 0 = .ok (.aload_n 3, 1) := dgL_15.2.2.2.2.2.2.2.2.2.2.2.2.2.2.2.2.2.2.2.2.2.2.2.2.2.2.2.2.2.2.2.2.1
theorem dL_ofTrack_1 : decode cL_ofTrack 1 = .ok (.aload_n 0, 1) := dgL_15.2.2.2.2.2.2.2.2.2.2.2.2.2.2.2.2.2.2.2.2.2.2.2.2.2.2.2.2.2.2.2.2.2.1
theorem dL_ofTrack_2 : decode cL_ofTrack 2 = .ok (.iload_n 1, 1) := dgL_15.2.2.2.2.2.2.2.2.2.2.2.2.2.2.2.2.2.2.2.2.2.2.2.2.2.2.2.2.2.2.2.2.2.2.1
theorem dL_ofTrack_3 : decode cL_ofTrack 3 = .ok (.iload_n 2, 1) := dgL_15.2.2.2.2.2.2.2.2.2.2.2.2.2.2.2.2.2.2.2.2.2.2.2.2.2.2.2.2.2.2.2.2.2.2.2.1
theorem dL_ofTrack_4 : decode cL_ofTrack 4 = .ok (.invokevirtual 170, 3) := dgL_15.2.2.2.2.2.2.2.2.2.2.2.2.2.2.2.2.2.2.2.2.2.2.2.2.2.2.2.2.2.2.2.2.2.2.2.2.1
theorem dL_ofTrack_7 : decode cL_ofTrack 7 = .ok (.i2l, 1) := dgL_15.2.2.2.2.2.2.2.2.2.2.2.2.2.2.2.2.2.2.2.2.2.2.2.2.2.2.2.2.2.2.2.2.2.2.2.2.2.1
theorem dL_ofTrack_8 : decode cL_ofTrack 8 = .ok (.putfield 13, 3) := dgL_15.2.2.2.2.2.2.2.2.2.2.2.2.2.2.2.2.2.2.2.2.2.2.2.2.2.2.2.2.2.2.2.2.2.2.2.2.2.2.1
theorem dL_ofTrack_11 : decode cL_ofTrack 11 = .ok (.goto 11, 3) := dgL_15.2.2.2.2.2.2.2.2.2.2.2.2.2.2.2.2.2.2.2.2.2.2.2.2.2.2.2.2.2.2.2.2.2.2.2.2.2.2.2
theorem dgL_16 : (decode cL_ofTrack 14 = .ok (.astore 4, 2)) ∧ (decode cL_ofTrack 16 = .ok (.iconst 1, 1)) ∧ (decode cL_ofTrack 17 = .ok (.ireturn, 1)) ∧ (decode cL_ofTrack 18 = .ok (.astore 4, 2)) ∧ (decode cL_ofTrack 20 = .ok (.iconst 2, 1)) ∧ (decode cL_ofTrack 21 = .ok (.ireturn, 1)) ∧ (decode cL_ofTrack 22 = .ok (.iconst 0, 1)) ∧ (decode cL_ofTrack 23 = .ok (.ireturn, 1)) ∧ (decode cL_unit 0 = .ok (.aload_n 3, 1)) ∧ (decode cL_unit 1 = .ok (.aload_n 0, 1)) ∧ (decode cL_unit 2 = .ok (.iload_n 1, 1)) ∧ (decode cL_unit 3 = .ok (.iload_n 2, 1)) ∧ (decode cL_unit 4 = .ok (.invokevirtual 173, 3)) ∧ (decode cL_unit 7 = .ok (.i2l, 1)) ∧ (decode cL_unit 8 = .ok (.putfield 13, 3)) ∧ (decode cL_unit 11 = .ok (.goto 7, 3)) ∧ (decode cL_unit 14 = .ok (.astore 4, 2)) ∧ (decode cL_unit 16 = .ok (.iconst 1, 1)) ∧ (decode cL_unit 17 = .ok (.ireturn, 1)) ∧ (decode cL_unit 18 = .ok (.iconst 0, 1)) ∧ (decode cL_unit 19 = .ok (.ireturn, 1)) ∧ (decode cL_codeAt 0 = .ok (.aload_n 3, 1)) ∧ (decode cL_codeAt 1 = .ok (.aload_n 0, 1)) ∧ (decode cL_codeAt 2 = .ok (.iload_n 1, 1)) ∧ (decode cL_codeAt 3 = .ok (.iload_n 2, 1)) ∧ (decode cL_codeAt 4 = .ok (.invokevirtual 176, 3)) ∧ (decode cL_codeAt 7 = .ok (.i2l, 1)) ∧ (decode cL_codeAt 8 = .ok (.putfield 13, 3)) ∧ (decode cL_codeAt 11 = .ok (.goto 7, 3)) ∧ (decode cL_codeAt 14 = .ok (.astore 4, 2)) ∧ (decode cL_codeAt 16 = .ok (.iconst 1, 1)) ∧ (decode cL_codeAt 17 = .ok (.ireturn, 1)) ∧ (decode cL_codeAt 18 = .ok (.iconst 0, 1)) ∧ (decode cL_codeAt 19 = .ok (.ireturn, 1)) ∧ (decode cL_nth 0 = .ok (.aload_n 3, 1)) ∧ (decode cL_nth 1 = .ok (.aload_n 0, 1)) ∧ (decode cL_nth 2 = .ok (.iload_n 1, 1)) ∧ (decode cL_nth 3 = .ok (.iload_n 2, 1)) ∧ (decode cL_nth 4 = .ok (.invokevirtual 179, 3)) ∧ (decode cL_nth 7 = .ok (.i2l, 1)) := by decide +kernel
theorem dL_ofTrack_14 : decode cL_ofTrack 14 = .ok (.astore 4, 2) := dgL_16.1
theorem dL_ofTrack_16 : decode cL_ofTrack 16 = .ok (.iconst 1, 1) := dgL_16.2.1
theorem dL_ofTrack_17 : decode cL_ofTrack 17 = .ok (.ireturn, 1) := dgL_16.2.2.1
theorem dL_ofTrack_18 : decode cL_ofTrack 18 = .ok (.astore 4, 2) := dgL_16.2.2.2.1
theorem dL_ofTrack_20 : decode cL_ofTrack 20 = .ok (.iconst 2, 1) := dgL_16.2.2.2.2.1
theorem dL_ofTrack_21 : decode cL_ofTrack 21 = .ok (.ireturn, 1) := dgL_16.2.2.2.2.2.1
theorem dL_ofTrack_22 : decode cL_ofTrack 22 = .ok (.iconst 0, 1) := dgL_16.2.2.2.2.2.2.1
theorem dL_ofTrack_23 : decode cL_ofTrack 23 = .ok (.ireturn, 1) := dgL_16.2.2.2.2.2.2.2.1
theorem dL_unit_0 : decode cL_unit 0 = .ok (.aload_n 3, 1) := dgL_16.2.2.2.2.2.2.2.2.1
theorem dL_unit_1 : decode cL_unit 1 = .ok (.aload_n 0, 1) := dgL_16.2.2.2.2.2.2.2.2.2.1
theorem dL_unit_2 : decode cL_unit 2 = .ok (.iload_n 1, 1) := dgL_16.2.2.2.2.2.2.2.2.2.2.1
theorem dL_unit_3 : decode cL_unit 3 = .ok (.iload_n 2, 1) := dgL_16.2.2.2.2.2.2.2.2.2.2.2.1
theorem dL_unit_4 : decode cL_unit 4 = .ok (.invokevirtual 173, 3) := dgL_16.2.2.2.2.2.2.2.2.2.2.2.2.1
theorem dL_unit_7 : decode cL_unit 7 = .ok (.i2l, 1) := dgL_16.2.2.2.2.2.2.2.2.2.2.2.2.2.1
theorem dL_unit_8 : decode cL_unit 8 = .ok (.putfield 13, 3) := dgL_16.2.2.2.2.2.2.2.2.2.2.2.2.2.2.1
theorem dL_unit_11 : decode cL_unit 11 = .ok (.goto 7, 3) := dgL_16.2.2.2.2.2.2.2.2.2.2.2.2.2.2.2.1
theorem dL_unit_14 : decode cL_unit 14 = .ok (.astore 4, 2) := dgL_16.2.2.2.2.2.2.2.2.2.2.2.2.2.2.2.2.1
theorem dL_unit_16 : decode cL_unit 16 = .ok (.iconst 1, 1) := dgL_16.2.2.2.2.2.2.2.2.2.2.2.2.2.2.2.2.2.1
theorem dL_unit_17 : decode cL_unit 17 = .ok (.ireturn, 1) := dgL_16.2.2.2.2.2.2.2.2.2.2.2.2.2.2.2.2.2.2.1
theorem dL_unit_18 : decode cL_unit 18 = .ok (.iconst 0, 1) := dgL_16.2.2.2.2.2.2.2.2.2.2.2.2.2.2.2.2.2.2.2.1
theorem dL_unit_19 : decode cL_unit 19 = .ok (.ireturn, 1) := dgL_16.2.2.2.2.2.2.2.2.2.2.2.2.2.2.2.2.2.2.2.2.1
theorem dL_codeAt_0 : decode cL_codeAt 0 = .ok (.aload_n 3, 1) := dgL_16.2.2.2.2.2.2.2.2.2.2.2.2.2.2.2.2.2.2.2.2.2.1
theorem dL_codeAt_1 : decode cL_codeAt 1 = .ok (.aload_n 0, 1) := dgL_16.2.2.2.2.2.2.2.2.2.2.2.2.2.2.2.2.2.2.2.2.2.2.1
theorem dL_codeAt_2 : decode cL_codeAt 2 = .ok (.iload_n 1, 1) := dgL_16.2.2.2.2.2.2.2.2.2.2.2.2.2.2.2.2.2.2.2.2.2.2.2.1
theorem dL_codeAt_3 : decode cL_codeAt 3 = .ok (.iload_n 2, 1) := dgL_16.2.2.2.2.2.2.2.2.2.2.2.2.2.2.2.2.2.2.2.2.2.2.2.2.1
theorem dL_codeAt_4 : decode cL_codeAt 4 = .ok (.invokevirtual 176, 3) := dgL_16.2.2.2.2.2.2.2.2.2.2.2.2.2.2.2.2.2.2.2.2.2.2.2.2.2.1
theorem dL_codeAt_7 : decode cL_codeAt 7 = .ok (.i2l, 1) := dgL_16.2.2.2.2.2.2.2.2.2.2.2.2.2.2.2.2.2.2.2.2.2.2.2.2.2.2.1
theorem dL_codeAt_8 : decode cL_codeAt 8 = .ok (.putfield 13, 3) := dgL_16.2.2.2.2.2.2.2.2.2.2.2.2.2.2.2.2.2.2.2.2.2.2.2.2.2.2.2.1
theorem dL_codeAt_11 : decode cL_codeAt 11 = .ok (.goto 7, 3) := dgL_16.2.2.2.2.2.2.2.2.2.2.2.2.2.2.2.2.2.2.2.2.2.2.2.2.2.2.2.2.1
theorem dL_codeAt_14 : decode cL_codeAt 14 = .ok (.astore 4, 2) := dgL_16.2.2.2.2.2.2.2.2.2.2.2.2.2.2.2.2.2.2.2.2.2.2.2.2.2.2.2.2.2.1
theorem dL_codeAt_16 : decode cL_codeAt 16 = .ok (.iconst 1, 1) := dgL_16.2.2.2.2.2.2.2.2.2.2.2.2.2.2.2.2.2.2.2.2.2.2.2.2.2.2.2.2.2.2.1
theorem dL_codeAt_17 : decode cL_codeAt 17 = .ok (.ireturn, 1) := dgL_16.2.2.2.2.2.2.2.2.2.2.2.2.2.2.2.2.2.2.2.2.2.2.2.2.2.2.2.2.2.2.2.1
theorem dL_codeAt_18 : decode cL_codeAt 18 = .ok (.iconst 0, 1) := dgL_16.2.2.2.2.2.2.2.2.2.2.2.2.2.2.2.2.2.2.2.2.2.2.2.2.2.2.2.2.2.2.2.2.1
theorem dL_codeAt_19 : decode cL_codeAt 19 = .ok (.ireturn, 1) := dgL_16.2.2.2.2.2.2.2.2.2.2.2.2.2.2.2.2.2.2.2.2.2.2.2.2.2.2.2.2.2.2.2.2.2.1
theorem dL_nth_0 : decode cL_nth 0 = .ok (.aload_n 3, 1) := dgL_16.2.2.2.2.2.2.2.2.2.2.2.2.2.2.2.2.2.2.2.2.2.2.2.2.2.2.2.2.2.2.2.2.2.2.1
theorem dL_nth_1 : decode cL_nth 1 = .ok (.aload_n 0, 1) := dgL_16.2.2.2.2.2.2.2.2.2.2.2.2.2.2.2.2.2.2.2.2.2.2.2.2.2.2.2.2.2.2.2.2.2.2.2.1
theorem dL_nth_2 : decode cL_nth 2 = .ok (.iload_n 1, 1) := dgL_16.2.2.2.2.2.2.2.2.2.2.2.2.2.2.2.2.2.2.2.2.2.2.2.2.2.2.2.2.2.2.2.2.2.2.2.2.1
theorem dL_nth_3 : decode cL_nth 3 = .ok (.iload_n 2, 1) := dgL_16.2.2.2.2.2.2.2.2.2.2.2.2.2.2.2.2.2.2.2.2.2.2.2.2.2.2.2.2.2.2.2.2.2.2.2.2.2.1
theorem dL_nth_4 : decode cL_nth 4 = .ok (.invokevirtual 179, 3) := dgL_16.2.2.2.2.2.2.2.2.2.2.2.2.2.2.2.2.2.2.2.2.2.2.2.2.2.2.2.2.2.2.2.2.2.2.2.2.2.2.1
theorem dL_nth_7 : decode cL_nth 7 = .ok (.i2l, 1) := dgL_16.2.2.2.2.2.2.2.2.2.2.2.2.2.2.2.2.2.2.2.2.2.2.2.2.2.2.2.2.2.2.2.2.2.2.2.2.2.2.2
theorem dgL_17 : (decode cL_nth 8 = .ok (.putfield 13, 3)) ∧ (decode cL_nth 11 = .ok (.goto 7, 3)) ∧ (decode cL_nth 14 = .ok (.astore 4, 2)) ∧ (decode cL_nth 16 = .ok (.iconst 1, 1)) ∧ (decode cL_nth 17 = .ok (.ireturn, 1)) ∧ (decode cL_nth 18 = .ok (.iconst 0, 1)) ∧ (decode cL_nth 19 = .ok (.ireturn, 1)) ∧ (decode cL_house 0 = .ok (.aload_n 2, 1)) ∧ (decode cL_house 1 = .ok (.aload_n 0, 1)) ∧ (decode cL_house 2 = .ok (.iload_n 1, 1)) ∧ (decode cL_house 3 = .ok (.invokevirtual 182, 3)) ∧ (decode cL_house 6 = .ok (.i2l, 1)) ∧ (decode cL_house 7 = .ok (.putfield 13, 3)) ∧ (decode cL_house 10 = .ok (.goto 6, 3)) ∧ (decode cL_house 13 = .ok (.astore_n 3, 1)) ∧ (decode cL_house 14 = .ok (.iconst 1, 1)) ∧ (decode cL_house 15 = .ok (.ireturn, 1)) ∧ (decode cL_house 16 = .ok (.iconst 0, 1)) ∧ (decode cL_house 17 = .ok (.ireturn, 1)) ∧ (decode cL_law 0 = .ok (.new 8, 3)) ∧ (decode cL_law 3 = .ok (.dup, 1)) ∧ (decode cL_law 4 = .ok (.invokespecial 185, 3)) ∧ (decode cL_law 7 = .ok (.astore_n 1, 1)) ∧ (decode cL_law 8 = .ok (.new 186, 3)) ∧ (decode cL_law 11 = .ok (.dup, 1)) ∧ (decode cL_law 12 = .ok (.invokespecial 188, 3)) ∧ (decode cL_law 15 = .ok (.astore_n 2, 1)) ∧ (decode cL_law 16 = .ok (.new 14, 3)) ∧ (decode cL_law 19 = .ok (.dup, 1)) ∧ (decode cL_law 20 = .ok (.invokespecial 189, 3)) ∧ (decode cL_law 23 = .ok (.astore_n 3, 1)) ∧ (decode cL_law 24 = .ok (.iconst 0, 1)) ∧ (decode cL_law 25 = .ok (.istore 4, 2)) ∧ (decode cL_law 27 = .ok (.iload 4, 2)) ∧ (decode cL_law 29 = .ok (.aload_n 0, 1)) ∧ (decode cL_law 30 = .ok (.arraylength, 1)) ∧ (decode cL_law 31 = .ok (.bipush 6, 2)) ∧ (decode cL_law 33 = .ok (.isub, 1)) ∧ (decode cL_law 34 = .ok (.if_icmp .gt 2444, 3)) ∧ (decode cL_law 37 = .ok (.aload_n 0, 1)) := by decide +kernel
theorem dL_nth_8 : decode cL_nth 8 = .ok (.putfield 13, 3) := dgL_17.1
theorem dL_nth_11 : decode cL_nth 11 = .ok (.goto 7, 3) := dgL_17.2.1
theorem dL_nth_14 : decode cL_nth 14 = .ok (.astore 4, 2) := dgL_17.2.2.1
theorem dL_nth_16 : decode cL_nth 16 = .ok (.iconst 1, 1) := dgL_17.2.2.2.1
theorem dL_nth_17 : decode cL_nth 17 = .ok (.ireturn, 1) := dgL_17.2.2.2.2.1
theorem dL_nth_18 : decode cL_nth 18 = .ok (.iconst 0, 1) := dgL_17.2.2.2.2.2.1
theorem dL_nth_19 : decode cL_nth 19 = .ok (.ireturn, 1) := dgL_17.2.2.2.2.2.2.1
theorem dL_house_0 : decode cL_house 0 = .ok (.aload_n 2, 1) := dgL_17.2.2.2.2.2.2.2.1
theorem dL_house_1 : decode cL_house 1 = .ok (.aload_n 0, 1) := dgL_17.2.2.2.2.2.2.2.2.1
theorem dL_house_2 : decode cL_house 2 = .ok (.iload_n 1, 1) := dgL_17.2.2.2.2.2.2.2.2.2.1
theorem dL_house_3 : decode cL_house 3 = .ok (.invokevirtual 182, 3) := dgL_17.2.2.2.2.2.2.2.2.2.2.1
theorem dL_house_6 : decode cL_house 6 = .ok (.i2l, 1) := dgL_17.2.2.2.2.2.2.2.2.2.2.2.1
theorem dL_house_7 : decode cL_house 7 = .ok (.putfield 13, 3) := dgL_17.2.2.2.2.2.2.2.2.2.2.2.2.1
theorem dL_house_10 : decode cL_house 10 = .ok (.goto 6, 3) := dgL_17.2.2.2.2.2.2.2.2.2.2.2.2.2.1
theorem dL_house_13 : decode cL_house 13 = .ok (.astore_n 3, 1) := dgL_17.2.2.2.2.2.2.2.2.2.2.2.2.2.2.1
theorem dL_house_14 : decode cL_house 14 = .ok (.iconst 1, 1) := dgL_17.2.2.2.2.2.2.2.2.2.2.2.2.2.2.2.1
theorem dL_house_15 : decode cL_house 15 = .ok (.ireturn, 1) := dgL_17.2.2.2.2.2.2.2.2.2.2.2.2.2.2.2.2.1
theorem dL_house_16 : decode cL_house 16 = .ok (.iconst 0, 1) := dgL_17.2.2.2.2.2.2.2.2.2.2.2.2.2.2.2.2.2.1
theorem dL_house_17 : decode cL_house 17 = .ok (.ireturn, 1) := dgL_17.2.2.2.2.2.2.2.2.2.2.2.2.2.2.2.2.2.2.1
theorem dL_law_0 : decode cL_law 0 = .ok (.new 8, 3) := dgL_17.2.2.2.2.2.2.2.2.2.2.2.2.2.2.2.2.2.2.2.1
theorem dL_law_3 : decode cL_law 3 = .ok (.dup, 1) := dgL_17.2.2.2.2.2.2.2.2.2.2.2.2.2.2.2.2.2.2.2.2.1
theorem dL_law_4 : decode cL_law 4 = .ok (.invokespecial 185, 3) := dgL_17.2.2.2.2.2.2.2.2.2.2.2.2.2.2.2.2.2.2.2.2.2.1
theorem dL_law_7 : decode cL_law 7 = .ok (.astore_n 1, 1) := dgL_17.2.2.2.2.2.2.2.2.2.2.2.2.2.2.2.2.2.2.2.2.2.2.1
theorem dL_law_8 : decode cL_law 8 = .ok (.new 186, 3) := dgL_17.2.2.2.2.2.2.2.2.2.2.2.2.2.2.2.2.2.2.2.2.2.2.2.1
theorem dL_law_11 : decode cL_law 11 = .ok (.dup, 1) := dgL_17.2.2.2.2.2.2.2.2.2.2.2.2.2.2.2.2.2.2.2.2.2.2.2.2.1
theorem dL_law_12 : decode cL_law 12 = .ok (.invokespecial 188, 3) := dgL_17.2.2.2.2.2.2.2.2.2.2.2.2.2.2.2.2.2.2.2.2.2.2.2.2.2.1
theorem dL_law_15 : decode cL_law 15 = .ok (.astore_n 2, 1) := dgL_17.2.2.2.2.2.2.2.2.2.2.2.2.2.2.2.2.2.2.2.2.2.2.2.2.2.2.1
theorem dL_law_16 : decode cL_law 16 = .ok (.new 14, 3) := dgL_17.2.2.2.2.2.2.2.2.2.2.2.2.2.2.2.2.2.2.2.2.2.2.2.2.2.2.2.1
theorem dL_law_19 : decode cL_law 19 = .ok (.dup, 1) := dgL_17.2.2.2.2.2.2.2.2.2.2.2.2.2.2.2.2.2.2.2.2.2.2.2.2.2.2.2.2.1
theorem dL_law_20 : decode cL_law 20 = .ok (.invokespecial 189, 3) := dgL_17.2.2.2.2.2.2.2.2.2.2.2.2.2.2.2.2.2.2.2.2.2.2.2.2.2.2.2.2.2.1
theorem dL_law_23 : decode cL_law 23 = .ok (.astore_n 3, 1) := dgL_17.2.2.2.2.2.2.2.2.2.2.2.2.2.2.2.2.2.2.2.2.2.2.2.2.2.2.2.2.2.2.1
theorem dL_law_24 : decode cL_law 24 = .ok (.iconst 0, 1) := dgL_17.2.2.2.2.2.2.2.2.2.2.2.2.2.2.2.2.2.2.2.2.2.2.2.2.2.2.2.2.2.2.2.1
theorem dL_law_25 : decode cL_law 25 = .ok (.istore 4, 2) := dgL_17.2.2.2.2.2.2.2.2.2.2.2.2.2.2.2.2.2.2.2.2.2.2.2.2.2.2.2.2.2.2.2.2.1
theorem dL_law_27 : decode cL_law 27 = .ok (.iload 4, 2) := dgL_17.2.2.2.2.2.2.2.2.2.2.2.2.2.2.2.2.2.2.2.2.2.2.2.2.2.2.2.2.2.2.2.2.2.1
theorem dL_law_29 : decode cL_law 29 = .ok (.aload_n 0, 1) := dgL_17.2.2.2.2.2.2.2.2.2.2.2.2.2.2.2.2.2.2.2.2.2.2.2.2.2.2.2.2.2.2.2.2.2.2.1
theorem dL_law_30 : decode cL_law 30 = .ok (.arraylength, 1) := dgL_17.2.2.2.2.2.2.2.2.2.2.2.2.2.2.2.2.2.2.2.2.2.2.2.2.2.2.2.2.2.2.2.2.2.2.2.1
theorem dL_law_31 : decode cL_law 31 = .ok (.bipush 6, 2) := dgL_17.2.2.2.2.2.2.2.2.2.2.2.2.2.2.2.2.2.2.2.2.2.2.2.2.2.2.2.2.2.2.2.2.2.2.2.2.1
theorem dL_law_33 : decode cL_law 33 = .ok (.isub, 1) := dgL_17.2.2.2.2.2.2.2.2.2.2.2.2.2.2.2.2.2.2.2.2.2.2.2.2.2.2.2.2.2.2.2.2.2.2.2.2.2.1
theorem dL_law_34 : decode cL_law 34 = .ok (.if_icmp .gt 2444, 3) := dgL_17.2.2.2.2.2.2.2.2.2.2.2.2.2.2.2.2.2.2.2.2.2.2.2.2.2.2.2.2.2.2.2.2.2.2.2.2.2.2.1
theorem dL_law_37 : decode cL_law 37 = .ok (.aload_n 0, 1) := dgL_17.2.2.2.2.2.2.2.2.2.2.2.2.2.2.2.2.2.2.2.2.2.2.2.2.2.2.2.2.2.2.2.2.2.2.2.2.2.2.2
theorem dgL_18 : (decode cL_law 38 = .ok (.iload 4, 2)) ∧ (decode cL_law 40 = .ok (.iaload, 1)) ∧ (decode cL_law 41 = .ok (.bipush 63, 2)) ∧ (decode cL_law 43 = .ok (.iand, 1)) ∧ (decode cL_law 44 = .ok (.tableswitch 2428 0 57 #[248, 324, 364, 404, 432, 460, 528, 556, 584, 636, 676, 716, 756, 796, 836, 864, 892, 908, 921, 985, 1013, 1041, 1069, 1097, 1125, 1181, 1237, 1293, 1361, 1398, 1426, 1466, 1506, 1558, 1598, 1626, 1654, 1694, 1734, 1762, 1790, 1858, 1898, 1938, 1963, 1988, 2013, 2038, 2094, 2134, 2174, 2214, 2254, 2294, 2334, 2374, 2402, 2415], 248)) ∧ (decode cL_law 292 = .ok (.aload_n 1, 1)) ∧ (decode cL_law 293 = .ok (.aload_n 0, 1)) ∧ (decode cL_law 294 = .ok (.iload 4, 2)) ∧ (decode cL_law 296 = .ok (.iconst 1, 1)) ∧ (decode cL_law 297 = .ok (.iadd, 1)) ∧ (decode cL_law 298 = .ok (.iaload, 1)) ∧ (decode cL_law 299 = .ok (.aload_n 0, 1)) ∧ (decode cL_law 300 = .ok (.iload 4, 2)) ∧ (decode cL_law 302 = .ok (.iconst 2, 1)) ∧ (decode cL_law 303 = .ok (.iadd, 1)) ∧ (decode cL_law 304 = .ok (.iaload, 1)) ∧ (decode cL_law 305 = .ok (.aload_n 0, 1)) ∧ (decode cL_law 306 = .ok (.iload 4, 2)) ∧ (decode cL_law 308 = .ok (.iconst 3, 1)) ∧ (decode cL_law 309 = .ok (.iadd, 1)) ∧ (decode cL_law 310 = .ok (.iaload, 1)) ∧ (decode cL_law 311 = .ok (.aload_n 0, 1)) ∧ (decode cL_law 312 = .ok (.iload 4, 2)) ∧ (decode cL_law 314 = .ok (.iconst 4, 1)) ∧ (decode cL_law 315 = .ok (.iadd, 1)) ∧ (decode cL_law 316 = .ok (.iaload, 1)) ∧ (decode cL_law 317 = .ok (.aload_n 0, 1)) ∧ (decode cL_law 318 = .ok (.iload 4, 2)) ∧ (decode cL_law 320 = .ok (.iconst 5, 1)) ∧ (decode cL_law 321 = .ok (.iadd, 1)) ∧ (decode cL_law 322 = .ok (.iaload, 1)) ∧ (decode cL_law 323 = .ok (.aload_n 3, 1)) ∧ (decode cL_law 324 = .ok (.invokestatic 190, 3)) ∧ (decode cL_law 327 = .ok (.istore 5, 2)) ∧ (decode cL_law 329 = .ok (.aload_n 2, 1)) ∧ (decode cL_law 330 = .ok (.aload_n 0, 1)) ∧ (decode cL_law 331 = .ok (.iload 4, 2)) ∧ (decode cL_law 333 = .ok (.iconst 1, 1)) ∧ (decode cL_law 334 = .ok (.iadd, 1)) ∧ (decode cL_law 335 = .ok (.iaload, 1)) := by decide +kernel
theorem dL_law_38 : decode cL_law 38 = .ok (.iload 4, 2) := dgL_18.1
theorem dL_law_40 : decode cL_law 40 = .ok (.iaload, 1) := dgL_18.2.1
theorem dL_law_41 : decode cL_law 41 = .ok (.bipush 63, 2) := dgL_18.2.2.1
theorem dL_law_43 : decode cL_law 43 = .ok (.iand, 1) := dgL_18.2.2.2.1
theorem dL_law_44 : decode cL_law 44 = .ok (.tableswitch 2428 0 57 #[248, 324, 364, 404, 432, 460, 528, 556, 584, 636, 676, 716, 756, 796, 836, 864, 892, 908, 921, 985, 1013, 1041, 1069, 1097, 1125, 1181, 1237, 1293, 1361, 1398, 1426, 1466, 1506, 1558, 1598, 1626, 1654, 1694, 1734, 1762, 1790, 1858, 1898, 1938, 1963, 1988, 2013, 2038, 2094, 2134, 2174, 2214, 2254, 2294, 2334, 2374, 2402, 2415], 248) := dgL_18.2.2.2.2.1
theorem dL_law_292 : decode cL_law 292 = .ok (.aload_n 1, 1) := dgL_18.2.2.2.2.2.1
theorem dL_law_293 : decode cL_law 293 = .ok (.aload_n 0, 1) := dgL_18.2.2.2.2.2.2.1
theorem dL_law_294 : decode cL_law 294 = .ok (.iload 4, 2) := dgL_18.2.2.2.2.2.2.2.1
theorem dL_law_296 : decode cL_law 296 = .ok (.iconst 1, 1) := dgL_18.2.2.2.2.2.2.2.2.1
theorem dL_law_297 : decode cL_law 297 = .ok (.iadd, 1) := dgL_18.2.2.2.2.2.2.2.2.2.1
theorem dL_law_298 : decode cL_law 298 = .ok (.iaload, 1) := dgL_18.2.2.2.2.2.2.2.2.2.2.1
theorem dL_law_299 : decode cL_law 299 = .ok (.aload_n 0, 1) := dgL_18.2.2.2.2.2.2.2.2.2.2.2.1
theorem dL_law_300 : decode cL_law 300 = .ok (.iload 4, 2) := dgL_18.2.2.2.2.2.2.2.2.2.2.2.2.1
theorem dL_law_302 : decode cL_law 302 = .ok (.iconst 2, 1) := dgL_18.2.2.2.2.2.2.2.2.2.2.2.2.2.1
theorem dL_law_303 : decode cL_law 303 = .ok (.iadd, 1) := dgL_18.2.2.2.2.2.2.2.2.2.2.2.2.2.2.1
theorem dL_law_304 : decode cL_law 304 = .ok (.iaload, 1) := dgL_18.2.2.2.2.2.2.2.2.2.2.2.2.2.2.2.1
theorem dL_law_305 : decode cL_law 305 = .ok (.aload_n 0, 1) := dgL_18.2.2.2.2.2.2.2.2.2.2.2.2.2.2.2.2.1
theorem dL_law_306 : decode cL_law 306 = .ok (.iload 4, 2) := dgL_18.2.2.2.2.2.2.2.2.2.2.2.2.2.2.2.2.2.1
theorem dL_law_308 : decode cL_law 308 = .ok (.iconst 3, 1) := dgL_18.2.2.2.2.2.2.2.2.2.2.2.2.2.2.2.2.2.2.1
theorem dL_law_309 : decode cL_law 309 = .ok (.iadd, 1) := dgL_18.2.2.2.2.2.2.2.2.2.2.2.2.2.2.2.2.2.2.2.1
theorem dL_law_310 : decode cL_law 310 = .ok (.iaload, 1) := dgL_18.2.2.2.2.2.2.2.2.2.2.2.2.2.2.2.2.2.2.2.2.1
theorem dL_law_311 : decode cL_law 311 = .ok (.aload_n 0, 1) := dgL_18.2.2.2.2.2.2.2.2.2.2.2.2.2.2.2.2.2.2.2.2.2.1
theorem dL_law_312 : decode cL_law 312 = .ok (.iload 4, 2) := dgL_18.2.2.2.2.2.2.2.2.2.2.2.2.2.2.2.2.2.2.2.2.2.2.1
theorem dL_law_314 : decode cL_law 314 = .ok (.iconst 4, 1) := dgL_18.2.2.2.2.2.2.2.2.2.2.2.2.2.2.2.2.2.2.2.2.2.2.2.1
theorem dL_law_315 : decode cL_law 315 = .ok (.iadd, 1) := dgL_18.2.2.2.2.2.2.2.2.2.2.2.2.2.2.2.2.2.2.2.2.2.2.2.2.1
theorem dL_law_316 : decode cL_law 316 = .ok (.iaload, 1) := dgL_18.2.2.2.2.2.2.2.2.2.2.2.2.2.2.2.2.2.2.2.2.2.2.2.2.2.1
theorem dL_law_317 : decode cL_law 317 = .ok (.aload_n 0, 1) := dgL_18.2.2.2.2.2.2.2.2.2.2.2.2.2.2.2.2.2.2.2.2.2.2.2.2.2.2.1
theorem dL_law_318 : decode cL_law 318 = .ok (.iload 4, 2) := dgL_18.2.2.2.2.2.2.2.2.2.2.2.2.2.2.2.2.2.2.2.2.2.2.2.2.2.2.2.1
theorem dL_law_320 : decode cL_law 320 = .ok (.iconst 5, 1) := dgL_18.2.2.2.2.2.2.2.2.2.2.2.2.2.2.2.2.2.2.2.2.2.2.2.2.2.2.2.2.1
theorem dL_law_321 : decode cL_law 321 = .ok (.iadd, 1) := dgL_18.2.2.2.2.2.2.2.2.2.2.2.2.2.2.2.2.2.2.2.2.2.2.2.2.2.2.2.2.2.1
theorem dL_law_322 : decode cL_law 322 = .ok (.iaload, 1) := dgL_18.2.2.2.2.2.2.2.2.2.2.2.2.2.2.2.2.2.2.2.2.2.2.2.2.2.2.2.2.2.2.1
theorem dL_law_323 : decode cL_law 323 = .ok (.aload_n 3, 1) := dgL_18.2.2.2.2.2.2.2.2.2.2.2.2.2.2.2.2.2.2.2.2.2.2.2.2.2.2.2.2.2.2.2.1
theorem dL_law_324 : decode cL_law 324 = .ok (.invokestatic 190, 3) := dgL_18.2.2.2.2.2.2.2.2.2.2.2.2.2.2.2.2.2.2.2.2.2.2.2.2.2.2.2.2.2.2.2.2.1
theorem dL_law_327 : decode cL_law 327 = .ok (.istore 5, 2) := dgL_18.2.2.2.2.2.2.2.2.2.2.2.2.2.2.2.2.2.2.2.2.2.2.2.2.2.2.2.2.2.2.2.2.2.1
theorem dL_law_329 : decode cL_law 329 = .ok (.aload_n 2, 1) := dgL_18.2.2.2.2.2.2.2.2.2.2.2.2.2.2.2.2.2.2.2.2.2.2.2.2.2.2.2.2.2.2.2.2.2.2.1
theorem dL_law_330 : decode cL_law 330 = .ok (.aload_n 0, 1) := dgL_18.2.2.2.2.2.2.2.2.2.2.2.2.2.2.2.2.2.2.2.2.2.2.2.2.2.2.2.2.2.2.2.2.2.2.2.1
theorem dL_law_331 : decode cL_law 331 = .ok (.iload 4, 2) := dgL_18.2.2.2.2.2.2.2.2.2.2.2.2.2.2.2.2.2.2.2.2.2.2.2.2.2.2.2.2.2.2.2.2.2.2.2.2.1
theorem dL_law_333 : decode cL_law 333 = .ok (.iconst 1, 1) := dgL_18.2.2.2.2.2.2.2.2.2.2.2.2.2.2.2.2.2.2.2.2.2.2.2.2.2.2.2.2.2.2.2.2.2.2.2.2.2.1
theorem dL_law_334 : decode cL_law 334 = .ok (.iadd, 1) := dgL_18.2.2.2.2.2.2.2.2.2.2.2.2.2.2.2.2.2.2.2.2.2.2.2.2.2.2.2.2.2.2.2.2.2.2.2.2.2.2.1
theorem dL_law_335 : decode cL_law 335 = .ok (.iaload, 1) := dgL_18.2.2.2.2.2.2.2.2.2.2.2.2.2.2.2.2.2.2.2.2.2.2.2.2.2.2.2.2.2.2.2.2.2.2.2.2.2.2.2
theorem dgL_19 : (decode cL_law 336 = .ok (.aload_n 0, 1)) ∧ (decode cL_law 337 = .ok (.iload 4, 2)) ∧ (decode cL_law 339 = .ok (.iconst 2, 1)) ∧ (decode cL_law 340 = .ok (.iadd, 1)) ∧ (decode cL_law 341 = .ok (.iaload, 1)) ∧ (decode cL_law 342 = .ok (.aload_n 0, 1)) ∧ (decode cL_law 343 = .ok (.iload 4, 2)) ∧ (decode cL_law 345 = .ok (.iconst 3, 1)) ∧ (decode cL_law 346 = .ok (.iadd, 1)) ∧ (decode cL_law 347 = .ok (.iaload, 1)) ∧ (decode cL_law 348 = .ok (.aload_n 0, 1)) ∧ (decode cL_law 349 = .ok (.iload 4, 2)) ∧ (decode cL_law 351 = .ok (.iconst 4, 1)) ∧ (decode cL_law 352 = .ok (.iadd, 1)) ∧ (decode cL_law 353 = .ok (.iaload, 1)) ∧ (decode cL_law 354 = .ok (.aload_n 0, 1)) ∧ (decode cL_law 355 = .ok (.iload 4, 2)) ∧ (decode cL_law 357 = .ok (.iconst 5, 1)) ∧ (decode cL_law 358 = .ok (.iadd, 1)) ∧ (decode cL_law 359 = .ok (.iaload, 1)) ∧ (decode cL_law 360 = .ok (.invokevirtual 195, 3)) ∧ (decode cL_law 363 = .ok (.istore 6, 2)) ∧ (decode cL_law 365 = .ok (.goto 2107, 3)) ∧ (decode cL_law 368 = .ok (.aload_n 1, 1)) ∧ (decode cL_law 369 = .ok (.aload_n 0, 1)) ∧ (decode cL_law 370 = .ok (.iload 4, 2)) ∧ (decode cL_law 372 = .ok (.iconst 1, 1)) ∧ (decode cL_law 373 = .ok (.iadd, 1)) ∧ (decode cL_law 374 = .ok (.iaload, 1)) ∧ (decode cL_law 375 = .ok (.aload_n 0, 1)) ∧ (decode cL_law 376 = .ok (.iload 4, 2)) ∧ (decode cL_law 378 = .ok (.iconst 2, 1)) ∧ (decode cL_law 379 = .ok (.iadd, 1)) ∧ (decode cL_law 380 = .ok (.iaload, 1)) ∧ (decode cL_law 381 = .ok (.aload_n 3, 1)) ∧ (decode cL_law 382 = .ok (.invokestatic 196, 3)) ∧ (decode cL_law 385 = .ok (.istore 5, 2)) ∧ (decode cL_law 387 = .ok (.aload_n 2, 1)) ∧ (decode cL_law 388 = .ok (.aload_n 0, 1)) ∧ (decode cL_law 389 = .ok (.iload 4, 2)) := by decide +kernel
theorem dL_law_336 : decode cL_law 336 = .ok (.aload_n 0, 1) := dgL_19.1
theorem dL_law_337 : decode cL_law 337 = .ok (.iload 4, 2) := dgL_19.2.1
theorem dL_law_339 : decode cL_law 339 = .ok (.iconst 2, 1) := dgL_19.2.2.1
theorem dL_law_340 : decode cL_law 340 = .ok (.iadd, 1) := dgL_19.2.2.2.1
theorem dL_law_341 : decode cL_law 341 = .ok (.iaload, 1) := dgL_19.2.2.2.2.1
theorem dL_law_342 : decode cL_law 342 = .ok (.aload_n 0, 1) := dgL_19.2.2.2.2.2.1
theorem dL_law_343 : decode cL_law 343 = .ok (.iload 4, 2) := dgL_19.2.2.2.2.2.2.1
theorem dL_law_345 : decode cL_law 345 = .ok (.iconst 3, 1) := dgL_19.2.2.2.2.2.2.2.1
theorem dL_law_346 : decode cL_law 346 = .ok (.iadd, 1) := dgL_19.2.2.2.2.2.2.2.2.1
theorem dL_law_347 : decode cL_law 347 = .ok (.iaload, 1) := dgL_19.2.2.2.2.2.2.2.2.2.1
theorem dL_law_348 : decode cL_law 348 = .ok (.aload_n 0, 1) := dgL_19.2.2.2.2.2.2.2.2.2.2.1
theorem dL_law_349 : decode cL_law 349 = .ok (.iload 4, 2) := dgL_19.2.2.2.2.2.2.2.2.2.2.2.1
theorem dL_law_351 : decode cL_law 351 = .ok (.iconst 4, 1) := dgL_19.2.2.2.2.2.2.2.2.2.2.2.2.1
theorem dL_law_352 : decode cL_law 352 = .ok (.iadd, 1) := dgL_19.2.2.2.2.2.2.2.2.2.2.2.2.2.1
theorem dL_law_353 : decode cL_law 353 = .ok (.iaload, 1) := dgL_19.2.2.2.2.2.2.2.2.2.2.2.2.2.2.1
theorem dL_law_354 : decode cL_law 354 = .ok (.aload_n 0, 1) := dgL_19.2.2.2.2.2.2.2.2.2.2.2.2.2.2.2.1
theorem dL_law_355 : decode cL_law 355 = .ok (.iload 4, 2) := dgL_19.2.2.2.2.2.2.2.2.2.2.2.2.2.2.2.2.1
theorem dL_law_357 : decode cL_law 357 = .ok (.iconst 5, 1) := dgL_19.2.2.2.2.2.2.2.2.2.2.2.2.2.2.2.2.2.1
theorem dL_law_358 : decode cL_law 358 = .ok (.iadd, 1) := dgL_19.2.2.2.2.2.2.2.2.2.2.2.2.2.2.2.2.2.2.1
theorem dL_law_359 : decode cL_law 359 = .ok (.iaload, 1) := dgL_19.2.2.2.2.2.2.2.2.2.2.2.2.2.2.2.2.2.2.2.1
theorem dL_law_360 : decode cL_law 360 = .ok (.invokevirtual 195, 3) := dgL_19.2.2.2.2.2.2.2.2.2.2.2.2.2.2.2.2.2.2.2.2.1
theorem dL_law_363 : decode cL_law 363 = .ok (.istore 6, 2) := dgL_19.2.2.2.2.2.2.2.2.2.2.2.2.2.2.2.2.2.2.2.2.2.1
theorem dL_law_365 : decode cL_law 365 = .ok (.goto 2107, 3) := dgL_19.2.2.2.2.2.2.2.2.2.2.2.2.2.2.2.2.2.2.2.2.2.2.1
theorem dL_law_368 : decode cL_law 368 = .ok (.aload_n 1, 1) := dgL_19.2.2.2.2.2.2.2.2.2.2.2.2.2.2.2.2.2.2.2.2.2.2.2.1
theorem dL_law_369 : decode cL_law 369 = .ok (.aload_n 0, 1) := dgL_19.2.2.2.2.2.2.2.2.2.2.2.2.2.2.2.2.2.2.2.2.2.2.2.2.1
theorem dL_law_370 : decode cL_law 370 = .ok (.iload 4, 2) := dgL_19.2.2.2.2.2.2.2.2.2.2.2.2.2.2.2.2.2.2.2.2.2.2.2.2.2.1
theorem dL_law_372 : decode cL_law 372 = .ok (.iconst 1, 1) := dgL_19.2.2.2.2.2.2.2.2.2.2.2.2.2.2.2.2.2.2.2.2.2.2.2.2.2.2.1
theorem dL_law_373 : decode cL_law 373 = .ok (.iadd, 1) := dgL_19.2.2.2.2.2.2.2.2.2.2.2.2.2.2.2.2.2.2.2.2.2.2.2.2.2.2.2.1
theorem dL_law_374 : decode cL_law 374 = .ok (.iaload, 1) := dgL_19.2.2.2.2.2.2.2.2.2.2.2.2.2.2.2.2.2.2.2.2.2.2.2.2.2.2.2.2.1
theorem dL_law_375 : decode cL_law 375 = .ok (.aload_n 0, 1) := dgL_19.2.2.2.2.2.2.2.2.2.2.2.2.2.2.2.2.2.2.2.2.2.2.2.2.2.2.2.2.2.1
theorem dL_law_376 : decode cL_law 376 = .ok (.iload 4, 2) := dgL_19.2.2.2.2.2.2.2.2.2.2.2.2.2.2.2.2.2.2.2.2.2.2.2.2.2.2.2.2.2.2.1
theorem dL_law_378 : decode cL_law 378 = .ok (.iconst 2, 1) := dgL_19.2.2.2.2.2.2.2.2.2.2.2.2.2.2.2.2.2.2.2.2.2.2.2.2.2.2.2.2.2.2.2.1
theorem dL_law_379 : decode cL_law 379 = .ok (.iadd, 1) := dgL_19.2.2.2.2.2.2.2.2.2.2.2.2.2.2.2.2.2.2.2.2.2.2.2.2.2.2.2.2.2.2.2.2.1
theorem dL_law_380 : decode cL_law 380 = .ok (.iaload, 1) := dgL_19.2.2.2.2.2.2.2.2.2.2.2.2.2.2.2.2.2.2.2.2.2.2.2.2.2.2.2.2.2.2.2.2.2.1
theorem dL_law_381 : decode cL_law 381 = .ok (.aload_n 3, 1) := dgL_19.2.2.2.2.2.2.2.2.2.2.2.2.2.2.2.2.2.2.2.2.2.2.2.2.2.2.2.2.2.2.2.2.2.2.1
theorem dL_law_382 : decode cL_law 382 = .ok (.invokestatic 196, 3) := dgL_19.2.2.2.2.2.2.2.2.2.2.2.2.2.2.2.2.2.2.2.2.2.2.2.2.2.2.2.2.2.2.2.2.2.2.2.1
theorem dL_law_385 : decode cL_law 385 = .ok (.istore 5, 2) := dgL_19.2.2.2.2.2.2.2.2.2.2.2.2.2.2.2.2.2.2.2.2.2.2.2.2.2.2.2.2.2.2.2.2.2.2.2.2.1
theorem dL_law_387 : decode cL_law 387 = .ok (.aload_n 2, 1) := dgL_19.2.2.2.2.2.2.2.2.2.2.2.2.2.2.2.2.2.2.2.2.2.2.2.2.2.2.2.2.2.2.2.2.2.2.2.2.2.1
theorem dL_law_388 : decode cL_law 388 = .ok (.aload_n 0, 1) := dgL_19.2.2.2.2.2.2.2.2.2.2.2.2.2.2.2.2.2.2.2.2.2.2.2.2.2.2.2.2.2.2.2.2.2.2.2.2.2.2.1
theorem dL_law_389 : decode cL_law 389 = .ok (.iload 4, 2) := dgL_19.2.2.2.2.2.2.2.2.2.2.2.2.2.2.2.2.2.2.2.2.2.2.2.2.2.2.2.2.2.2.2.2.2.2.2.2.2.2.2
theorem dgL_20 : (decode cL_law 391 = .ok (.iconst 1, 1)) ∧ (decode cL_law 392 = .ok (.iadd, 1)) ∧ (decode cL_law 393 = .ok (.iaload, 1)) ∧ (decode cL_law 394 = .ok (.aload_n 0, 1)) ∧ (decode cL_law 395 = .ok (.iload 4, 2)) ∧ (decode cL_law 397 = .ok (.iconst 2, 1)) ∧ (decode cL_law 398 = .ok (.iadd, 1)) ∧ (decode cL_law 399 = .ok (.iaload, 1)) ∧ (decode cL_law 400 = .ok (.invokevirtual 199, 3)) ∧ (decode cL_law 403 = .ok (.istore 6, 2)) ∧ (decode cL_law 405 = .ok (.goto 2067, 3)) ∧ (decode cL_law 408 = .ok (.aload_n 1, 1)) ∧ (decode cL_law 409 = .ok (.aload_n 0, 1)) ∧ (decode cL_law 410 = .ok (.iload 4, 2)) ∧ (decode cL_law 412 = .ok (.iconst 1, 1)) ∧ (decode cL_law 413 = .ok (.iadd, 1)) ∧ (decode cL_law 414 = .ok (.iaload, 1)) ∧ (decode cL_law 415 = .ok (.aload_n 0, 1)) ∧ (decode cL_law 416 = .ok (.iload 4, 2)) ∧ (decode cL_law 418 = .ok (.iconst 2, 1)) ∧ (decode cL_law 419 = .ok (.iadd, 1)) ∧ (decode cL_law 420 = .ok (.iaload, 1)) ∧ (decode cL_law 421 = .ok (.aload_n 3, 1)) ∧ (decode cL_law 422 = .ok (.invokestatic 200, 3)) ∧ (decode cL_law 425 = .ok (.istore 5, 2)) ∧ (decode cL_law 427 = .ok (.aload_n 2, 1)) ∧ (decode cL_law 428 = .ok (.aload_n 0, 1)) ∧ (decode cL_law 429 = .ok (.iload 4, 2)) ∧ (decode cL_law 431 = .ok (.iconst 1, 1)) ∧ (decode cL_law 432 = .ok (.iadd, 1)) ∧ (decode cL_law 433 = .ok (.iaload, 1)) ∧ (decode cL_law 434 = .ok (.aload_n 0, 1)) ∧ (decode cL_law 435 = .ok (.iload 4, 2)) ∧ (decode cL_law 437 = .ok (.iconst 2, 1)) ∧ (decode cL_law 438 = .ok (.iadd, 1)) ∧ (decode cL_law 439 = .ok (.iaload, 1)) ∧ (decode cL_law 440 = .ok (.invokevirtual 202, 3)) ∧ (decode cL_law 443 = .ok (.istore 6, 2)) ∧ (decode cL_law 445 = .ok (.goto 2027, 3)) ∧ (decode cL_law 448 = .ok (.aload_n 1, 1)) := by decide +kernel
theorem dL_law_391 : decode cL_law 391 = .ok (.iconst 1, 1) := dgL_20.1
theorem dL_law_392 : decode cL_law 392 = .ok (.iadd, 1) := dgL_20.2.1
theorem dL_law_393 : decode cL_law 393 = .ok (.iaload, 1) := dgL_20.2.2.1
theorem dL_law_394 : decode cL_law 394 = .ok (.aload_n 0, 1) := dgL_20.2.2.2.1
theorem dL_law_395 : decode cL_law 395 = .ok (.iload 4, 2) := dgL_20.2.2.2.2.1
theorem dL_law_397 : decode cL_law 397 = .ok (.iconst 2, 1) := dgL_20.2.2.2.2.2.1
theorem dL_law_398 : decode cL_law 398 = .ok (.iadd, 1) := dgL_20.2.2.2.2.2.2.1
theorem dL_law_399 : decode cL_law 399 = .ok (.iaload, 1) := dgL_20.2.2.2.2.2.2.2.1
theorem dL_law_400 : decode cL_law 400 = .ok (.invokevirtual 199, 3) := dgL_20.2.2.2.2.2.2.2.2.1
theorem dL_law_403 : decode cL_law 403 = .ok (.istore 6, 2) := dgL_20.2.2.2.2.2.2.2.2.2.1
theorem dL_law_405 : decode cL_law 405 = .ok (.goto 2067, 3) := dgL_20.2.2.2.2.2.2.2.2.2.2.1
theorem dL_law_408 : decode cL_law 408 = .ok (.aload_n 1, 1) := dgL_20.2.2.2.2.2.2.2.2.2.2.2.1
theorem dL_law_409 : decode cL_law 409 = .ok (.aload_n 0, 1) := dgL_20.2.2.2.2.2.2.2.2.2.2.2.2.1
theorem dL_law_410 : decode cL_law 410 = .ok (.iload 4, 2) := dgL_20.2.2.2.2.2.2.2.2.2.2.2.2.2.1
theorem dL_law_412 : decode cL_law 412 = .ok (.iconst 1, 1) := dgL_20.2.2.2.2.2.2.2.2.2.2.2.2.2.2.1
theorem dL_law_413 : decode cL_law 413 = .ok (.iadd, 1) := dgL_20.2.2.2.2.2.2.2.2.2.2.2.2.2.2.2.1
theorem dL_law_414 : decode cL_law 414 = .ok (.iaload, 1) := dgL_20.2.2.2.2.2.2.2.2.2.2.2.2.2.2.2.2.1
theorem dL_law_415 : decode cL_law 415 = .ok (.aload_n 0, 1) := dgL_20.2.2.2.2.2.2.2.2.2.2.2.2.2.2.2.2.2.1
theorem dL_law_416 : decode cL_law 416 = .ok (.iload 4, 2) := dgL_20.2.2.2.2.2.2.2.2.2.2.2.2.2.2.2.2.2.2.1
theorem dL_law_418 : decode cL_law 418 = .ok (.iconst 2, 1) := dgL_20.2.2.2.2.2.2.2.2.2.2.2.2.2.2.2.2.2.2.2.1
theorem dL_law_419 : decode cL_law 419 = .ok (.iadd, 1) := dgL_20.2.2.2.2.2.2.2.2.2.2.2.2.2.2.2.2.2.2.2.2.1
theorem dL_law_420 : decode cL_law 420 = .ok (.iaload, 1) := dgL_20.2.2.2.2.2.2.2.2.2.2.2.2.2.2.2.2.2.2.2.2.2.1
theorem dL_law_421 : decode cL_law 421 = .ok (.aload_n 3, 1) := dgL_20.2.2.2.2.2.2.2.2.2.2.2.2.2.2.2.2.2.2.2.2.2.2.1
theorem dL_law_422 : decode cL_law 422 = .ok (.invokestatic 200, 3) := dgL_20.2.2.2.2.2.2.2.2.2.2.2.2.2.2.2.2.2.2.2.2.2.2.2.1
theorem dL_law_425 : decode cL_law 425 = .ok (.istore 5, 2) := dgL_20.2.2.2.2.2.2.2.2.2.2.2.2.2.2.2.2.2.2.2.2.2.2.2.2.1
theorem dL_law_427 : decode cL_law 427 = .ok (.aload_n 2, 1) := dgL_20.2.2.2.2.2.2.2.2.2.2.2.2.2.2.2.2.2.2.2.2.2.2.2.2.2.1
theorem dL_law_428 : decode cL_law 428 = .ok (.aload_n 0, 1) := dgL_20.2.2.2.2.2.2.2.2.2.2.2.2.2.2.2.2.2.2.2.2.2.2.2.2.2.2.1
theorem dL_law_429 : decode cL_law 429 = .ok (.iload 4, 2) := dgL_20.2.2.2.2.2.2.2.2.2.2.2.2.2.2.2.2.2.2.2.2.2.2.2.2.2.2.2.1
theorem dL_law_431 : decode cL_law 431 = .ok (.iconst 1, 1) := dgL_20.2.2.2.2.2.2.2.2.2.2.2.2.2.2.2.2.2.2.2.2.2.2.2.2.2.2.2.2.1
theorem dL_law_432 : decode cL_law 432 = .ok (.iadd, 1) := dgL_20.2.2.2.2.2.2.2.2.2.2.2.2.2.2.2.2.2.2.2.2.2.2.2.2.2.2.2.2.2.1
theorem dL_law_433 : decode cL_law 433 = .ok (.iaload, 1) := dgL_20.2.2.2.2.2.2.2.2.2.2.2.2.2.2.2.2.2.2.2.2.2.2.2.2.2.2.2.2.2.2.1
theorem dL_law_434 : decode cL_law 434 = .ok (.aload_n 0, 1) := dgL_20.2.2.2.2.2.2.2.2.2.2.2.2.2.2.2.2.2.2.2.2.2.2.2.2.2.2.2.2.2.2.2.1
theorem dL_law_435 : decode cL_law 435 = .ok (.iload 4, 2) := dgL_20.2.2.2.2.2.2.2.2.2.2.2.2.2.2.2.2.2.2.2.2.2.2.2.2.2.2.2.2.2.2.2.2.1
theorem dL_law_437 : decode cL_law 437 = .ok (.iconst 2, 1) := dgL_20.2.2.2.2.2.2.2.2.2.2.2.2.2.2.2.2.2.2.2.2.2.2.2.2.2.2.2.2.2.2.2.2.2.1
theorem dL_law_438 : decode cL_law 438 = .ok (.iadd, 1) := dgL_20.2.2.2.2.2.2.2.2.2.2.2.2.2.2.2.2.2.2.2.2.2.2.2.2.2.2.2.2.2.2.2.2.2.2.1
theorem dL_law_439 : decode cL_law 439 = .ok (.iaload, 1) := dgL_20.2.2.2.2.2.2.2.2.2.2.2.2.2.2.2.2.2.2.2.2.2.2.2.2.2.2.2.2.2.2.2.2.2.2.2.1
theorem dL_law_440 : decode cL_law 440 = .ok (.invokevirtual 202, 3) := dgL_20.2.2.2.2.2.2.2.2.2.2.2.2.2.2.2.2.2.2.2.2.2.2.2.2.2.2.2.2.2.2.2.2.2.2.2.2.1
theorem dL_law_443 : decode cL_law 443 = .ok (.istore 6, 2) := dgL_20.2.2.2.2.2.2.2.2.2.2.2.2.2.2.2.2.2.2.2.2.2.2.2.2.2.2.2.2.2.2.2.2.2.2.2.2.2.1
theorem dL_law_445 : decode cL_law 445 = .ok (.goto 2027, 3) := dgL_20.2.2.2.2.2.2.2.2.2.2.2.2.2.2.2.2.2.2.2.2.2.2.2.2.2.2.2.2.2.2.2.2.2.2.2.2.2.2.1
theorem dL_law_448 : decode cL_law 448 = .ok (.aload_n 1, 1) := dgL_20.2.2.2.2.2.2.2.2.2.2.2.2.2.2.2.2.2.2.2.2.2.2.2.2.2.2.2.2.2.2.2.2.2.2.2.2.2.2.2
theorem dgL_21 : (decode cL_law 449 = .ok (.aload_n 0, 1)) ∧ (decode cL_law 450 = .ok (.iload 4, 2)) ∧ (decode cL_law 452 = .ok (.iconst 1, 1)) ∧ (decode cL_law 453 = .ok (.iadd, 1)) ∧ (decode cL_law 454 = .ok (.iaload, 1)) ∧ (decode cL_law 455 = .ok (.aload_n 3, 1)) ∧ (decode cL_law 456 = .ok (.invokestatic 203, 3)) ∧ (decode cL_law 459 = .ok (.istore 5, 2)) ∧ (decode cL_law 461 = .ok (.aload_n 2, 1)) ∧ (decode cL_law 462 = .ok (.aload_n 0, 1)) ∧ (decode cL_law 463 = .ok (.iload 4, 2)) ∧ (decode cL_law 465 = .ok (.iconst 1, 1)) ∧ (decode cL_law 466 = .ok (.iadd, 1)) ∧ (decode cL_law 467 = .ok (.iaload, 1)) ∧ (decode cL_law 468 = .ok (.invokevirtual 206, 3)) ∧ (decode cL_law 471 = .ok (.istore 6, 2)) ∧ (decode cL_law 473 = .ok (.goto 1999, 3)) ∧ (decode cL_law 476 = .ok (.aload_n 1, 1)) ∧ (decode cL_law 477 = .ok (.aload_n 0, 1)) ∧ (decode cL_law 478 = .ok (.iload 4, 2)) ∧ (decode cL_law 480 = .ok (.iconst 1, 1)) ∧ (decode cL_law 481 = .ok (.iadd, 1)) ∧ (decode cL_law 482 = .ok (.iaload, 1)) ∧ (decode cL_law 483 = .ok (.aload_n 3, 1)) ∧ (decode cL_law 484 = .ok (.invokestatic 207, 3)) ∧ (decode cL_law 487 = .ok (.istore 5, 2)) ∧ (decode cL_law 489 = .ok (.aload_n 2, 1)) ∧ (decode cL_law 490 = .ok (.aload_n 0, 1)) ∧ (decode cL_law 491 = .ok (.iload 4, 2)) ∧ (decode cL_law 493 = .ok (.iconst 1, 1)) ∧ (decode cL_law 494 = .ok (.iadd, 1)) ∧ (decode cL_law 495 = .ok (.iaload, 1)) ∧ (decode cL_law 496 = .ok (.invokevirtual 209, 3)) ∧ (decode cL_law 499 = .ok (.istore 6, 2)) ∧ (decode cL_law 501 = .ok (.goto 1971, 3)) ∧ (decode cL_law 504 = .ok (.aload_n 1, 1)) ∧ (decode cL_law 505 = .ok (.aload_n 0, 1)) ∧ (decode cL_law 506 = .ok (.iload 4, 2)) ∧ (decode cL_law 508 = .ok (.iconst 1, 1)) ∧ (decode cL_law 509 = .ok (.iadd, 1)) := by decide +kernel
theorem dL_law_449 : decode cL_law 449 = .ok (.aload_n 0, 1) := dgL_21.1
theorem dL_law_450 : decode cL_law 450 = .ok (.iload 4, 2) := dgL_21.2.1
theorem dL_law_452 : decode cL_law 452 = .ok (.iconst 1, 1) := dgL_21.2.2.1
theorem dL_law_453 : decode cL_law 453 = .ok (.iadd, 1) := dgL_21.2.2.2.1
theorem dL_law_454 : decode cL_law 454 = .ok (.iaload, 1) := dgL_21.2.2.2.2.1
theorem dL_law_455 : decode cL_law 455 = .ok (.aload_n 3, 1) := dgL_21.2.2.2.2.2.1
theorem dL_law_456 : decode cL_law 456 = .ok (.invokestatic 203, 3) := dgL_21.2.2.2.2.2.2.1
theorem dL_law_459 : decode cL_law 459 = .ok (.istore 5, 2) := dgL_21.2.2.2.2.2.2.2.1
theorem dL_law_461 : decode cL_law 461 = .ok (.aload_n 2, 1) := dgL_21.2.2.2.2.2.2.2.2.1
theorem dL_law_462 : decode cL_law 462 = .ok (.aload_n 0, 1) := dgL_21.2.2.2.2.2.2.2.2.2.1
theorem dL_law_463 : decode cL_law 463 = .ok (.iload 4, 2) := dgL_21.2.2.2.2.2.2.2.2.2.2.1
theorem dL_law_465 : decode cL_law 465 = .ok (.iconst 1, 1) := dgL_21.2.2.2.2.2.2.2.2.2.2.2.1
theorem dL_law_466 : decode cL_law 466 = .ok (.iadd, 1) := dgL_21.2.2.2.2.2.2.2.2.2.2.2.2.1
theorem dL_law_467 : decode cL_law 467 = .ok (.iaload, 1) := dgL_21.2.2.2.2.2.2.2.2.2.2.2.2.2.1
theorem dL_law_468 : decode cL_law 468 = .ok (.invokevirtual 206, 3) := dgL_21.2.2.2.2.2.2.2.2.2.2.2.2.2.2.1
theorem dL_law_471 : decode cL_law 471 = .ok (.istore 6, 2) := dgL_21.2.2.2.2.2.2.2.2.2.2.2.2.2.2.2.1
theorem dL_law_473 : decode cL_law 473 = .ok (.goto 1999, 3) := dgL_21.2.2.2.2.2.2.2.2.2.2.2.2.2.2.2.2.1
theorem dL_law_476 : decode cL_law 476 = .ok (.aload_n 1, 1) := dgL_21.2.2.2.2.2.2.2.2.2.2.2.2.2.2.2.2.2.1
theorem dL_law_477 : decode cL_law 477 = .ok (.aload_n 0, 1) := dgL_21.2.2.2.2.2.2.2.2.2.2.2.2.2.2.2.2.2.2.1
theorem dL_law_478 : decode cL_law 478 = .ok (.iload 4, 2) := dgL_21.2.2.2.2.2.2.2.2.2.2.2.2.2.2.2.2.2.2.2.1
theorem dL_law_480 : decode cL_law 480 = .ok (.iconst 1, 1) := dgL_21.2.2.2.2.2.2.2.2.2.2.2.2.2.2.2.2.2.2.2.2.1
theorem dL_law_481 : decode cL_law 481 = .ok (.iadd, 1) := dgL_21.2.2.2.2.2.2.2.2.2.2.2.2.2.2.2.2.2.2.2.2.2.1
theorem dL_law_482 : decode cL_law 482 = .ok (.iaload, 1) := dgL_21.2.2.2.2.2.2.2.2.2.2.2.2.2.2.2.2.2.2.2.2.2.2.1
theorem dL_law_483 : decode cL_law 483 = .ok (.aload_n 3, 1) := dgL_21.2.2.2.2.2.2.2.2.2.2.2.2.2.2.2.2.2.2.2.2.2.2.2.1
theorem dL_law_484 : decode cL_law 484 = .ok (.invokestatic 207, 3) := dgL_21.2.2.2.2.2.2.2.2.2.2.2.2.2.2.2.2.2.2.2.2.2.2.2.2.1
theorem dL_law_487 : decode cL_law 487 = .ok (.istore 5, 2) := dgL_21.2.2.2.2.2.2.2.2.2.2.2.2.2.2.2.2.2.2.2.2.2.2.2.2.2.1
theorem dL_law_489 : decode cL_law 489 = .ok (.aload_n 2, 1) := dgL_21.2.2.2.2.2.2.2.2.2.2.2.2.2.2.2.2.2.2.2.2.2.2.2.2.2.2.1
theorem dL_law_490 : decode cL_law 490 = .ok (.aload_n 0, 1) := dgL_21.2.2.2.2.2.2.2.2.2.2.2.2.2.2.2.2.2.2.2.2.2.2.2.2.2.2.2.1
theorem dL_law_491 : decode cL_law 491 = .ok (.iload 4, 2) := dgL_21.2.2.2.2.2.2.2.2.2.2.2.2.2.2.2.2.2.2.2.2.2.2.2.2.2.2.2.2.1
theorem dL_law_493 : decode cL_law 493 = .ok (.iconst 1, 1) := dgL_21.2.2.2.2.2.2.2.2.2.2.2.2.2.2.2.2.2.2.2.2.2.2.2.2.2.2.2.2.2.1
theorem dL_law_494 : decode cL_law 494 = .ok (.iadd, 1) := dgL_21.2.2.2.2.2.2.2.2.2.2.2.2.2.2.2.2.2.2.2.2.2.2.2.2.2.2.2.2.2.2.1
theorem dL_law_495 : decode cL_law 495 = .ok (.iaload, 1) := dgL_21.2.2.2.2.2.2.2.2.2.2.2.2.2.2.2.2.2.2.2.2.2.2.2.2.2.2.2.2.2.2.2.1
theorem dL_law_496 : decode cL_law 496 = .ok (.invokevirtual 209, 3) := dgL_21.2.2.2.2.2.2.2.2.2.2.2.2.2.2.2.2.2.2.2.2.2.2.2.2.2.2.2.2.2.2.2.2.1
theorem dL_law_499 : decode cL_law 499 = .ok (.istore 6, 2) := dgL_21.2.2.2.2.2.2.2.2.2.2.2.2.2.2.2.2.2.2.2.2.2.2.2.2.2.2.2.2.2.2.2.2.2.1
theorem dL_law_501 : decode cL_law 501 = .ok (.goto 1971, 3) := dgL_21.2.2.2.2.2.2.2.2.2.2.2.2.2.2.2.2.2.2.2.2.2.2.2.2.2.2.2.2.2.2.2.2.2.2.1
theorem dL_law_504 : decode cL_law 504 = .ok (.aload_n 1, 1) := dgL_21.2.2.2.2.2.2.2.2.2.2.2.2.2.2.2.2.2.2.2.2.2.2.2.2.2.2.2.2.2.2.2.2.2.2.2.1
theorem dL_law_505 : decode cL_law 505 = .ok (.aload_n 0, 1) := dgL_21.2.2.2.2.2.2.2.2.2.2.2.2.2.2.2.2.2.2.2.2.2.2.2.2.2.2.2.2.2.2.2.2.2.2.2.2.1
theorem dL_law_506 : decode cL_law 506 = .ok (.iload 4, 2) := dgL_21.2.2.2.2.2.2.2.2.2.2.2.2.2.2.2.2.2.2.2.2.2.2.2.2.2.2.2.2.2.2.2.2.2.2.2.2.2.1
theorem dL_law_508 : decode cL_law 508 = .ok (.iconst 1, 1) := dgL_21.2.2.2.2.2.2.2.2.2.2.2.2.2.2.2.2.2.2.2.2.2.2.2.2.2.2.2.2.2.2.2.2.2.2.2.2.2.2.1
theorem dL_law_509 : decode cL_law 509 = .ok (.iadd, 1) := dgL_21.2.2.2.2.2.2.2.2.2.2.2.2.2.2.2.2.2.2.2.2.2.2.2.2.2.2.2.2.2.2.2.2.2.2.2.2.2.2.2
theorem dgL_22 : (decode cL_law 510 = .ok (.iaload, 1)) ∧ (decode cL_law 511 = .ok (.aload_n 0, 1)) ∧ (decode cL_law 512 = .ok (.iload 4, 2)) ∧ (decode cL_law 514 = .ok (.iconst 2, 1)) ∧ (decode cL_law 515 = .ok (.iadd, 1)) ∧ (decode cL_law 516 = .ok (.iaload, 1)) ∧ (decode cL_law 517 = .ok (.aload_n 0, 1)) ∧ (decode cL_law 518 = .ok (.iload 4, 2)) ∧ (decode cL_law 520 = .ok (.iconst 3, 1)) ∧ (decode cL_law 521 = .ok (.iadd, 1)) ∧ (decode cL_law 522 = .ok (.iaload, 1)) ∧ (decode cL_law 523 = .ok (.ifCond .eq 7, 3)) ∧ (decode cL_law 526 = .ok (.iconst 1, 1)) ∧ (decode cL_law 527 = .ok (.goto 4, 3)) ∧ (decode cL_law 530 = .ok (.iconst 0, 1)) ∧ (decode cL_law 531 = .ok (.aload_n 3, 1)) ∧ (decode cL_law 532 = .ok (.invokestatic 210, 3)) ∧ (decode cL_law 535 = .ok (.istore 5, 2)) ∧ (decode cL_law 537 = .ok (.aload_n 2, 1)) ∧ (decode cL_law 538 = .ok (.aload_n 0, 1)) ∧ (decode cL_law 539 = .ok (.iload 4, 2)) ∧ (decode cL_law 541 = .ok (.iconst 1, 1)) ∧ (decode cL_law 542 = .ok (.iadd, 1)) ∧ (decode cL_law 543 = .ok (.iaload, 1)) ∧ (decode cL_law 544 = .ok (.aload_n 0, 1)) ∧ (decode cL_law 545 = .ok (.iload 4, 2)) ∧ (decode cL_law 547 = .ok (.iconst 2, 1)) ∧ (decode cL_law 548 = .ok (.iadd, 1)) ∧ (decode cL_law 549 = .ok (.iaload, 1)) ∧ (decode cL_law 550 = .ok (.aload_n 0, 1)) ∧ (decode cL_law 551 = .ok (.iload 4, 2)) ∧ (decode cL_law 553 = .ok (.iconst 3, 1)) ∧ (decode cL_law 554 = .ok (.iadd, 1)) ∧ (decode cL_law 555 = .ok (.iaload, 1)) ∧ (decode cL_law 556 = .ok (.ifCond .eq 7, 3)) ∧ (decode cL_law 559 = .ok (.iconst 1, 1)) ∧ (decode cL_law 560 = .ok (.goto 4, 3)) ∧ (decode cL_law 563 = .ok (.iconst 0, 1)) ∧ (decode cL_law 564 = .ok (.invokevirtual 213, 3)) ∧ (decode cL_law 567 = .ok (.istore 6, 2)) := by decide +kernel
theorem dL_law_510 : decode cL_law 510 = .ok (.iaload, 1) := dgL_22.1
theorem dL_law_511 : decode cL_law 511 = .ok (.aload_n 0, 1) := dgL_22.2.1
theorem dL_law_512 : decode cL_law 512 = .ok (.iload 4, 2) := dgL_22.2.2.1
theorem dL_law_514 : decode cL_law 514 = .ok (.iconst 2, 1) := dgL_22.2.2.2.1
theorem dL_law_515 : decode cL_law 515 = .ok (.iadd, 1) := dgL_22.2.2.2.2.1
theorem dL_law_516 : decode cL_law 516 = .ok (.iaload, 1) := dgL_22.2.2.2.2.2.1
theorem dL_law_517 : decode cL_law 517 = .ok (.aload_n 0, 1) := dgL_22.2.2.2.2.2.2.1
theorem dL_law_518 : decode cL_law 518 = .ok (.iload 4, 2) := dgL_22.2.2.2.2.2.2.2.1
theorem dL_law_520 : decode cL_law 520 = .ok (.iconst 3, 1) := dgL_22.2.2.2.2.2.2.2.2.1
theorem dL_law_521 : decode cL_law 521 = .ok (.iadd, 1) := dgL_22.2.2.2.2.2.2.2.2.2.1
theorem dL_law_522 : decode cL_law 522 = .ok (.iaload, 1) := dgL_22.2.2.2.2.2.2.2.2.2.2.1
theorem dL_law_523 : decode cL_law 523 = .ok (.ifCond .eq 7, 3) := dgL_22.2.2.2.2.2.2.2.2.2.2.2.1
theorem dL_law_526 : decode cL_law 526 = .ok (.iconst 1, 1) := dgL_22.2.2.2.2.2.2.2.2.2.2.2.2.1
theorem dL_law_527 : decode cL_law 527 = .ok (.goto 4, 3) := dgL_22.2.2.2.2.2.2.2.2.2.2.2.2.2.1
theorem dL_law_530 : decode cL_law 530 = .ok (.iconst 0, 1) := dgL_22.2.2.2.2.2.2.2.2.2.2.2.2.2.2.1
theorem dL_law_531 : decode cL_law 531 = .ok (.aload_n 3, 1) := dgL_22.2.2.2.2.2.2.2.2.2.2.2.2.2.2.2.1
theorem dL_law_532 : decode cL_law 532 = .ok (.invokestatic 210, 3) := dgL_22.2.2.2.2.2.2.2.2.2.2.2.2.2.2.2.2.1
theorem dL_law_535 : decode cL_law 535 = .ok (.istore 5, 2) := dgL_22.2.2.2.2.2.2.2.2.2.2.2.2.2.2.2.2.2.1
theorem dL_law_537 : decode cL_law 537 = .ok (.aload_n 2, 1) := dgL_22.2.2.2.2.2.2.2.2.2.2.2.2.2.2.2.2.2.2.1
theorem dL_law_538 : decode cL_law 538 = .ok (.aload_n 0, 1) := dgL_22.2.2.2.2.2.2.2.2.2.2.2.2.2.2.2.2.2.2.2.1
theorem dL_law_539 : decode cL_law 539 = .ok (.iload 4, 2) := dgL_22.2.2.2.2.2.2.2.2.2.2.2.2.2.2.2.2.2.2.2.2.1
theorem dL_law_541 : decode cL_law 541 = .ok (.iconst 1, 1) := dgL_22.2.2.2.2.2.2.2.2.2.2.2.2.2.2.2.2.2.2.2.2.2.1
theorem dL_law_542 : decode cL_law 542 = .ok (.iadd, 1) := dgL_22.2.2.2.2.2.2.2.2.2.2.2.2.2.2.2.2.2.2.2.2.2.2.1
theorem dL_law_543 : decode cL_law 543 = .ok (.iaload, 1) := dgL_22.2.2.2.2.2.2.2.2.2.2.2.2.2.2.2.2.2.2.2.2.2.2.2.1
theorem dL_law_544 : decode cL_law 544 = .ok (.aload_n 0, 1) := dgL_22.2.2.2.2.2.2.2.2.2.2.2.2.2.2.2.2.2.2.2.2.2.2.2.2.1
theorem dL_law_545 : decode cL_law 545 = .ok (.iload 4, 2) := dgL_22.2.2.2.2.2.2.2.2.2.2.2.2.2.2.2.2.2.2.2.2.2.2.2.2.2.1
theorem dL_law_547 : decode cL_law 547 = .ok (.iconst 2, 1) := dgL_22.2.2.2.2.2.2.2.2.2.2.2.2.2.2.2.2.2.2.2.2.2.2.2.2.2.2.1
theorem dL_law_548 : decode cL_law 548 = .ok (.iadd, 1) := dgL_22.2.2.2.2.2.2.2.2.2.2.2.2.2.2.2.2.2.2.2.2.2.2.2.2.2.2.2.1
theorem dL_law_549 : decode cL_law 549 = .ok (.iaload, 1) := dgL_22.2.2.2.2.2.2.2.2.2.2.2.2.2.2.2.2.2.2.2.2.2.2.2.2.2.2.2.2.1
theorem dL_law_550 : decode cL_law 550 = .ok (.aload_n 0, 1) := dgL_22.2.2.2.2.2.2.2.2.2.2.2.2.2.2.2.2.2.2.2.2.2.2.2.2.2.2.2.2.2.1
theorem dL_law_551 : decode cL_law 551 = .ok (.iload 4, 2) := dgL_22.2.2.2.2.2.2.2.2.2.2.2.2.2.2.2.2.2.2.2.2.2.2.2.2.2.2.2.2.2.2.1
theorem dL_law_553 : decode cL_law 553 = .ok (.iconst 3, 1) := dgL_22.2.2.2.2.2.2.2.2.2.2.2.2.2.2.2.2.2.2.2.2.2.2.2.2.2.2.2.2.2.2.2.1
theorem dL_law_554 : decode cL_law 554 = .ok (.iadd, 1) := dgL_22.2.2.2.2.2.2.2.2.2.2.2.2.2.2.2.2.2.2.2.2.2.2.2.2.2.2.2.2.2.2.2.2.1
theorem dL_law_555 : decode cL_law 555 = .ok (.iaload, 1) := dgL_22.2.2.2.2.2.2.2.2.2.2.2.2.2.2.2.2.2.2.2.2.2.2.2.2.2.2.2.2.2.2.2.2.2.1
theorem dL_law_556 : decode cL_law 556 = .ok (.ifCond .eq 7, 3) := dgL_22.2.2.2.2.2.2.2.2.2.2.2.2.2.2.2.2.2.2.2.2.2.2.2.2.2.2.2.2.2.2.2.2.2.2.1
theorem dL_law_559 : decode cL_law 559 = .ok (.iconst 1, 1) := dgL_22.2.2.2.2.2.2.2.2.2.2.2.2.2.2.2.2.2.2.2.2.2.2.2.2.2.2.2.2.2.2.2.2.2.2.2.1
theorem dL_law_560 : decode cL_law 560 = .ok (.goto 4, 3) := dgL_22.2.2.2.2.2.2.2.2.2.2.2.2.2.2.2.2.2.2.2.2.2.2.2.2.2.2.2.2.2.2.2.2.2.2.2.2.1
theorem dL_law_563 : decode cL_law 563 = .ok (.iconst 0, 1) := dgL_22.2.2.2.2.2.2.2.2.2.2.2.2.2.2.2.2.2.2.2.2.2.2.2.2.2.2.2.2.2.2.2.2.2.2.2.2.2.1
theorem dL_law_564 : decode cL_law 564 = .ok (.invokevirtual 213, 3) := dgL_22.2.2.2.2.2.2.2.2.2.2.2.2.2.2.2.2.2.2.2.2.2.2.2.2.2.2.2.2.2.2.2.2.2.2.2.2.2.2.1
theorem dL_law_567 : decode cL_law 567 = .ok (.istore 6, 2) := dgL_22.2.2.2.2.2.2.2.2.2.2.2.2.2.2.2.2.2.2.2.2.2.2.2.2.2.2.2.2.2.2.2.2.2.2.2.2.2.2.2
theorem dgL_23 : (decode cL_law 569 = .ok (.goto 1903, 3)) ∧ (decode cL_law 572 = .ok (.aload_n 1, 1)) ∧ (decode cL_law 573 = .ok (.aload_n 0, 1)) ∧ (decode cL_law 574 = .ok (.iload 4, 2)) ∧ (decode cL_law 576 = .ok (.iconst 1, 1)) ∧ (decode cL_law 577 = .ok (.iadd, 1)) ∧ (decode cL_law 578 = .ok (.iaload, 1)) ∧ (decode cL_law 579 = .ok (.aload_n 3, 1)) ∧ (decode cL_law 580 = .ok (.invokestatic 214, 3)) ∧ (decode cL_law 583 = .ok (.istore 5, 2)) ∧ (decode cL_law 585 = .ok (.aload_n 2, 1)) ∧ (decode cL_law 586 = .ok (.aload_n 0, 1)) ∧ (decode cL_law 587 = .ok (.iload 4, 2)) ∧ (decode cL_law 589 = .ok (.iconst 1, 1)) ∧ (decode cL_law 590 = .ok (.iadd, 1)) ∧ (decode cL_law 591 = .ok (.iaload, 1)) ∧ (decode cL_law 592 = .ok (.invokevirtual 216, 3)) ∧ (decode cL_law 595 = .ok (.istore 6, 2)) ∧ (decode cL_law 597 = .ok (.goto 1875, 3)) ∧ (decode cL_law 600 = .ok (.aload_n 1, 1)) ∧ (decode cL_law 601 = .ok (.aload_n 0, 1)) ∧ (decode cL_law 602 = .ok (.iload 4, 2)) ∧ (decode cL_law 604 = .ok (.iconst 1, 1)) ∧ (decode cL_law 605 = .ok (.iadd, 1)) ∧ (decode cL_law 606 = .ok (.iaload, 1)) ∧ (decode cL_law 607 = .ok (.aload_n 3, 1)) ∧ (decode cL_law 608 = .ok (.invokestatic 217, 3)) ∧ (decode cL_law 611 = .ok (.istore 5, 2)) ∧ (decode cL_law 613 = .ok (.aload_n 2, 1)) ∧ (decode cL_law 614 = .ok (.aload_n 0, 1)) ∧ (decode cL_law 615 = .ok (.iload 4, 2)) ∧ (decode cL_law 617 = .ok (.iconst 1, 1)) ∧ (decode cL_law 618 = .ok (.iadd, 1)) ∧ (decode cL_law 619 = .ok (.iaload, 1)) ∧ (decode cL_law 620 = .ok (.invokevirtual 219, 3)) ∧ (decode cL_law 623 = .ok (.istore 6, 2)) ∧ (decode cL_law 625 = .ok (.goto 1847, 3)) ∧ (decode cL_law 628 = .ok (.aload_n 1, 1)) ∧ (decode cL_law 629 = .ok (.aload_n 0, 1)) ∧ (decode cL_law 630 = .ok (.iload 4, 2)) := by decide +kernel
theorem dL_law_569 : decode cL_law 569 = .ok (.goto 1903, 3) := dgL_23.1
theorem dL_law_572 : decode cL_law 572 = .ok (.aload_n 1, 1) := dgL_23.2.1
theorem dL_law_573 : decode cL_law 573 = .ok (.aload_n 0, 1) := dgL_23.2.2.1
theorem dL_law_574 : decode cL_law 574 = .ok (.iload 4, 2) := dgL_23.2.2.2.1
theorem dL_law_576 : decode cL_law 576 = .ok (.iconst 1, 1) := dgL_23.2.2.2.2.1
theorem dL_law_577 : decode cL_law 577 = .ok (.iadd, 1) := dgL_23.2.2.2.2.2.1
theorem dL_law_578 : decode cL_law 578 = .ok (.iaload, 1) := dgL_23.2.2.2.2.2.2.1
theorem dL_law_579 : decode cL_law 579 = .ok (.aload_n 3, 1) := dgL_23.2.2.2.2.2.2.2.1
theorem dL_law_580 : decode cL_law 580 = .ok (.invokestatic 214, 3) := dgL_23.2.2.2.2.2.2.2.2.1
theorem dL_law_583 : decode cL_law 583 = .ok (.istore 5, 2) := dgL_23.2.2.2.2.2.2.2.2.2.1
theorem dL_law_585 : decode cL_law 585 = .ok (.aload_n 2, 1) := dgL_23.2.2.2.2.2.2.2.2.2.2.1
theorem dL_law_586 : decode cL_law 586 = .ok (.aload_n 0, 1) := dgL_23.2.2.2.2.2.2.2.2.2.2.2.1
theorem dL_law_587 : decode cL_law 587 = .ok (.iload 4, 2) := dgL_23.2.2.2.2.2.2.2.2.2.2.2.2.1
theorem dL_law_589 : decode cL_law 589 = .ok (.iconst 1, 1) := dgL_23.2.2.2.2.2.2.2.2.2.2.2.2.2.1
theorem dL_law_590 : decode cL_law 590 = .ok (.iadd, 1) := dgL_23.2.2.2.2.2.2.2.2.2.2.2.2.2.2.1
theorem dL_law_591 : decode cL_law 591 = .ok (.iaload, 1) := dgL_23.2.2.2.2.2.2.2.2.2.2.2.2.2.2.2.1
theorem dL_law_592 : decode cL_law 592 = .ok (.invokevirtual 216, 3) := dgL_23.2.2.2.2.2.2.2.2.2.2.2.2.2.2.2.2.1
theorem dL_law_595 : decode cL_law 595 = .ok (.istore 6, 2) := dgL_23.2.2.2.2.2.2.2.2.2.2.2.2.2.2.2.2.2.1
theorem dL_law_597 : decode cL_law 597 = .ok (.goto 1875, 3) := dgL_23.2.2.2.2.2.2.2.2.2.2.2.2.2.2.2.2.2.2.1
theorem dL_law_600 : decode cL_law 600 = .ok (.aload_n 1, 1) := dgL_23.2.2.2.2.2.2.2.2.2.2.2.2.2.2.2.2.2.2.2.1
theorem dL_law_601 : decode cL_law 601 = .ok (.aload_n 0, 1) := dgL_23.2.2.2.2.2.2.2.2.2.2.2.2.2.2.2.2.2.2.2.2.1
theorem dL_law_602 : decode cL_law 602 = .ok (.iload 4, 2) := dgL_23.2.2.2.2.2.2.2.2.2.2.2.2.2.2.2.2.2.2.2.2.2.1
theorem dL_law_604 : decode cL_law 604 = .ok (.iconst 1, 1) := dgL_23.2.2.2.2.2.2.2.2.2.2.2.2.2.2.2.2.2.2.2.2.2.2.1
theorem dL_law_605 : decode cL_law 605 = .ok (.iadd, 1) := dgL_23.2.2.2.2.2.2.2.2.2.2.2.2.2.2.2.2.2.2.2.2.2.2.2.1
theorem dL_law_606 : decode cL_law 606 = .ok (.iaload, 1) := dgL_23.2.2.2.2.2.2.2.2.2.2.2.2.2.2.2.2.2.2.2.2.2.2.2.2.1
theorem dL_law_607 : decode cL_law 607 = .ok (.aload_n 3, 1) := dgL_23.2.2.2.2.2.2.2.2.2.2.2.2.2.2.2.2.2.2.2.2.2.2.2.2.2.1
theorem dL_law_608 : decode cL_law 608 = .ok (.invokestatic 217, 3) := dgL_23.2.2.2.2.2.2.2.2.2.2.2.2.2.2.2.2.2.2.2.2.2.2.2.2.2.2.1
theorem dL_law_611 : decode cL_law 611 = .ok (.istore 5, 2) := dgL_23.2.2.2.2.2.2.2.2.2.2.2.2.2.2.2.2.2.2.2.2.2.2.2.2.2.2.2.1
theorem dL_law_613 : decode cL_law 613 = .ok (.aload_n 2, 1) := dgL_23.2.2.2.2.2.2.2.2.2.2.2.2.2.2.2.2.2.2.2.2.2.2.2.2.2.2.2.2.1
theorem dL_law_614 : decode cL_law 614 = .ok (.aload_n 0, 1) := dgL_23.2.2.2.2.2.2.2.2.2.2.2.2.2.2.2.2.2.2.2.2.2.2.2.2.2.2.2.2.2.1
theorem dL_law_615 : decode cL_law 615 = .ok (.iload 4, 2) := dgL_23.2.2.2.2.2.2.2.2.2.2.2.2.2.2.2.2.2.2.2.2.2.2.2.2.2.2.2.2.2.2.1
theorem dL_law_617 : decode cL_law 617 = .ok (.iconst 1, 1) := dgL_23.2.2.2.2.2.2.2.2.2.2.2.2.2.2.2.2.2.2.2.2.2.2.2.2.2.2.2.2.2.2.2.1
theorem dL_law_618 : decode cL_law 618 = .ok (.iadd, 1) := dgL_23.2.2.2.2.2.2.2.2.2.2.2.2.2.2.2.2.2.2.2.2.2.2.2.2.2.2.2.2.2.2.2.2.1
theorem dL_law_619 : decode cL_law 619 = .ok (.iaload, 1) := dgL_23.2.2.2.2.2.2.2.2.2.2.2.2.2.2.2.2.2.2.2.2.2.2.2.2.2.2.2.2.2.2.2.2.2.1
theorem dL_law_620 : decode cL_law 620 = .ok (.invokevirtual 219, 3) := dgL_23.2.2.2.2.2.2.2.2.2.2.2.2.2.2.2.2.2.2.2.2.2.2.2.2.2.2.2.2.2.2.2.2.2.2.1
theorem dL_law_623 : decode cL_law 623 = .ok (.istore 6, 2) := dgL_23.2.2.2.2.2.2.2.2.2.2.2.2.2.2.2.2.2.2.2.2.2.2.2.2.2.2.2.2.2.2.2.2.2.2.2.1
theorem dL_law_625 : decode cL_law 625 = .ok (.goto 1847, 3) := dgL_23.2.2.2.2.2.2.2.2.2.2.2.2.2.2.2.2.2.2.2.2.2.2.2.2.2.2.2.2.2.2.2.2.2.2.2.2.1
theorem dL_law_628 : decode cL_law 628 = .ok (.aload_n 1, 1) := dgL_23.2.2.2.2.2.2.2.2.2.2.2.2.2.2.2.2.2.2.2.2.2.2.2.2.2.2.2.2.2.2.2.2.2.2.2.2.2.1
theorem dL_law_629 : decode cL_law 629 = .ok (.aload_n 0, 1) := dgL_23.2.2.2.2.2.2.2.2.2.2.2.2.2.2.2.2.2.2.2.2.2.2.2.2.2.2.2.2.2.2.2.2.2.2.2.2.2.2.1
theorem dL_law_630 : decode cL_law 630 = .ok (.iload 4, 2) := dgL_23.2.2.2.2.2.2.2.2.2.2.2.2.2.2.2.2.2.2.2.2.2.2.2.2.2.2.2.2.2.2.2.2.2.2.2.2.2.2.2
theorem dgL_24 : (decode cL_law 632 = .ok (.iconst 1, 1)) ∧ (decode cL_law 633 = .ok (.iadd, 1)) ∧ (decode cL_law 634 = .ok (.iaload, 1)) ∧ (decode cL_law 635 = .ok (.aload_n 0, 1)) ∧ (decode cL_law 636 = .ok (.iload 4, 2)) ∧ (decode cL_law 638 = .ok (.iconst 2, 1)) ∧ (decode cL_law 639 = .ok (.iadd, 1)) ∧ (decode cL_law 640 = .ok (.iaload, 1)) ∧ (decode cL_law 641 = .ok (.aload_n 0, 1)) ∧ (decode cL_law 642 = .ok (.iload 4, 2)) ∧ (decode cL_law 644 = .ok (.iconst 3, 1)) ∧ (decode cL_law 645 = .ok (.iadd, 1)) ∧ (decode cL_law 646 = .ok (.iaload, 1)) ∧ (decode cL_law 647 = .ok (.aload_n 3, 1)) ∧ (decode cL_law 648 = .ok (.invokestatic 220, 3)) ∧ (decode cL_law 651 = .ok (.istore 5, 2)) ∧ (decode cL_law 653 = .ok (.aload_n 2, 1)) ∧ (decode cL_law 654 = .ok (.aload_n 0, 1)) ∧ (decode cL_law 655 = .ok (.iload 4, 2)) ∧ (decode cL_law 657 = .ok (.iconst 1, 1)) ∧ (decode cL_law 658 = .ok (.iadd, 1)) ∧ (decode cL_law 659 = .ok (.iaload, 1)) ∧ (decode cL_law 660 = .ok (.aload_n 0, 1)) ∧ (decode cL_law 661 = .ok (.iload 4, 2)) ∧ (decode cL_law 663 = .ok (.iconst 2, 1)) ∧ (decode cL_law 664 = .ok (.iadd, 1)) ∧ (decode cL_law 665 = .ok (.iaload, 1)) ∧ (decode cL_law 666 = .ok (.aload_n 0, 1)) ∧ (decode cL_law 667 = .ok (.iload 4, 2)) ∧ (decode cL_law 669 = .ok (.iconst 3, 1)) ∧ (decode cL_law 670 = .ok (.iadd, 1)) ∧ (decode cL_law 671 = .ok (.iaload, 1)) ∧ (decode cL_law 672 = .ok (.invokevirtual 223, 3)) ∧ (decode cL_law 675 = .ok (.istore 6, 2)) ∧ (decode cL_law 677 = .ok (.goto 1795, 3)) ∧ (decode cL_law 680 = .ok (.aload_n 1, 1)) ∧ (decode cL_law 681 = .ok (.aload_n 0, 1)) ∧ (decode cL_law 682 = .ok (.iload 4, 2)) ∧ (decode cL_law 684 = .ok (.iconst 1, 1)) ∧ (decode cL_law 685 = .ok (.iadd, 1)) := by decide +kernel
theorem dL_law_632 : decode cL_law 632 = .ok (.iconst 1, 1) := dgL_24.1
theorem dL_law_633 : decode cL_law 633 = .ok (.iadd, 1) := dgL_24.2.1
theorem dL_law_634 : decode cL_law 634 = .ok (.iaload, 1) := dgL_24.2.2.1
theorem dL_law_635 : decode cL_law 635 = .ok (.aload_n 0, 1) := dgL_24.2.2.2.1
theorem dL_law_636 : decode cL_law 636 = .ok (.iload 4, 2) := dgL_24.2.2.2.2.1
theorem dL_law_638 : decode cL_law 638 = .ok (.iconst 2, 1) := dgL_24.2.2.2.2.2.1
theorem dL_law_639 : decode cL_law 639 = .ok (.iadd, 1) := dgL_24.2.2.2.2.2.2.1
theorem dL_law_640 : decode cL_law 640 = .ok (.iaload, 1) := dgL_24.2.2.2.2.2.2.2.1
theorem dL_law_641 : decode cL_law 641 = .ok (.aload_n 0, 1) := dgL_24.2.2.2.2.2.2.2.2.1
theorem dL_law_642 : decode cL_law 642 = .ok (.iload 4, 2) := dgL_24.2.2.2.2.2.2.2.2.2.1
theorem dL_law_644 : decode cL_law 644 = .ok (.iconst 3, 1) := dgL_24.2.2.2.2.2.2.2.2.2.2.1
theorem dL_law_645 : decode cL_law 645 = .ok (.iadd, 1) := dgL_24.2.2.2.2.2.2.2.2.2.2.2.1
theorem dL_law_646 : decode cL_law 646 = .ok (.iaload, 1) := dgL_24.2.2.2.2.2.2.2.2.2.2.2.2.1
theorem dL_law_647 : decode cL_law 647 = .ok (.aload_n 3, 1) := dgL_24.2.2.2.2.2.2.2.2.2.2.2.2.2.1
theorem dL_law_648 : decode cL_law 648 = .ok (.invokestatic 220, 3) := dgL_24.2.2.2.2.2.2.2.2.2.2.2.2.2.2.1
theorem dL_law_651 : decode cL_law 651 = .ok (.istore 5, 2) := dgL_24.2.2.2.2.2.2.2.2.2.2.2.2.2.2.2.1
theorem dL_law_653 : decode cL_law 653 = .ok (.aload_n 2, 1) := dgL_24.2.2.2.2.2.2.2.2.2.2.2.2.2.2.2.2.1
theorem dL_law_654 : decode cL_law 654 = .ok (.aload_n 0, 1) := dgL_24.2.2.2.2.2.2.2.2.2.2.2.2.2.2.2.2.2.1
theorem dL_law_655 : decode cL_law 655 = .ok (.iload 4, 2) := dgL_24.2.2.2.2.2.2.2.2.2.2.2.2.2.2.2.2.2.2.1
theorem dL_law_657 : decode cL_law 657 = .ok (.iconst 1, 1) := dgL_24.2.2.2.2.2.2.2.2.2.2.2.2.2.2.2.2.2.2.2.1
theorem dL_law_658 : decode cL_law 658 = .ok (.iadd, 1) := dgL_24.2.2.2.2.2.2.2.2.2.2.2.2.2.2.2.2.2.2.2.2.1
theorem dL_law_659 : decode cL_law 659 = .ok (.iaload, 1) := dgL_24.2.2.2.2.2.2.2.2.2.2.2.2.2.2.2.2.2.2.2.2.2.1
theorem dL_law_660 : decode cL_law 660 = .ok (.aload_n 0, 1) := dgL_24.2.2.2.2.2.2.2.2.2.2.2.2.2.2.2.2.2.2.2.2.2.2.1
theorem dL_law_661 : decode cL_law 661 = .ok (.iload 4, 2) := dgL_24.2.2.2.2.2.2.2.2.2.2.2.2.2.2.2.2.2.2.2.2.2.2.2.1
theorem dL_law_663 : decode cL_law 663 = .ok (.iconst 2, 1) := dgL_24.2.2.2.2.2.2.2.2.2.2.2.2.2.2.2.2.2.2.2.2.2.2.2.2.1
theorem dL_law_664 : decode cL_law 664 = .ok (.iadd, 1) := dgL_24.2.2.2.2.2.2.2.2.2.2.2.2.2.2.2.2.2.2.2.2.2.2.2.2.2.1
theorem dL_law_665 : decode cL_law 665 = .ok (.iaload, 1) := dgL_24.2.2.2.2.2.2.2.2.2.2.2.2.2.2.2.2.2.2.2.2.2.2.2.2.2.2.1
theorem dL_law_666 : decode cL_law 666 = .ok (.aload_n 0, 1) := dgL_24.2.2.2.2.2.2.2.2.2.2.2.2.2.2.2.2.2.2.2.2.2.2.2.2.2.2.2.1
theorem dL_law_667 : decode cL_law 667 = .ok (.iload 4, 2) := dgL_24.2.2.2.2.2.2.2.2.2.2.2.2.2.2.2.2.2.2.2.2.2.2.2.2.2.2.2.2.1
theorem dL_law_669 : decode cL_law 669 = .ok (.iconst 3, 1) := dgL_24.2.2.2.2.2.2.2.2.2.2.2.2.2.2.2.2.2.2.2.2.2.2.2.2.2.2.2.2.2.1
theorem dL_law_670 : decode cL_law 670 = .ok (.iadd, 1) := dgL_24.2.2.2.2.2.2.2.2.2.2.2.2.2.2.2.2.2.2.2.2.2.2.2.2.2.2.2.2.2.2.1
theorem dL_law_671 : decode cL_law 671 = .ok (.iaload, 1) := dgL_24.2.2.2.2.2.2.2.2.2.2.2.2.2.2.2.2.2.2.2.2.2.2.2.2.2.2.2.2.2.2.2.1
theorem dL_law_672 : decode cL_law 672 = .ok (.invokevirtual 223, 3) := dgL_24.2.2.2.2.2.2.2.2.2.2.2.2.2.2.2.2.2.2.2.2.2.2.2.2.2.2.2.2.2.2.2.2.1
theorem dL_law_675 : decode cL_law 675 = .ok (.istore 6, 2) := dgL_24.2.2.2.2.2.2.2.2.2.2.2.2.2.2.2.2.2.2.2.2.2.2.2.2.2.2.2.2.2.2.2.2.2.1
theorem dL_law_677 : decode cL_law 677 = .ok (.goto 1795, 3) := dgL_24.2.2.2.2.2.2.2.2.2.2.2.2.2.2.2.2.2.2.2.2.2.2.2.2.2.2.2.2.2.2.2.2.2.2.1
theorem dL_law_680 : decode cL_law 680 = .ok (.aload_n 1, 1) := dgL_24.2.2.2.2.2.2.2.2.2.2.2.2.2.2.2.2.2.2.2.2.2.2.2.2.2.2.2.2.2.2.2.2.2.2.2.1
theorem dL_law_681 : decode cL_law 681 = .ok (.aload_n 0, 1) := dgL_24.2.2.2.2.2.2.2.2.2.2.2.2.2.2.2.2.2.2.2.2.2.2.2.2.2.2.2.2.2.2.2.2.2.2.2.2.1
theorem dL_law_682 : decode cL_law 682 = .ok (.iload 4, 2) := dgL_24.2.2.2.2.2.2.2.2.2.2.2.2.2.2.2.2.2.2.2.2.2.2.2.2.2.2.2.2.2.2.2.2.2.2.2.2.2.1
theorem dL_law_684 : decode cL_law 684 = .ok (.iconst 1, 1) := dgL_24.2.2.2.2.2.2.2.2.2.2.2.2.2.2.2.2.2.2.2.2.2.2.2.2.2.2.2.2.2.2.2.2.2.2.2.2.2.2.1
theorem dL_law_685 : decode cL_law 685 = .ok (.iadd, 1) := dgL_24.2.2.2.2.2.2.2.2.2.2.2.2.2.2.2.2.2.2.2.2.2.2.2.2.2.2.2.2.2.2.2.2.2.2.2.2.2.2.2
theorem dgL_25 : (decode cL_law 686 = .ok (.iaload, 1)) ∧ (decode cL_law 687 = .ok (.aload_n 0, 1)) ∧ (decode cL_law 688 = .ok (.iload 4, 2)) ∧ (decode cL_law 690 = .ok (.iconst 2, 1)) ∧ (decode cL_law 691 = .ok (.iadd, 1)) ∧ (decode cL_law 692 = .ok (.iaload, 1)) ∧ (decode cL_law 693 = .ok (.aload_n 3, 1)) ∧ (decode cL_law 694 = .ok (.invokestatic 224, 3)) ∧ (decode cL_law 697 = .ok (.istore 5, 2)) ∧ (decode cL_law 699 = .ok (.aload_n 2, 1)) ∧ (decode cL_law 700 = .ok (.aload_n 0, 1)) ∧ (decode cL_law 701 = .ok (.iload 4, 2)) ∧ (decode cL_law 703 = .ok (.iconst 1, 1)) ∧ (decode cL_law 704 = .ok (.iadd, 1)) ∧ (decode cL_law 705 = .ok (.iaload, 1)) ∧ (decode cL_law 706 = .ok (.aload_n 0, 1)) ∧ (decode cL_law 707 = .ok (.iload 4, 2)) ∧ (decode cL_law 709 = .ok (.iconst 2, 1)) ∧ (decode cL_law 710 = .ok (.iadd, 1)) ∧ (decode cL_law 711 = .ok (.iaload, 1)) ∧ (decode cL_law 712 = .ok (.invokevirtual 226, 3)) ∧ (decode cL_law 715 = .ok (.istore 6, 2)) ∧ (decode cL_law 717 = .ok (.goto 1755, 3)) ∧ (decode cL_law 720 = .ok (.aload_n 1, 1)) ∧ (decode cL_law 721 = .ok (.aload_n 0, 1)) ∧ (decode cL_law 722 = .ok (.iload 4, 2)) ∧ (decode cL_law 724 = .ok (.iconst 1, 1)) ∧ (decode cL_law 725 = .ok (.iadd, 1)) ∧ (decode cL_law 726 = .ok (.iaload, 1)) ∧ (decode cL_law 727 = .ok (.aload_n 0, 1)) ∧ (decode cL_law 728 = .ok (.iload 4, 2)) ∧ (decode cL_law 730 = .ok (.iconst 2, 1)) ∧ (decode cL_law 731 = .ok (.iadd, 1)) ∧ (decode cL_law 732 = .ok (.iaload, 1)) ∧ (decode cL_law 733 = .ok (.aload_n 3, 1)) ∧ (decode cL_law 734 = .ok (.invokestatic 227, 3)) ∧ (decode cL_law 737 = .ok (.istore 5, 2)) ∧ (decode cL_law 739 = .ok (.aload_n 2, 1)) ∧ (decode cL_law 740 = .ok (.aload_n 0, 1)) ∧ (decode cL_law 741 = .ok (.iload 4, 2)) := by decide +kernel
theorem dL_law_686 : decode cL_law 686 = .ok (.iaload, 1) := dgL_25.1
theorem dL_law_687 : decode cL_law 687 = .ok (.aload_n 0, 1) := dgL_25.2.1
theorem dL_law_688 : decode cL_law 688 = .ok (.iload 4, 2) := dgL_25.2.2.1
theorem dL_law_690 : decode cL_law 690 = .ok (.iconst 2, 1) := dgL_25.2.2.2.1
theorem dL_law_691 : decode cL_law 691 = .ok (.iadd, 1) := dgL_25.2.2.2.2.1
theorem dL_law_692 : decode cL_law 692 = .ok (.iaload, 1) := dgL_25.2.2.2.2.2.1
theorem dL_law_693 : decode cL_law 693 = .ok (.aload_n 3, 1) := dgL_25.2.2.2.2.2.2.1
theorem dL_law_694 : decode cL_law 694 = .ok (.invokestatic 224, 3) := dgL_25.2.2.2.2.2.2.2.1
theorem dL_law_697 : decode cL_law 697 = .ok (.istore 5, 2) := dgL_25.2.2.2.2.2.2.2.2.1
theorem dL_law_699 : decode cL_law 699 = .ok (.aload_n 2, 1) := dgL_25.2.2.2.2.2.2.2.2.2.1
theorem dL_law_700 : decode cL_law 700 = .ok (.aload_n 0, 1) := dgL_25.2.2.2.2.2.2.2.2.2.2.1
theorem dL_law_701 : decode cL_law 701 = .ok (.iload 4, 2) := dgL_25.2.2.2.2.2.2.2.2.2.2.2.1
theorem dL_law_703 : decode cL_law 703 = .ok (.iconst 1, 1) := dgL_25.2.2.2.2.2.2.2.2.2.2.2.2.1
theorem dL_law_704 : decode cL_law 704 = .ok (.iadd, 1) := dgL_25.2.2.2.2.2.2.2.2.2.2.2.2.2.1
theorem dL_law_705 : decode cL_law 705 = .ok (.iaload, 1) := dgL_25.2.2.2.2.2.2.2.2.2.2.2.2.2.2.1
theorem dL_law_706 : decode cL_law 706 = .ok (.aload_n 0, 1) := dgL_25.2.2.2.2.2.2.2.2.2.2.2.2.2.2.2.1
theorem dL_law_707 : decode cL_law 707 = .ok (.iload 4, 2) := dgL_25.2.2.2.2.2.2.2.2.2.2.2.2.2.2.2.2.1
theorem dL_law_709 : decode cL_law 709 = .ok (.iconst 2, 1) := dgL_25.2.2.2.2.2.2.2.2.2.2.2.2.2.2.2.2.2.1
theorem dL_law_710 : decode cL_law 710 = .ok (.iadd, 1) := dgL_25.2.2.2.2.2.2.2.2.2.2.2.2.2.2.2.2.2.2.1
theorem dL_law_711 : decode cL_law 711 = .ok (.iaload, 1) := dgL_25.2.2.2.2.2.2.2.2.2.2.2.2.2.2.2.2.2.2.2.1
theorem dL_law_712 : decode cL_law 712 = .ok (.invokevirtual 226, 3) := dgL_25.2.2.2.2.2.2.2.2.2.2.2.2.2.2.2.2.2.2.2.2.1
theorem dL_law_715 : decode cL_law 715 = .ok (.istore 6, 2) := dgL_25.2.2.2.2.2.2.2.2.2.2.2.2.2.2.2.2.2.2.2.2.2.1
theorem dL_law_717 : decode cL_law 717 = .ok (.goto 1755, 3) := dgL_25.2.2.2.2.2.2.2.2.2.2.2.2.2.2.2.2.2.2.2.2.2.2.1
theorem dL_law_720 : decode cL_law 720 = .ok (.aload_n 1, 1) := dgL_25.2.2.2.2.2.2.2.2.2.2.2.2.2.2.2.2.2.2.2.2.2.2.2.1
theorem dL_law_721 : decode cL_law 721 = .ok (.aload_n 0, 1) := dgL_25.2.2.2.2.2.2.2.2.2.2.2.2.2.2.2.2.2.2.2.2.2.2.2.2.1
theorem dL_law_722 : decode cL_law 722 = .ok (.iload 4, 2) := dgL_25.2.2.2.2.2.2.2.2.2.2.2.2.2.2.2.2.2.2.2.2.2.2.2.2.2.1
theorem dL_law_724 : decode cL_law 724 = .ok (.iconst 1, 1) := dgL_25.2.2.2.2.2.2.2.2.2.2.2.2.2.2.2.2.2.2.2.2.2.2.2.2.2.2.1
theorem dL_law_725 : decode cL_law 725 = .ok (.iadd, 1) := dgL_25.2.2.2.2.2.2.2.2.2.2.2.2.2.2.2.2.2.2.2.2.2.2.2.2.2.2.2.1
theorem dL_law_726 : decode cL_law 726 = .ok (.iaload, 1) := dgL_25.2.2.2.2.2.2.2.2.2.2.2.2.2.2.2.2.2.2.2.2.2.2.2.2.2.2.2.2.1
theorem dL_law_727 : decode cL_law 727 = .ok (.aload_n 0, 1) := dgL_25.2.2.2.2.2.2.2.2.2.2.2.2.2.2.2.2.2.2.2.2.2.2.2.2.2.2.2.2.2.1
theorem dL_law_728 : decode cL_law 728 = .ok (.iload 4, 2) := dgL_25.2.2.2.2.2.2.2.2.2.2.2.2.2.2.2.2.2.2.2.2.2.2.2.2.2.2.2.2.2.2.1
theorem dL_law_730 : decode cL_law 730 = .ok (.iconst 2, 1) := dgL_25.2.2.2.2.2.2.2.2.2.2.2.2.2.2.2.2.2.2.2.2.2.2.2.2.2.2.2.2.2.2.2.1
theorem dL_law_731 : decode cL_law 731 = .ok (.iadd, 1) := dgL_25.2.2.2.2.2.2.2.2.2.2.2.2.2.2.2.2.2.2.2.2.2.2.2.2.2.2.2.2.2.2.2.2.1
theorem dL_law_732 : decode cL_law 732 = .ok (.iaload, 1) := dgL_25.2.2.2.2.2.2.2.2.2.2.2.2.2.2.2.2.2.2.2.2.2.2.2.2.2.2.2.2.2.2.2.2.2.1
theorem dL_law_733 : decode cL_law 733 = .ok (.aload_n 3, 1) := dgL_25.2.2.2.2.2.2.2.2.2.2.2.2.2.2.2.2.2.2.2.2.2.2.2.2.2.2.2.2.2.2.2.2.2.2.1
theorem dL_law_734 : decode cL_law 734 = .ok (.invokestatic 227, 3) := dgL_25.2.2.2.2.2.2.2.2.2.2.2.2.2.2.2.2.2.2.2.2.2.2.2.2.2.2.2.2.2.2.2.2.2.2.2.1
theorem dL_law_737 : decode cL_law 737 = .ok (.istore 5, 2) := dgL_25.2.2.2.2.2.2.2.2.2.2.2.2.2.2.2.2.2.2.2.2.2.2.2.2.2.2.2.2.2.2.2.2.2.2.2.2.1
theorem dL_law_739 : decode cL_law 739 = .ok (.aload_n 2, 1) := dgL_25.2.2.2.2.2.2.2.2.2.2.2.2.2.2.2.2.2.2.2.2.2.2.2.2.2.2.2.2.2.2.2.2.2.2.2.2.2.1
theorem dL_law_740 : decode cL_law 740 = .ok (.aload_n 0, 1) := dgL_25.2.2.2.2.2.2.2.2.2.2.2.2.2.2.2.2.2.2.2.2.2.2.2.2.2.2.2.2.2.2.2.2.2.2.2.2.2.2.1
theorem dL_law_741 : decode cL_law 741 = .ok (.iload 4, 2) := dgL_25.2.2.2.2.2.2.2.2.2.2.2.2.2.2.2.2.2.2.2.2.2.2.2.2.2.2.2.2.2.2.2.2.2.2.2.2.2.2.2
theorem dgL_26 : (decode cL_law 743 = .ok (.iconst 1, 1)) ∧ (decode cL_law 744 = .ok (.iadd, 1)) ∧ (decode cL_law 745 = .ok (.iaload, 1)) ∧ (decode cL_law 746 = .ok (.aload_n 0, 1)) ∧ (decode cL_law 747 = .ok (.iload 4, 2)) ∧ (decode cL_law 749 = .ok (.iconst 2, 1)) ∧ (decode cL_law 750 = .ok (.iadd, 1)) ∧ (decode cL_law 751 = .ok (.iaload, 1)) ∧ (decode cL_law 752 = .ok (.invokevirtual 229, 3)) ∧ (decode cL_law 755 = .ok (.istore 6, 2)) ∧ (decode cL_law 757 = .ok (.goto 1715, 3)) ∧ (decode cL_law 760 = .ok (.aload_n 1, 1)) ∧ (decode cL_law 761 = .ok (.aload_n 0, 1)) ∧ (decode cL_law 762 = .ok (.iload 4, 2)) ∧ (decode cL_law 764 = .ok (.iconst 1, 1)) ∧ (decode cL_law 765 = .ok (.iadd, 1)) ∧ (decode cL_law 766 = .ok (.iaload, 1)) ∧ (decode cL_law 767 = .ok (.aload_n 0, 1)) ∧ (decode cL_law 768 = .ok (.iload 4, 2)) ∧ (decode cL_law 770 = .ok (.iconst 2, 1)) ∧ (decode cL_law 771 = .ok (.iadd, 1)) ∧ (decode cL_law 772 = .ok (.iaload, 1)) ∧ (decode cL_law 773 = .ok (.aload_n 3, 1)) ∧ (decode cL_law 774 = .ok (.invokestatic 230, 3)) ∧ (decode cL_law 777 = .ok (.istore 5, 2)) ∧ (decode cL_law 779 = .ok (.aload_n 2, 1)) ∧ (decode cL_law 780 = .ok (.aload_n 0, 1)) ∧ (decode cL_law 781 = .ok (.iload 4, 2)) ∧ (decode cL_law 783 = .ok (.iconst 1, 1)) ∧ (decode cL_law 784 = .ok (.iadd, 1)) ∧ (decode cL_law 785 = .ok (.iaload, 1)) ∧ (decode cL_law 786 = .ok (.aload_n 0, 1)) ∧ (decode cL_law 787 = .ok (.iload 4, 2)) ∧ (decode cL_law 789 = .ok (.iconst 2, 1)) ∧ (decode cL_law 790 = .ok (.iadd, 1)) ∧ (decode cL_law 791 = .ok (.iaload, 1)) ∧ (decode cL_law 792 = .ok (.invokevirtual 232, 3)) ∧ (decode cL_law 795 = .ok (.istore 6, 2)) ∧ (decode cL_law 797 = .ok (.goto 1675, 3)) ∧ (decode cL_law 800 = .ok (.aload_n 1, 1)) := by decide +kernel
theorem dL_law_743 : decode cL_law 743 = .ok (.iconst 1, 1) := dgL_26.1
theorem dL_law_744 : decode cL_law 744 = .ok (.iadd, 1) := dgL_26.2.1
theorem dL_law_745 : decode cL_law 745 = .ok (.iaload, 1) := dgL_26.2.2.1
theorem dL_law_746 : decode cL_law 746 = .ok (.aload_n 0, 1) := dgL_26.2.2.2.1
theorem dL_law_747 : decode cL_law 747 = .ok (.iload 4, 2) := dgL_26.2.2.2.2.1
theorem dL_law_749 : decode cL_law 749 = .ok (.iconst 2, 1) := dgL_26.2.2.2.2.2.1
theorem dL_law_750 : decode cL_law 750 = .ok (.iadd, 1) := dgL_26.2.2.2.2.2.2.1
theorem dL_law_751 : decode cL_law 751 = .ok (.iaload, 1) := dgL_26.2.2.2.2.2.2.2.1
theorem dL_law_752 : decode cL_law 752 = .ok (.invokevirtual 229, 3) := dgL_26.2.2.2.2.2.2.2.2.1
theorem dL_law_755 : decode cL_law 755 = .ok (.istore 6, 2) := dgL_26.2.2.2.2.2.2.2.2.2.1
theorem dL_law_757 : decode cL_law 757 = .ok (.goto 1715, 3) := dgL_26.2.2.2.2.2.2.2.2.2.2.1
theorem dL_law_760 : decode cL_law 760 = .ok (.aload_n 1, 1) := dgL_26.2.2.2.2.2.2.2.2.2.2.2.1
theorem dL_law_761 : decode cL_law 761 = .ok (.aload_n 0, 1) := dgL_26.2.2.2.2.2.2.2.2.2.2.2.2.1
theorem dL_law_762 : decode cL_law 762 = .ok (.iload 4, 2) := dgL_26.2.2.2.2.2.2.2.2.2.2.2.2.2.1
theorem dL_law_764 : decode cL_law 764 = .ok (.iconst 1, 1) := dgL_26.2.2.2.2.2.2.2.2.2.2.2.2.2.2.1
theorem dL_law_765 : decode cL_law 765 = .ok (.iadd, 1) := dgL_26.2.2.2.2.2.2.2.2.2.2.2.2.2.2.2.1
theorem dL_law_766 : decode cL_law 766 = .ok (.iaload, 1) := dgL_26.2.2.2.2.2.2.2.2.2.2.2.2.2.2.2.2.1
theorem dL_law_767 : decode cL_law 767 = .ok (.aload_n 0, 1) := dgL_26.2.2.2.2.2.2.2.2.2.2.2.2.2.2.2.2.2.1
theorem dL_law_768 : decode cL_law 768 = .ok (.iload 4, 2) := dgL_26.2.2.2.2.2.2.2.2.2.2.2.2.2.2.2.2.2.2.1
theorem dL_law_770 : decode cL_law 770 = .ok (.iconst 2, 1) := dgL_26.2.2.2.2.2.2.2.2.2.2.2.2.2.2.2.2.2.2.2.1
theorem dL_law_771 : decode cL_law 771 = .ok (.iadd, 1) := dgL_26.2.2.2.2.2.2.2.2.2.2.2.2.2.2.2.2.2.2.2.2.1
theorem dL_law_772 : decode cL_law 772 = .ok (.iaload, 1) := dgL_26.2.2.2.2.2.2.2.2.2.2.2.2.2.2.2.2.2.2.2.2.2.1
theorem dL_law_773 : decode cL_law 773 = .ok (.aload_n 3, 1) := dgL_26.2.2.2.2.2.2.2.2.2.2.2.2.2.2.2.2.2.2.2.2.2.2.1
theorem dL_law_774 : decode cL_law 774 = .ok (.invokestatic 230, 3) := dgL_26.2.2.2.2.2.2.2.2.2.2.2.2.2.2.2.2.2.2.2.2.2.2.2.1
theorem dL_law_777 : decode cL_law 777 = .ok (.istore 5, 2) := dgL_26.2.2.2.2.2.2.2.2.2.2.2.2.2.2.2.2.2.2.2.2.2.2.2.2.1
theorem dL_law_779 : decode cL_law 779 = .ok (.aload_n 2, 1) := dgL_26.2.2.2.2.2.2.2.2.2.2.2.2.2.2.2.2.2.2.2.2.2.2.2.2.2.1
theorem dL_law_780 : decode cL_law 780 = .ok (.aload_n 0, 1) := dgL_26.2.2.2.2.2.2.2.2.2.2.2.2.2.2.2.2.2.2.2.2.2.2.2.2.2.2.1
theorem dL_law_781 : decode cL_law 781 = .ok (.iload 4, 2) := dgL_26.2.2.2.2.2.2.2.2.2.2.2.2.2.2.2.2.2.2.2.2.2.2.2.2.2.2.2.1
theorem dL_law_783 : decode cL_law 783 = .ok (.iconst 1, 1) := dgL_26.2.2.2.2.2.2.2.2.2.2.2.2.2.2.2.2.2.2.2.2.2.2.2.2.2.2.2.2.1
theorem dL_law_784 : decode cL_law 784 = .ok (.iadd, 1) := dgL_26.2.2.2.2.2.2.2.2.2.2.2.2.2.2.2.2.2.2.2.2.2.2.2.2.2.2.2.2.2.1
theorem dL_law_785 : decode cL_law 785 = .ok (.iaload, 1) := dgL_26.2.2.2.2.2.2.2.2.2.2.2.2.2.2.2.2.2.2.2.2.2.2.2.2.2.2.2.2.2.2.1
theorem dL_law_786 : decode cL_law 786 = .ok (.aload_n 0, 1) := dgL_26.2.2.2.2.2.2.2.2.2.2.2.2.2.2.2.2.2.2.2.2.2.2.2.2.2.2.2.2.2.2.2.1
theorem dL_law_787 : decode cL_law 787 = .ok (.iload 4, 2) := dgL_26.2.2.2.2.2.2.2.2.2.2.2.2.2.2.2.2.2.2.2.2.2.2.2.2.2.2.2.2.2.2.2.2.1
theorem dL_law_789 : decode cL_law 789 = .ok (.iconst 2, 1) := dgL_26.2.2.2.2.2.2.2.2.2.2.2.2.2.2.2.2.2.2.2.2.2.2.2.2.2.2.2.2.2.2.2.2.2.1
theorem dL_law_790 : decode cL_law 790 = .ok (.iadd, 1) := dgL_26.2.2.2.2.2.2.2.2.2.2.2.2.2.2.2.2.2.2.2.2.2.2.2.2.2.2.2.2.2.2.2.2.2.2.1
theorem dL_law_791 : decode cL_law 791 = .ok (.iaload, 1) := dgL_26.2.2.2.2.2.2.2.2.2.2.2.2.2.2.2.2.2.2.2.2.2.2.2.2.2.2.2.2.2.2.2.2.2.2.2.1
theorem dL_law_792 : decode cL_law 792 = .ok (.invokevirtual 232, 3) := dgL_26.2.2.2.2.2.2.2.2.2.2.2.2.2.2.2.2.2.2.2.2.2.2.2.2.2.2.2.2.2.2.2.2.2.2.2.2.1
theorem dL_law_795 : decode cL_law 795 = .ok (.istore 6, 2) := dgL_26.2.2.2.2.2.2.2.2.2.2.2.2.2.2.2.2.2.2.2.2.2.2.2.2.2.2.2.2.2.2.2.2.2.2.2.2.2.1
theorem dL_law_797 : decode cL_law 797 = .ok (.goto 1675, 3) := dgL_26.2.2.2.2.2.2.2.2.2.2.2.2.2.2.2.2.2.2.2.2.2.2.2.2.2.2.2.2.2.2.2.2.2.2.2.2.2.2.1
theorem dL_law_800 : decode cL_law 800 = .ok (.aload_n 1, 1) := dgL_26.2.2.2.2.2.2.2.2.2.2.2.2.2.2.2.2.2.2.2.2.2.2.2.2.2.2.2.2.2.2.2.2.2.2.2.2.2.2.2
theorem dgL_27 : (decode cL_law 801 = .ok (.aload_n 0, 1)) ∧ (decode cL_law 802 = .ok (.iload 4, 2)) ∧ (decode cL_law 804 = .ok (.iconst 1, 1)) ∧ (decode cL_law 805 = .ok (.iadd, 1)) ∧ (decode cL_law 806 = .ok (.iaload, 1)) ∧ (decode cL_law 807 = .ok (.aload_n 0, 1)) ∧ (decode cL_law 808 = .ok (.iload 4, 2)) ∧ (decode cL_law 810 = .ok (.iconst 2, 1)) ∧ (decode cL_law 811 = .ok (.iadd, 1)) ∧ (decode cL_law 812 = .ok (.iaload, 1)) ∧ (decode cL_law 813 = .ok (.aload_n 3, 1)) ∧ (decode cL_law 814 = .ok (.invokestatic 233, 3)) ∧ (decode cL_law 817 = .ok (.istore 5, 2)) ∧ (decode cL_law 819 = .ok (.aload_n 2, 1)) ∧ (decode cL_law 820 = .ok (.aload_n 0, 1)) ∧ (decode cL_law 821 = .ok (.iload 4, 2)) ∧ (decode cL_law 823 = .ok (.iconst 1, 1)) ∧ (decode cL_law 824 = .ok (.iadd, 1)) ∧ (decode cL_law 825 = .ok (.iaload, 1)) ∧ (decode cL_law 826 = .ok (.aload_n 0, 1)) ∧ (decode cL_law 827 = .ok (.iload 4, 2)) ∧ (decode cL_law 829 = .ok (.iconst 2, 1)) ∧ (decode cL_law 830 = .ok (.iadd, 1)) ∧ (decode cL_law 831 = .ok (.iaload, 1)) ∧ (decode cL_law 832 = .ok (.invokevirtual 235, 3)) ∧ (decode cL_law 835 = .ok (.istore 6, 2)) ∧ (decode cL_law 837 = .ok (.goto 1635, 3)) ∧ (decode cL_law 840 = .ok (.aload_n 1, 1)) ∧ (decode cL_law 841 = .ok (.aload_n 0, 1)) ∧ (decode cL_law 842 = .ok (.iload 4, 2)) ∧ (decode cL_law 844 = .ok (.iconst 1, 1)) ∧ (decode cL_law 845 = .ok (.iadd, 1)) ∧ (decode cL_law 846 = .ok (.iaload, 1)) ∧ (decode cL_law 847 = .ok (.aload_n 0, 1)) ∧ (decode cL_law 848 = .ok (.iload 4, 2)) ∧ (decode cL_law 850 = .ok (.iconst 2, 1)) ∧ (decode cL_law 851 = .ok (.iadd, 1)) ∧ (decode cL_law 852 = .ok (.iaload, 1)) ∧ (decode cL_law 853 = .ok (.aload_n 3, 1)) ∧ (decode cL_law 854 = .ok (.invokestatic 236, 3)) := by decide +kernel
theorem dL_law_801 : decode cL_law 801 = .ok (.aload_n 0, 1) := dgL_27.1
theorem dL_law_802 : decode cL_law 802 = .ok (.iload 4, 2) := dgL_27.2.1
theorem dL_law_804 : decode cL_law 804 = .ok (.iconst 1, 1) := dgL_27.2.2.1
theorem dL_law_805 : decode cL_law 805 = .ok (.iadd, 1) := dgL_27.2.2.2.1
theorem dL_law_806 : decode cL_law 806 = .ok (.iaload, 1) := dgL_27.2.2.2.2.1
theorem dL_law_807 : decode cL_law 807 = .ok (.aload_n 0, 1) := dgL_27.2.2.2.2.2.1
theorem dL_law_808 : decode cL_law 808 = .ok (.iload 4, 2) := dgL_27.2.2.2.2.2.2.1
theorem dL_law_810 : decode cL_law 810 = .ok (.iconst 2, 1) := dgL_27.2.2.2.2.2.2.2.1
theorem dL_law_811 : decode cL_law 811 = .ok (.iadd, 1) := dgL_27.2.2.2.2.2.2.2.2.1
theorem dL_law_812 : decode cL_law 812 = .ok (.iaload, 1) := dgL_27.2.2.2.2.2.2.2.2.2.1
theorem dL_law_813 : decode cL_law 813 = .ok (.aload_n 3, 1) := dgL_27.2.2.2.2.2.2.2.2.2.2.1
theorem dL_law_814 : decode cL_law 814 = .ok (.invokestatic 233, 3) := dgL_27.2.2.2.2.2.2.2.2.2.2.2.1
theorem dL_law_817 : decode cL_law 817 = .ok (.istore 5, 2) := dgL_27.2.2.2.2.2.2.2.2.2.2.2.2.1
theorem dL_law_819 : decode cL_law 819 = .ok (.aload_n 2, 1) := dgL_27.2.2.2.2.2.2.2.2.2.2.2.2.2.1
theorem dL_law_820 : decode cL_law 820 = .ok (.aload_n 0, 1) := dgL_27.2.2.2.2.2.2.2.2.2.2.2.2.2.2.1
theorem dL_law_821 : decode cL_law 821 = .ok (.iload 4, 2) := dgL_27.2.2.2.2.2.2.2.2.2.2.2.2.2.2.2.1
theorem dL_law_823 : decode cL_law 823 = .ok (.iconst 1, 1) := dgL_27.2.2.2.2.2.2.2.2.2.2.2.2.2.2.2.2.1
theorem dL_law_824 : decode cL_law 824 = .ok (.iadd, 1) := dgL_27.2.2.2.2.2.2.2.2.2.2.2.2.2.2.2.2.2.1
theorem dL_law_825 : decode cL_law 825 = .ok (.iaload, 1) := dgL_27.2.2.2.2.2.2.2.2.2.2.2.2.2.2.2.2.2.2.1
theorem dL_law_826 : decode cL_law 826 = .ok (.aload_n 0, 1) := dgL_27.2.2.2.2.2.2.2.2.2.2.2.2.2.2.2.2.2.2.2.1
theorem dL_law_827 : decode cL_law 827 = .ok (.iload 4, 2) := dgL_27.2.2.2.2.2.2.2.2.2.2.2.2.2.2.2.2.2.2.2.2.1
theorem dL_law_829 : decode cL_law 829 = .ok (.iconst 2, 1) := dgL_27.2.2.2.2.2.2.2.2.2.2.2.2.2.2.2.2.2.2.2.2.2.1
theorem dL_law_830 : decode cL_law 830 = .ok (.iadd, 1) := dgL_27.2.2.2.2.2.2.2.2.2.2.2.2.2.2.2.2.2.2.2.2.2.2.1
theorem dL_law_831 : decode cL_law 831 = .ok (.iaload, 1) := dgL_27.2.2.2.2.2.2.2.2.2.2.2.2.2.2.2.2.2.2.2.2.2.2.2.1
theorem dL_law_832 : decode cL_law 832 = .ok (.invokevirtual 235, 3) := dgL_27.2.2.2.2.2.2.2.2.2.2.2.2.2.2.2.2.2.2.2.2.2.2.2.2.1
theorem dL_law_835 : decode cL_law 835 = .ok (.istore 6, 2) := dgL_27.2.2.2.2.2.2.2.2.2.2.2.2.2.2.2.2.2.2.2.2.2.2.2.2.2.1
theorem dL_law_837 : decode cL_law 837 = .ok (.goto 1635, 3) := dgL_27.2.2.2.2.2.2.2.2.2.2.2.2.2.2.2.2.2.2.2.2.2.2.2.2.2.2.1
theorem dL_law_840 : decode cL_law 840 = .ok (.aload_n 1, 1) := dgL_27.2.2.2.2.2.2.2.2.2.2.2.2.2.2.2.2.2.2.2.2.2.2.2.2.2.2.2.1
theorem dL_law_841 : decode cL_law 841 = .ok (.aload_n 0, 1) := dgL_27.2.2.2.2.2.2.2.2.2.2.2.2.2.2.2.2.2.2.2.2.2.2.2.2.2.2.2.2.1
theorem dL_law_842 : decode cL_law 842 = .ok (.iload 4, 2) := dgL_27.2.2.2.2.2.2.2.2.2.2.2.2.2.2.2.2.2.2.2.2.2.2.2.2.2.2.2.2.2.1
theorem dL_law_844 : decode cL_law 844 = .ok (.iconst 1, 1) := dgL_27.2.2.2.2.2.2.2.2.2.2.2.2.2.2.2.2.2.2.2.2.2.2.2.2.2.2.2.2.2.2.1
theorem dL_law_845 : decode cL_law 845 = .ok (.iadd, 1) := dgL_27.2.2.2.2.2.2.2.2.2.2.2.2.2.2.2.2.2.2.2.2.2.2.2.2.2.2.2.2.2.2.2.1
theorem dL_law_846 : decode cL_law 846 = .ok (.iaload, 1) := dgL_27.2.2.2.2.2.2.2.2.2.2.2.2.2.2.2.2.2.2.2.2.2.2.2.2.2.2.2.2.2.2.2.2.1
theorem dL_law_847 : decode cL_law 847 = .ok (.aload_n 0, 1) := dgL_27.2.2.2.2.2.2.2.2.2.2.2.2.2.2.2.2.2.2.2.2.2.2.2.2.2.2.2.2.2.2.2.2.2.1
theorem dL_law_848 : decode cL_law 848 = .ok (.iload 4, 2) := dgL_27.2.2.2.2.2.2.2.2.2.2.2.2.2.2.2.2.2.2.2.2.2.2.2.2.2.2.2.2.2.2.2.2.2.2.1
theorem dL_law_850 : decode cL_law 850 = .ok (.iconst 2, 1) := dgL_27.2.2.2.2.2.2.2.2.2.2.2.2.2.2.2.2.2.2.2.2.2.2.2.2.2.2.2.2.2.2.2.2.2.2.2.1
theorem dL_law_851 : decode cL_law 851 = .ok (.iadd, 1) := dgL_27.2.2.2.2.2.2.2.2.2.2.2.2.2.2.2.2.2.2.2.2.2.2.2.2.2.2.2.2.2.2.2.2.2.2.2.2.1
theorem dL_law_852 : decode cL_law 852 = .ok (.iaload, 1) := dgL_27.2.2.2.2.2.2.2.2.2.2.2.2.2.2.2.2.2.2.2.2.2.2.2.2.2.2.2.2.2.2.2.2.2.2.2.2.2.1
theorem dL_law_853 : decode cL_law 853 = .ok (.aload_n 3, 1) := dgL_27.2.2.2.2.2.2.2.2.2.2.2.2.2.2.2.2.2.2.2.2.2.2.2.2.2.2.2.2.2.2.2.2.2.2.2.2.2.2.1
theorem dL_law_854 : decode cL_law 854 = .ok (.invokestatic 236, 3) := dgL_27.2.2.2.2.2.2.2.2.2.2.2.2.2.2.2.2.2.2.2.2.2.2.2.2.2.2.2.2.2.2.2.2.2.2.2.2.2.2.2
theorem dgL_28 : (decode cL_law 857 = .ok (.istore 5, 2)) ∧ (decode cL_law 859 = .ok (.aload_n 2, 1)) ∧ (decode cL_law 860 = .ok (.aload_n 0, 1)) ∧ (decode cL_law 861 = .ok (.iload 4, 2)) ∧ (decode cL_law 863 = .ok (.iconst 1, 1)) ∧ (decode cL_law 864 = .ok (.iadd, 1)) ∧ (decode cL_law 865 = .ok (.iaload, 1)) ∧ (decode cL_law 866 = .ok (.aload_n 0, 1)) ∧ (decode cL_law 867 = .ok (.iload 4, 2)) ∧ (decode cL_law 869 = .ok (.iconst 2, 1)) ∧ (decode cL_law 870 = .ok (.iadd, 1)) ∧ (decode cL_law 871 = .ok (.iaload, 1)) ∧ (decode cL_law 872 = .ok (.invokevirtual 238, 3)) ∧ (decode cL_law 875 = .ok (.istore 6, 2)) ∧ (decode cL_law 877 = .ok (.goto 1595, 3)) ∧ (decode cL_law 880 = .ok (.aload_n 1, 1)) ∧ (decode cL_law 881 = .ok (.aload_n 0, 1)) ∧ (decode cL_law 882 = .ok (.iload 4, 2)) ∧ (decode cL_law 884 = .ok (.iconst 1, 1)) ∧ (decode cL_law 885 = .ok (.iadd, 1)) ∧ (decode cL_law 886 = .ok (.iaload, 1)) ∧ (decode cL_law 887 = .ok (.aload_n 3, 1)) ∧ (decode cL_law 888 = .ok (.invokestatic 239, 3)) ∧ (decode cL_law 891 = .ok (.istore 5, 2)) ∧ (decode cL_law 893 = .ok (.aload_n 2, 1)) ∧ (decode cL_law 894 = .ok (.aload_n 0, 1)) ∧ (decode cL_law 895 = .ok (.iload 4, 2)) ∧ (decode cL_law 897 = .ok (.iconst 1, 1)) ∧ (decode cL_law 898 = .ok (.iadd, 1)) ∧ (decode cL_law 899 = .ok (.iaload, 1)) ∧ (decode cL_law 900 = .ok (.invokevirtual 241, 3)) ∧ (decode cL_law 903 = .ok (.istore 6, 2)) ∧ (decode cL_law 905 = .ok (.goto 1567, 3)) ∧ (decode cL_law 908 = .ok (.aload_n 1, 1)) ∧ (decode cL_law 909 = .ok (.aload_n 0, 1)) ∧ (decode cL_law 910 = .ok (.iload 4, 2)) ∧ (decode cL_law 912 = .ok (.iconst 1, 1)) ∧ (decode cL_law 913 = .ok (.iadd, 1)) ∧ (decode cL_law 914 = .ok (.iaload, 1)) ∧ (decode cL_law 915 = .ok (.aload_n 3, 1)) := by decide +kernel
theorem dL_law_857 : decode cL_law 857 = .ok (.istore 5, 2) := dgL_28.1
theorem dL_law_859 : decode cL_law 859 = .ok (.aload_n 2, 1) := dgL_28.2.1
theorem dL_law_860 : decode cL_law 860 = .ok (.aload_n 0, 1) := dgL_28.2.2.1
theorem dL_law_861 : decode cL_law 861 = .ok (.iload 4, 2) := dgL_28.2.2.2.1
theorem dL_law_863 : decode cL_law 863 = .ok (.iconst 1, 1) := dgL_28.2.2.2.2.1
theorem dL_law_864 : decode cL_law 864 = .ok (.iadd, 1) := dgL_28.2.2.2.2.2.1
theorem dL_law_865 : decode cL_law 865 = .ok (.iaload, 1) := dgL_28.2.2.2.2.2.2.1
theorem dL_law_866 : decode cL_law 866 = .ok (.aload_n 0, 1) := dgL_28.2.2.2.2.2.2.2.1
theorem dL_law_867 : decode cL_law 867 = .ok (.iload 4, 2) := dgL_28.2.2.2.2.2.2.2.2.1
theorem dL_law_869 : decode cL_law 869 = .ok (.iconst 2, 1) := dgL_28.2.2.2.2.2.2.2.2.2.1
theorem dL_law_870 : decode cL_law 870 = .ok (.iadd, 1) := dgL_28.2.2.2.2.2.2.2.2.2.2.1
theorem dL_law_871 : decode cL_law 871 = .ok (.iaload, 1) := dgL_28.2.2.2.2.2.2.2.2.2.2.2.1
theorem dL_law_872 : decode cL_law 872 = .ok (.invokevirtual 238, 3) := dgL_28.2.2.2.2.2.2.2.2.2.2.2.2.1
theorem dL_law_875 : decode cL_law 875 = .ok (.istore 6, 2) := dgL_28.2.2.2.2.2.2.2.2.2.2.2.2.2.1
theorem dL_law_877 : decode cL_law 877 = .ok (.goto 1595, 3) := dgL_28.2.2.2.2.2.2.2.2.2.2.2.2.2.2.1
theorem dL_law_880 : decode cL_law 880 = .ok (.aload_n 1, 1) := dgL_28.2.2.2.2.2.2.2.2.2.2.2.2.2.2.2.1
theorem dL_law_881 : decode cL_law 881 = .ok (.aload_n 0, 1) := dgL_28.2.2.2.2.2.2.2.2.2.2.2.2.2.2.2.2.1
theorem dL_law_882 : decode cL_law 882 = .ok (.iload 4, 2) := dgL_28.2.2.2.2.2.2.2.2.2.2.2.2.2.2.2.2.2.1
theorem dL_law_884 : decode cL_law 884 = .ok (.iconst 1, 1) := dgL_28.2.2.2.2.2.2.2.2.2.2.2.2.2.2.2.2.2.2.1
theorem dL_law_885 : decode cL_law 885 = .ok (.iadd, 1) := dgL_28.2.2.2.2.2.2.2.2.2.2.2.2.2.2.2.2.2.2.2.1
theorem dL_law_886 : decode cL_law 886 = .ok (.iaload, 1) := dgL_28.2.2.2.2.2.2.2.2.2.2.2.2.2.2.2.2.2.2.2.2.1
theorem dL_law_887 : decode cL_law 887 = .ok (.aload_n 3, 1) := dgL_28.2.2.2.2.2.2.2.2.2.2.2.2.2.2.2.2.2.2.2.2.2.1
theorem dL_law_888 : decode cL_law 888 = .ok (.invokestatic 239, 3) := dgL_28.2.2.2.2.2.2.2.2.2.2.2.2.2.2.2.2.2.2.2.2.2.2.1
theorem dL_law_891 : decode cL_law 891 = .ok (.istore 5, 2) := dgL_28.2.2.2.2.2.2.2.2.2.2.2.2.2.2.2.2.2.2.2.2.2.2.2.1
theorem dL_law_893 : decode cL_law 893 = .ok (.aload_n 2, 1) := dgL_28.2.2.2.2.2.2.2.2.2.2.2.2.2.2.2.2.2.2.2.2.2.2.2.2.1
theorem dL_law_894 : decode cL_law 894 = .ok (.aload_n 0, 1) := dgL_28.2.2.2.2.2.2.2.2.2.2.2.2.2.2.2.2.2.2.2.2.2.2.2.2.2.1
theorem dL_law_895 : decode cL_law 895 = .ok (.iload 4, 2) := dgL_28.2.2.2.2.2.2.2.2.2.2.2.2.2.2.2.2.2.2.2.2.2.2.2.2.2.2.1
theorem dL_law_897 : decode cL_law 897 = .ok (.iconst 1, 1) := dgL_28.2.2.2.2.2.2.2.2.2.2.2.2.2.2.2.2.2.2.2.2.2.2.2.2.2.2.2.1
theorem dL_law_898 : decode cL_law 898 = .ok (.iadd, 1) := dgL_28.2.2.2.2.2.2.2.2.2.2.2.2.2.2.2.2.2.2.2.2.2.2.2.2.2.2.2.2.1
theorem dL_law_899 : decode cL_law 899 = .ok (.iaload, 1) := dgL_28.2.2.2.2.2.2.2.2.2.2.2.2.2.2.2.2.2.2.2.2.2.2.2.2.2.2.2.2.2.1
theorem dL_law_900 : decode cL_law 900 = .ok (.invokevirtual 241, 3) := dgL_28.2.2.2.2.2.2.2.2.2.2.2.2.2.2.2.2.2.2.2.2.2.2.2.2.2.2.2.2.2.2.1
theorem dL_law_903 : decode cL_law 903 = .ok (.istore 6, 2) := dgL_28.2.2.2.2.2.2.2.2.2.2.2.2.2.2.2.2.2.2.2.2.2.2.2.2.2.2.2.2.2.2.2.1
theorem dL_law_905 : decode cL_law 905 = .ok (.goto 1567, 3) := dgL_28.2.2.2.2.2.2.2.2.2.2.2.2.2.2.2.2.2.2.2.2.2.2.2.2.2.2.2.2.2.2.2.2.1
theorem dL_law_908 : decode cL_law 908 = .ok (.aload_n 1, 1) := dgL_28.2.2.2.2.2.2.2.2.2.2.2.2.2.2.2.2.2.2.2.2.2.2.2.2.2.2.2.2.2.2.2.2.2.1
theorem dL_law_909 : decode cL_law 909 = .ok (.aload_n 0, 1) := dgL_28.2.2.2.2.2.2.2.2.2.2.2.2.2.2.2.2.2.2.2.2.2.2.2.2.2.2.2.2.2.2.2.2.2.2.1
theorem dL_law_910 : decode cL_law 910 = .ok (.iload 4, 2) := dgL_28.2.2.2.2.2.2.2.2.2.2.2.2.2.2.2.2.2.2.2.2.2.2.2.2.2.2.2.2.2.2.2.2.2.2.2.1
theorem dL_law_912 : decode cL_law 912 = .ok (.iconst 1, 1) := dgL_28.2.2.2.2.2.2.2.2.2.2.2.2.2.2.2.2.2.2.2.2.2.2.2.2.2.2.2.2.2.2.2.2.2.2.2.2.1
theorem dL_law_913 : decode cL_law 913 = .ok (.iadd, 1) := dgL_28.2.2.2.2.2.2.2.2.2.2.2.2.2.2.2.2.2.2.2.2.2.2.2.2.2.2.2.2.2.2.2.2.2.2.2.2.2.1
theorem dL_law_914 : decode cL_law 914 = .ok (.iaload, 1) := dgL_28.2.2.2.2.2.2.2.2.2.2.2.2.2.2.2.2.2.2.2.2.2.2.2.2.2.2.2.2.2.2.2.2.2.2.2.2.2.2.1
theorem dL_law_915 : decode cL_law 915 = .ok (.aload_n 3, 1) := dgL_28.2.2.2.2.2.2.2.2.2.2.2.2.2.2.2.2.2.2.2.2.2.2.2.2.2.2.2.2.2.2.2.2.2.2.2.2.2.2.2
theorem dgL_29 : (decode cL_law 916 = .ok (.invokestatic 242, 3)) ∧ (decode cL_law 919 = .ok (.istore 5, 2)) ∧ (decode cL_law 921 = .ok (.aload_n 2, 1)) ∧ (decode cL_law 922 = .ok (.aload_n 0, 1)) ∧ (decode cL_law 923 = .ok (.iload 4, 2)) ∧ (decode cL_law 925 = .ok (.iconst 1, 1)) ∧ (decode cL_law 926 = .ok (.iadd, 1)) ∧ (decode cL_law 927 = .ok (.iaload, 1)) ∧ (decode cL_law 928 = .ok (.invokevirtual 244, 3)) ∧ (decode cL_law 931 = .ok (.istore 6, 2)) ∧ (decode cL_law 933 = .ok (.goto 1539, 3)) ∧ (decode cL_law 936 = .ok (.aload_n 1, 1)) ∧ (decode cL_law 937 = .ok (.aload_n 3, 1)) ∧ (decode cL_law 938 = .ok (.invokestatic 245, 3)) ∧ (decode cL_law 941 = .ok (.istore 5, 2)) ∧ (decode cL_law 943 = .ok (.aload_n 2, 1)) ∧ (decode cL_law 944 = .ok (.invokevirtual 248, 3)) ∧ (decode cL_law 947 = .ok (.istore 6, 2)) ∧ (decode cL_law 949 = .ok (.goto 1523, 3)) ∧ (decode cL_law 952 = .ok (.aload_n 1, 1)) ∧ (decode cL_law 953 = .ok (.invokevirtual 249, 3)) ∧ (decode cL_law 956 = .ok (.pop, 1)) ∧ (decode cL_law 957 = .ok (.aload_n 2, 1)) ∧ (decode cL_law 958 = .ok (.invokevirtual 252, 3)) ∧ (decode cL_law 961 = .ok (.pop, 1)) ∧ (decode cL_law 962 = .ok (.goto 1510, 3)) ∧ (decode cL_law 965 = .ok (.aload_n 1, 1)) ∧ (decode cL_law 966 = .ok (.aload_n 0, 1)) ∧ (decode cL_law 967 = .ok (.iload 4, 2)) ∧ (decode cL_law 969 = .ok (.iconst 1, 1)) ∧ (decode cL_law 970 = .ok (.iadd, 1)) ∧ (decode cL_law 971 = .ok (.iaload, 1)) ∧ (decode cL_law 972 = .ok (.aload_n 3, 1)) ∧ (decode cL_law 973 = .ok (.invokestatic 253, 3)) ∧ (decode cL_law 976 = .ok (.istore 5, 2)) ∧ (decode cL_law 978 = .ok (.aload_n 2, 1)) ∧ (decode cL_law 979 = .ok (.aload_n 0, 1)) ∧ (decode cL_law 980 = .ok (.iload 4, 2)) ∧ (decode cL_law 982 = .ok (.iconst 1, 1)) ∧ (decode cL_law 983 = .ok (.iadd, 1)) := by decide +kernel
theorem dL_law_916 : decode cL_law 916 = .ok (.invokestatic 242, 3) := dgL_29.1
theorem dL_law_919 : decode cL_law 919 = .ok (.istore 5, 2) := dgL_29.2.1
theorem dL_law_921 : decode cL_law 921 = .ok (.aload_n 2, 1) := dgL_29.2.2.1
theorem dL_law_922 : decode cL_law 922 = .ok (.aload_n 0, 1) := dgL_29.2.2.2.1
theorem dL_law_923 : decode cL_law 923 = .ok (.iload 4, 2) := dgL_29.2.2.2.2.1
theorem dL_law_925 : decode cL_law 925 = .ok (.iconst 1, 1) := dgL_29.2.2.2.2.2.1
theorem dL_law_926 : decode cL_law 926 = .ok (.iadd, 1) := dgL_29.2.2.2.2.2.2.1
theorem dL_law_927 : decode cL_law 927 = .ok (.iaload, 1) := dgL_29.2.2.2.2.2.2.2.1
theorem dL_law_928 : decode cL_law 928 = .ok (.invokevirtual 244, 3) := dgL_29.2.2.2.2.2.2.2.2.1
theorem dL_law_931 : decode cL_law 931 = .ok (.istore 6, 2) := dgL_29.2.2.2.2.2.2.2.2.2.1
theorem dL_law_933 : decode cL_law 933 = .ok (.goto 1539, 3) := dgL_29.2.2.2.2.2.2.2.2.2.2.1
theorem dL_law_936 : decode cL_law 936 = .ok (.aload_n 1, 1) := dgL_29.2.2.2.2.2.2.2.2.2.2.2.1
theorem dL_law_937 : decode cL_law 937 = .ok (.aload_n 3, 1) := dgL_29.2.2.2.2.2.2.2.2.2.2.2.2.1
theorem dL_law_938 : decode cL_law 938 = .ok (.invokestatic 245, 3) := dgL_29.2.2.2.2.2.2.2.2.2.2.2.2.2.1
theorem dL_law_941 : decode cL_law 941 = .ok (.istore 5, 2) := dgL_29.2.2.2.2.2.2.2.2.2.2.2.2.2.2.1
theorem dL_law_943 : decode cL_law 943 = .ok (.aload_n 2, 1) := dgL_29.2.2.2.2.2.2.2.2.2.2.2.2.2.2.2.1
theorem dL_law_944 : decode cL_law 944 = .ok (.invokevirtual 248, 3) := dgL_29.2.2.2.2.2.2.2.2.2.2.2.2.2.2.2.2.1
theorem dL_law_947 : decode cL_law 947 = .ok (.istore 6, 2) := dgL_29.2.2.2.2.2.2.2.2.2.2.2.2.2.2.2.2.2.1
theorem dL_law_949 : decode cL_law 949 = .ok (.goto 1523, 3) := dgL_29.2.2.2.2.2.2.2.2.2.2.2.2.2.2.2.2.2.2.1
theorem dL_law_952 : decode cL_law 952 = .ok (.aload_n 1, 1) := dgL_29.2.2.2.2.2.2.2.2.2.2.2.2.2.2.2.2.2.2.2.1
theorem dL_law_953 : decode cL_law 953 = .ok (.invokevirtual 249, 3) := dgL_29.2.2.2.2.2.2.2.2.2.2.2.2.2.2.2.2.2.2.2.2.1
theorem dL_law_956 : decode cL_law 956 = .ok (.pop, 1) := dgL_29.2.2.2.2.2.2.2.2.2.2.2.2.2.2.2.2.2.2.2.2.2.1
theorem dL_law_957 : decode cL_law 957 = .ok (.aload_n 2, 1) := dgL_29.2.2.2.2.2.2.2.2.2.2.2.2.2.2.2.2.2.2.2.2.2.2.1
theorem dL_law_958 : decode cL_law 958 = .ok (.invokevirtual 252, 3) := dgL_29.2.2.2.2.2.2.2.2.2.2.2.2.2.2.2.2.2.2.2.2.2.2.2.1
theorem dL_law_961 : decode cL_law 961 = .ok (.pop, 1) := dgL_29.2.2.2.2.2.2.2.2.2.2.2.2.2.2.2.2.2.2.2.2.2.2.2.2.1
theorem dL_law_962 : decode cL_law 962 = .ok (.goto 1510, 3) := dgL_29.2.2.2.2.2.2.2.2.2.2.2.2.2.2.2.2.2.2.2.2.2.2.2.2.2.1
theorem dL_law_965 : decode cL_law 965 = .ok (.aload_n 1, 1) := dgL_29.2.2.2.2.2.2.2.2.2.2.2.2.2.2.2.2.2.2.2.2.2.2.2.2.2.2.1
theorem dL_law_966 : decode cL_law 966 = .ok (.aload_n 0, 1) := dgL_29.2.2.2.2.2.2.2.2.2.2.2.2.2.2.2.2.2.2.2.2.2.2.2.2.2.2.2.1
theorem dL_law_967 : decode cL_law 967 = .ok (.iload 4, 2) := dgL_29.2.2.2.2.2.2.2.2.2.2.2.2.2.2.2.2.2.2.2.2.2.2.2.2.2.2.2.2.1
theorem dL_law_969 : decode cL_law 969 = .ok (.iconst 1, 1) := dgL_29.2.2.2.2.2.2.2.2.2.2.2.2.2.2.2.2.2.2.2.2.2.2.2.2.2.2.2.2.2.1
theorem dL_law_970 : decode cL_law 970 = .ok (.iadd, 1) := dgL_29.2.2.2.2.2.2.2.2.2.2.2.2.2.2.2.2.2.2.2.2.2.2.2.2.2.2.2.2.2.2.1
theorem dL_law_971 : decode cL_law 971 = .ok (.iaload, 1) := dgL_29.2.2.2.2.2.2.2.2.2.2.2.2.2.2.2.2.2.2.2.2.2.2.2.2.2.2.2.2.2.2.2.1
theorem dL_law_972 : decode cL_law 972 = .ok (.aload_n 3, 1) := dgL_29.2.2.2.2.2.2.2.2.2.2.2.2.2.2.2.2.2.2.2.2.2.2.2.2.2.2.2.2.2.2.2.2.1
theorem dL_law_973 : decode cL_law 973 = .ok (.invokestatic 253, 3) := dgL_29.2.2.2.2.2.2.2.2.2.2.2.2.2.2.2.2.2.2.2.2.2.2.2.2.2.2.2.2.2.2.2.2.2.1
theorem dL_law_976 : decode cL_law 976 = .ok (.istore 5, 2) := dgL_29.2.2.2.2.2.2.2.2.2.2.2.2.2.2.2.2.2.2.2.2.2.2.2.2.2.2.2.2.2.2.2.2.2.2.1
theorem dL_law_978 : decode cL_law 978 = .ok (.aload_n 2, 1) := dgL_29.2.2.2.2.2.2.2.2.2.2.2.2.2.2.2.2.2.2.2.2.2.2.2.2.2.2.2.2.2.2.2.2.2.2.2.1
theorem dL_law_979 : decode cL_law 979 = .ok (.aload_n 0, 1) := dgL_29.2.2.2.2.2.2.2.2.2.2.2.2.2.2.2.2.2.2.2.2.2.2.2.2.2.2.2.2.2.2.2.2.2.2.2.2.1
theorem dL_law_980 : decode cL_law 980 = .ok (.iload 4, 2) := dgL_29.2.2.2.2.2.2.2.2.2.2.2.2.2.2.2.2.2.2.2.2.2.2.2.2.2.2.2.2.2.2.2.2.2.2.2.2.2.1
theorem dL_law_982 : decode cL_law 982 = .ok (.iconst 1, 1) := dgL_29.2.2.2.2.2.2.2.2.2.2.2.2.2.2.2.2.2.2.2.2.2.2.2.2.2.2.2.2.2.2.2.2.2.2.2.2.2.2.1
theorem dL_law_983 : decode cL_law 983 = .ok (.iadd, 1) := dgL_29.2.2.2.2.2.2.2.2.2.2.2.2.2.2.2.2.2.2.2.2.2.2.2.2.2.2.2.2.2.2.2.2.2.2.2.2.2.2.2
theorem dgL_30 : (decode cL_law 984 = .ok (.iaload, 1)) ∧ (decode cL_law 985 = .ok (.invokevirtual 255, 3)) ∧ (decode cL_law 988 = .ok (.istore 6, 2)) ∧ (decode cL_law 990 = .ok (.aload_n 2, 1)) ∧ (decode cL_law 991 = .ok (.invokevirtual 256, 3)) ∧ (decode cL_law 994 = .ok (.iload 5, 2)) ∧ (decode cL_law 996 = .ok (.if_icmp .eq 5, 3)) ∧ (decode cL_law 999 = .ok (.iconst 0, 1)) ∧ (decode cL_law 1000 = .ok (.ireturn, 1)) ∧ (decode cL_law 1001 = .ok (.iload 5, 2)) ∧ (decode cL_law 1003 = .ok (.ifCond .ne 23, 3)) ∧ (decode cL_law 1006 = .ok (.aload_n 3, 1)) ∧ (decode cL_law 1007 = .ok (.getfield 13, 3)) ∧ (decode cL_law 1010 = .ok (.iload 6, 2)) ∧ (decode cL_law 1012 = .ok (.ifCond .eq 7, 3)) ∧ (decode cL_law 1015 = .ok (.lconst 1, 1)) ∧ (decode cL_law 1016 = .ok (.goto 4, 3)) ∧ (decode cL_law 1019 = .ok (.lconst 0, 1)) ∧ (decode cL_law 1020 = .ok (.lcmp, 1)) ∧ (decode cL_law 1021 = .ok (.ifCond .eq 5, 3)) ∧ (decode cL_law 1024 = .ok (.iconst 0, 1)) ∧ (decode cL_law 1025 = .ok (.ireturn, 1)) ∧ (decode cL_law 1026 = .ok (.goto 1446, 3)) ∧ (decode cL_law 1029 = .ok (.aload_n 1, 1)) ∧ (decode cL_law 1030 = .ok (.aload_n 0, 1)) ∧ (decode cL_law 1031 = .ok (.iload 4, 2)) ∧ (decode cL_law 1033 = .ok (.iconst 1, 1)) ∧ (decode cL_law 1034 = .ok (.iadd, 1)) ∧ (decode cL_law 1035 = .ok (.iaload, 1)) ∧ (decode cL_law 1036 = .ok (.aload_n 3, 1)) ∧ (decode cL_law 1037 = .ok (.invokestatic 259, 3)) ∧ (decode cL_law 1040 = .ok (.istore 5, 2)) ∧ (decode cL_law 1042 = .ok (.aload_n 2, 1)) ∧ (decode cL_law 1043 = .ok (.aload_n 0, 1)) ∧ (decode cL_law 1044 = .ok (.iload 4, 2)) ∧ (decode cL_law 1046 = .ok (.iconst 1, 1)) ∧ (decode cL_law 1047 = .ok (.iadd, 1)) ∧ (decode cL_law 1048 = .ok (.iaload, 1)) ∧ (decode cL_law 1049 = .ok (.invokevirtual 261, 3)) ∧ (decode cL_law 1052 = .ok (.istore 6, 2)) := by decide +kernel
theorem dL_law_984 : decode cL_law 984 = .ok (.iaload, 1) := dgL_30.1
theorem dL_law_985 : decode cL_law 985 = .ok (.invokevirtual 255, 3) := dgL_30.2.1
theorem dL_law_988 : decode cL_law 988 = .ok (.istore 6, 2) := dgL_30.2.2.1
theorem dL_law_990 : decode cL_law 990 = .ok (.aload_n 2, 1) := dgL_30.2.2.2.1
theorem dL_law_991 : decode cL_law 991 = .ok (.invokevirtual 256, 3) := dgL_30.2.2.2.2.1
theorem dL_law_994 : decode cL_law 994 = .ok (.iload 5, 2) := dgL_30.2.2.2.2.2.1
theorem dL_law_996 : decode cL_law 996 = .ok (.if_icmp .eq 5, 3) := dgL_30.2.2.2.2.2.2.1
theorem dL_law_999 : decode cL_law 999 = .ok (.iconst 0, 1) := dgL_30.2.2.2.2.2.2.2.1
theorem dL_law_1000 : decode cL_law 1000 = .ok (.ireturn, 1) := dgL_30.2.2.2.2.2.2.2.2.1
theorem dL_law_1001 : decode cL_law 1001 = .ok (.iload 5, 2) := dgL_30.2.2.2.2.2.2.2.2.2.1
theorem dL_law_1003 : decode cL_law 1003 = .ok (.ifCond .ne 23, 3) := dgL_30.2.2.2.2.2.2.2.2.2.2.1
theorem dL_law_1006 : decode cL_law 1006 = .ok (.aload_n 3, 1) := dgL_30.2.2.2.2.2.2.2.2.2.2.2.1
theorem dL_law_1007 : decode cL_law 1007 = .ok (.getfield 13, 3) := dgL_30.2.2.2.2.2.2.2.2.2.2.2.2.1
theorem dL_law_1010 : decode cL_law 1010 = .ok (.iload 6, 2) := dgL_30.2.2.2.2.2.2.2.2.2.2.2.2.2.1
theorem dL_law_1012 : decode cL_law 1012 = .ok (.ifCond .eq 7, 3) := dgL_30.2.2.2.2.2.2.2.2.2.2.2.2.2.2.1
theorem dL_law_1015 : decode cL_law 1015 = .ok (.lconst 1, 1) := dgL_30.2.2.2.2.2.2.2.2.2.2.2.2.2.2.2.1
theorem dL_law_1016 : decode cL_law 1016 = .ok (.goto 4, 3) := dgL_30.2.2.2.2.2.2.2.2.2.2.2.2.2.2.2.2.1
theorem dL_law_1019 : decode cL_law 1019 = .ok (.lconst 0, 1) := dgL_30.2.2.2.2.2.2.2.2.2.2.2.2.2.2.2.2.2.1
theorem dL_law_1020 : decode cL_law 1020 = .ok (.lcmp, 1) := dgL_30.2.2.2.2.2.2.2.2.2.2.2.2.2.2.2.2.2.2.1
theorem dL_law_1021 : decode cL_law 1021 = .ok (.ifCond .eq 5, 3) := dgL_30.2.2.2.2.2.2.2.2.2.2.2.2.2.2.2.2.2.2.2.1
theorem dL_law_1024 : decode cL_law 1024 = .ok (.iconst 0, 1) := dgL_30.2.2.2.2.2.2.2.2.2.2.2.2.2.2.2.2.2.2.2.2.1
theorem dL_law_1025 : decode cL_law 1025 = .ok (.ireturn, 1) := dgL_30.2.2.2.2.2.2.2.2.2.2.2.2.2.2.2.2.2.2.2.2.2.1
theorem dL_law_1026 : decode cL_law 1026 = .ok (.goto 1446, 3) := dgL_30.2.2.2.2.2.2.2.2.2.2.2.2.2.2.2.2.2.2.2.2.2.2.1
theorem dL_law_1029 : decode cL_law 1029 = .ok (.aload_n 1, 1) := dgL_30.2.2.2.2.2.2.2.2.2.2.2.2.2.2.2.2.2.2.2.2.2.2.2.1
theorem dL_law_1030 : decode cL_law 1030 = .ok (.aload_n 0, 1) := dgL_30.2.2.2.2.2.2.2.2.2.2.2.2.2.2.2.2.2.2.2.2.2.2.2.2.1
theorem dL_law_1031 : decode cL_law 1031 = .ok (.iload 4, 2) := dgL_30.2.2.2.2.2.2.2.2.2.2.2.2.2.2.2.2.2.2.2.2.2.2.2.2.2.1
theorem dL_law_1033 : decode cL_law 1033 = .ok (.iconst 1, 1) := dgL_30.2.2.2.2.2.2.2.2.2.2.2.2.2.2.2.2.2.2.2.2.2.2.2.2.2.2.1
theorem dL_law_1034 : decode cL_law 1034 = .ok (.iadd, 1) := dgL_30.2.2.2.2.2.2.2.2.2.2.2.2.2.2.2.2.2.2.2.2.2.2.2.2.2.2.2.1
theorem dL_law_1035 : decode cL_law 1035 = .ok (.iaload, 1) := dgL_30.2.2.2.2.2.2.2.2.2.2.2.2.2.2.2.2.2.2.2.2.2.2.2.2.2.2.2.2.1
theorem dL_law_1036 : decode cL_law 1036 = .ok (.aload_n 3, 1) := dgL_30.2.2.2.2.2.2.2.2.2.2.2.2.2.2.2.2.2.2.2.2.2.2.2.2.2.2.2.2.2.1
theorem dL_law_1037 : decode cL_law 1037 = .ok (.invokestatic 259, 3) := dgL_30.2.2.2.2.2.2.2.2.2.2.2.2.2.2.2.2.2.2.2.2.2.2.2.2.2.2.2.2.2.2.1
theorem dL_law_1040 : decode cL_law 1040 = .ok (.istore 5, 2) := dgL_30.2.2.2.2.2.2.2.2.2.2.2.2.2.2.2.2.2.2.2.2.2.2.2.2.2.2.2.2.2.2.2.1
theorem dL_law_1042 : decode cL_law 1042 = .ok (.aload_n 2, 1) := dgL_30.2.2.2.2.2.2.2.2.2.2.2.2.2.2.2.2.2.2.2.2.2.2.2.2.2.2.2.2.2.2.2.2.1
theorem dL_law_1043 : decode cL_law 1043 = .ok (.aload_n 0, 1) := dgL_30.2.2.2.2.2.2.2.2.2.2.2.2.2.2.2.2.2.2.2.2.2.2.2.2.2.2.2.2.2.2.2.2.2.1
theorem dL_law_1044 : decode cL_law 1044 = .ok (.iload 4, 2) := dgL_30.2.2.2.2.2.2.2.2.2.2.2.2.2.2.2.2.2.2.2.2.2.2.2.2.2.2.2.2.2.2.2.2.2.2.1
theorem dL_law_1046 : decode cL_law 1046 = .ok (.iconst 1, 1) := dgL_30.2.2.2.2.2.2.2.2.2.2.2.2.2.2.2.2.2.2.2.2.2.2.2.2.2.2.2.2.2.2.2.2.2.2.2.1
theorem dL_law_1047 : decode cL_law 1047 = .ok (.iadd, 1) := dgL_30.2.2.2.2.2.2.2.2.2.2.2.2.2.2.2.2.2.2.2.2.2.2.2.2.2.2.2.2.2.2.2.2.2.2.2.2.1
theorem dL_law_1048 : decode cL_law 1048 = .ok (.iaload, 1) := dgL_30.2.2.2.2.2.2.2.2.2.2.2.2.2.2.2.2.2.2.2.2.2.2.2.2.2.2.2.2.2.2.2.2.2.2.2.2.2.1
theorem dL_law_1049 : decode cL_law 1049 = .ok (.invokevirtual 261, 3) := dgL_30.2.2.2.2.2.2.2.2.2.2.2.2.2.2.2.2.2.2.2.2.2.2.2.2.2.2.2.2.2.2.2.2.2.2.2.2.2.2.1
theorem dL_law_1052 : decode cL_law 1052 = .ok (.istore 6, 2) := dgL_30.2.2.2.2.2.2.2.2.2.2.2.2.2.2.2.2.2.2.2.2.2.2.2.2.2.2.2.2.2.2.2.2.2.2.2.2.2.2.2
theorem dgL_31 : (decode cL_law 1054 = .ok (.goto 1418, 3)) ∧ (decode cL_law 1057 = .ok (.aload_n 1, 1)) ∧ (decode cL_law 1058 = .ok (.aload_n 0, 1)) ∧ (decode cL_law 1059 = .ok (.iload 4, 2)) ∧ (decode cL_law 1061 = .ok (.iconst 1, 1)) ∧ (decode cL_law 1062 = .ok (.iadd, 1)) ∧ (decode cL_law 1063 = .ok (.iaload, 1)) ∧ (decode cL_law 1064 = .ok (.aload_n 3, 1)) ∧ (decode cL_law 1065 = .ok (.invokestatic 262, 3)) ∧ (decode cL_law 1068 = .ok (.istore 5, 2)) ∧ (decode cL_law 1070 = .ok (.aload_n 2, 1)) ∧ (decode cL_law 1071 = .ok (.aload_n 0, 1)) ∧ (decode cL_law 1072 = .ok (.iload 4, 2)) ∧ (decode cL_law 1074 = .ok (.iconst 1, 1)) ∧ (decode cL_law 1075 = .ok (.iadd, 1)) ∧ (decode cL_law 1076 = .ok (.iaload, 1)) ∧ (decode cL_law 1077 = .ok (.invokevirtual 264, 3)) ∧ (decode cL_law 1080 = .ok (.istore 6, 2)) ∧ (decode cL_law 1082 = .ok (.goto 1390, 3)) ∧ (decode cL_law 1085 = .ok (.aload_n 1, 1)) ∧ (decode cL_law 1086 = .ok (.aload_n 0, 1)) ∧ (decode cL_law 1087 = .ok (.iload 4, 2)) ∧ (decode cL_law 1089 = .ok (.iconst 1, 1)) ∧ (decode cL_law 1090 = .ok (.iadd, 1)) ∧ (decode cL_law 1091 = .ok (.iaload, 1)) ∧ (decode cL_law 1092 = .ok (.aload_n 3, 1)) ∧ (decode cL_law 1093 = .ok (.invokestatic 265, 3)) ∧ (decode cL_law 1096 = .ok (.istore 5, 2)) ∧ (decode cL_law 1098 = .ok (.aload_n 2, 1)) ∧ (decode cL_law 1099 = .ok (.aload_n 0, 1)) ∧ (decode cL_law 1100 = .ok (.iload 4, 2)) ∧ (decode cL_law 1102 = .ok (.iconst 1, 1)) ∧ (decode cL_law 1103 = .ok (.iadd, 1)) ∧ (decode cL_law 1104 = .ok (.iaload, 1)) ∧ (decode cL_law 1105 = .ok (.invokevirtual 267, 3)) ∧ (decode cL_law 1108 = .ok (.istore 6, 2)) ∧ (decode cL_law 1110 = .ok (.goto 1362, 3)) ∧ (decode cL_law 1113 = .ok (.aload_n 1, 1)) ∧ (decode cL_law 1114 = .ok (.aload_n 0, 1)) ∧ (decode cL_law 1115 = .ok (.iload 4, 2)) := by decide +kernel
theorem dL_law_1054 : decode cL_law 1054 = .ok (.goto 1418, 3) := dgL_31.1
theorem dL_law_1057 : decode cL_law 1057 = .ok (.aload_n 1, 1) := dgL_31.2.1
theorem dL_law_1058 : decode cL_law 1058 = .ok (.aload_n 0, 1) := dgL_31.2.2.1
theorem dL_law_1059 : decode cL_law 1059 = .ok (.iload 4, 2) := dgL_31.2.2.2.1
theorem dL_law_1061 : decode cL_law 1061 = .ok (.iconst 1, 1) := dgL_31.2.2.2.2.1
theorem dL_law_1062 : decode cL_law 1062 = .ok (.iadd, 1) := dgL_31.2.2.2.2.2.1
theorem dL_law_1063 : decode cL_law 1063 = .ok (.iaload, 1) := dgL_31.2.2.2.2.2.2.1
theorem dL_law_1064 : decode cL_law 1064 = .ok (.aload_n 3, 1) := dgL_31.2.2.2.2.2.2.2.1
theorem dL_law_1065 : decode cL_law 1065 = .ok (.invokestatic 262, 3) := dgL_31.2.2.2.2.2.2.2.2.1
theorem dL_law_1068 : decode cL_law 1068 = .ok (.istore 5, 2) := dgL_31.2.2.2.2.2.2.2.2.2.1
theorem dL_law_1070 : decode cL_law 1070 = .ok (.aload_n 2, 1) := dgL_31.2.2.2.2.2.2.2.2.2.2.1
theorem dL_law_1071 : decode cL_law 1071 = .ok (.aload_n 0, 1) := dgL_31.2.2.2.2.2.2.2.2.2.2.2.1
theorem dL_law_1072 : decode cL_law 1072 = .ok (.iload 4, 2) := dgL_31.2.2.2.2.2.2.2.2.2.2.2.2.1
theorem dL_law_1074 : decode cL_law 1074 = .ok (.iconst 1, 1) := dgL_31.2.2.2.2.2.2.2.2.2.2.2.2.2.1
theorem dL_law_1075 : decode cL_law 1075 = .ok (.iadd, 1) := dgL_31.2.2.2.2.2.2.2.2.2.2.2.2.2.2.1
theorem dL_law_1076 : decode cL_law 1076 = .ok (.iaload, 1) := dgL_31.2.2.2.2.2.2.2.2.2.2.2.2.2.2.2.1
theorem dL_law_1077 : decode cL_law 1077 = .ok (.invokevirtual 264, 3) := dgL_31.2.2.2.2.2.2.2.2.2.2.2.2.2.2.2.2.1
theorem dL_law_1080 : decode cL_law 1080 = .ok (.istore 6, 2) := dgL_31.2.2.2.2.2.2.2.2.2.2.2.2.2.2.2.2.2.1
theorem dL_law_1082 : decode cL_law 1082 = .ok (.goto 1390, 3) := dgL_31.2.2.2.2.2.2.2.2.2.2.2.2.2.2.2.2.2.2.1
theorem dL_law_1085 : decode cL_law 1085 = .ok (.aload_n 1, 1) := dgL_31.2.2.2.2.2.2.2.2.2.2.2.2.2.2.2.2.2.2.2.1
theorem dL_law_1086 : decode cL_law 1086 = .ok (.aload_n 0, 1) := dgL_31.2.2.2.2.2.2.2.2.2.2.2.2.2.2.2.2.2.2.2.2.1
theorem dL_law_1087 : decode cL_law 1087 = .ok (.iload 4, 2) := dgL_31.2.2.2.2.2.2.2.2.2.2.2.2.2.2.2.2.2.2.2.2.2.1
theorem dL_law_1089 : decode cL_law 1089 = .ok (.iconst 1, 1) := dgL_31.2.2.2.2.2.2.2.2.2.2.2.2.2.2.2.2.2.2.2.2.2.2.1
theorem dL_law_1090 : decode cL_law 1090 = .ok (.iadd, 1) := dgL_31.2.2.2.2.2.2.2.2.2.2.2.2.2.2.2.2.2.2.2.2.2.2.2.1
theorem dL_law_1091 : decode cL_law 1091 = .ok (.iaload, 1) := dgL_31.2.2.2.2.2.2.2.2.2.2.2.2.2.2.2.2.2.2.2.2.2.2.2.2.1
theorem dL_law_1092 : decode cL_law 1092 = .ok (.aload_n 3, 1) := dgL_31.2.2.2.2.2.2.2.2.2.2.2.2.2.2.2.2.2.2.2.2.2.2.2.2.2.1
theorem dL_law_1093 : decode cL_law 1093 = .ok (.invokestatic 265, 3) := dgL_31.2.2.2.2.2.2.2.2.2.2.2.2.2.2.2.2.2.2.2.2.2.2.2.2.2.2.1
theorem dL_law_1096 : decode cL_law 1096 = .ok (.istore 5, 2) := dgL_31.2.2.2.2.2.2.2.2.2.2.2.2.2.2.2.2.2.2.2.2.2.2.2.2.2.2.2.1
theorem dL_law_1098 : decode cL_law 1098 = .ok (.aload_n 2, 1) := dgL_31.2.2.2.2.2.2.2.2.2.2.2.2.2.2.2.2.2.2.2.2.2.2.2.2.2.2.2.2.1
theorem dL_law_1099 : decode cL_law 1099 = .ok (.aload_n 0, 1) := dgL_31.2.2.2.2.2.2.2.2.2.2.2.2.2.2.2.2.2.2.2.2.2.2.2.2.2.2.2.2.2.1
theorem dL_law_1100 : decode cL_law 1100 = .ok (.iload 4, 2) := dgL_31.2.2.2.2.2.2.2.2.2.2.2.2.2.2.2.2.2.2.2.2.2.2.2.2.2.2.2.2.2.2.1
theorem dL_law_1102 : decode cL_law 1102 = .ok (.iconst 1, 1) := dgL_31.2.2.2.2.2.2.2.2.2.2.2.2.2.2.2.2.2.2.2.2.2.2.2.2.2.2.2.2.2.2.2.1
theorem dL_law_1103 : decode cL_law 1103 = .ok (.iadd, 1) := dgL_31.2.2.2.2.2.2.2.2.2.2.2.2.2.2.2.2.2.2.2.2.2.2.2.2.2.2.2.2.2.2.2.2.1
theorem dL_law_1104 : decode cL_law 1104 = .ok (.iaload, 1) := dgL_31.2.2.2.2.2.2.2.2.2.2.2.2.2.2.2.2.2.2.2.2.2.2.2.2.2.2.2.2.2.2.2.2.2.1
theorem dL_law_1105 : decode cL_law 1105 = .ok (.invokevirtual 267, 3) := dgL_31.2.2.2.2.2.2.2.2.2.2.2.2.2.2.2.2.2.2.2.2.2.2.2.2.2.2.2.2.2.2.2.2.2.2.1
theorem dL_law_1108 : decode cL_law 1108 = .ok (.istore 6, 2) := dgL_31.2.2.2.2.2.2.2.2.2.2.2.2.2.2.2.2.2.2.2.2.2.2.2.2.2.2.2.2.2.2.2.2.2.2.2.1
theorem dL_law_1110 : decode cL_law 1110 = .ok (.goto 1362, 3) := dgL_31.2.2.2.2.2.2.2.2.2.2.2.2.2.2.2.2.2.2.2.2.2.2.2.2.2.2.2.2.2.2.2.2.2.2.2.2.1
theorem dL_law_1113 : decode cL_law 1113 = .ok (.aload_n 1, 1) := dgL_31.2.2.2.2.2.2.2.2.2.2.2.2.2.2.2.2.2.2.2.2.2.2.2.2.2.2.2.2.2.2.2.2.2.2.2.2.2.1
theorem dL_law_1114 : decode cL_law 1114 = .ok (.aload_n 0, 1) := dgL_31.2.2.2.2.2.2.2.2.2.2.2.2.2.2.2.2.2.2.2.2.2.2.2.2.2.2.2.2.2.2.2.2.2.2.2.2.2.2.1
theorem dL_law_1115 : decode cL_law 1115 = .ok (.iload 4, 2) := dgL_31.2.2.2.2.2.2.2.2.2.2.2.2.2.2.2.2.2.2.2.2.2.2.2.2.2.2.2.2.2.2.2.2.2.2.2.2.2.2.2
theorem dgL_32 : (decode cL_law 1117 = .ok (.iconst 1, 1)) ∧ (decode cL_law 1118 = .ok (.iadd, 1)) ∧ (decode cL_law 1119 = .ok (.iaload, 1)) ∧ (decode cL_law 1120 = .ok (.aload_n 3, 1)) ∧ (decode cL_law 1121 = .ok (.invokestatic 268, 3)) ∧ (decode cL_law 1124 = .ok (.istore 5, 2)) ∧ (decode cL_law 1126 = .ok (.aload_n 2, 1)) ∧ (decode cL_law 1127 = .ok (.aload_n 0, 1)) ∧ (decode cL_law 1128 = .ok (.iload 4, 2)) ∧ (decode cL_law 1130 = .ok (.iconst 1, 1)) ∧ (decode cL_law 1131 = .ok (.iadd, 1)) ∧ (decode cL_law 1132 = .ok (.iaload, 1)) ∧ (decode cL_law 1133 = .ok (.invokevirtual 270, 3)) ∧ (decode cL_law 1136 = .ok (.istore 6, 2)) ∧ (decode cL_law 1138 = .ok (.goto 1334, 3)) ∧ (decode cL_law 1141 = .ok (.aload_n 1, 1)) ∧ (decode cL_law 1142 = .ok (.aload_n 0, 1)) ∧ (decode cL_law 1143 = .ok (.iload 4, 2)) ∧ (decode cL_law 1145 = .ok (.iconst 1, 1)) ∧ (decode cL_law 1146 = .ok (.iadd, 1)) ∧ (decode cL_law 1147 = .ok (.iaload, 1)) ∧ (decode cL_law 1148 = .ok (.aload_n 3, 1)) ∧ (decode cL_law 1149 = .ok (.invokestatic 271, 3)) ∧ (decode cL_law 1152 = .ok (.istore 5, 2)) ∧ (decode cL_law 1154 = .ok (.aload_n 2, 1)) ∧ (decode cL_law 1155 = .ok (.aload_n 0, 1)) ∧ (decode cL_law 1156 = .ok (.iload 4, 2)) ∧ (decode cL_law 1158 = .ok (.iconst 1, 1)) ∧ (decode cL_law 1159 = .ok (.iadd, 1)) ∧ (decode cL_law 1160 = .ok (.iaload, 1)) ∧ (decode cL_law 1161 = .ok (.invokevirtual 273, 3)) ∧ (decode cL_law 1164 = .ok (.istore 6, 2)) ∧ (decode cL_law 1166 = .ok (.goto 1306, 3)) ∧ (decode cL_law 1169 = .ok (.aload_n 1, 1)) ∧ (decode cL_law 1170 = .ok (.aload_n 0, 1)) ∧ (decode cL_law 1171 = .ok (.iload 4, 2)) ∧ (decode cL_law 1173 = .ok (.iconst 1, 1)) ∧ (decode cL_law 1174 = .ok (.iadd, 1)) ∧ (decode cL_law 1175 = .ok (.iaload, 1)) ∧ (decode cL_law 1176 = .ok (.aload_n 0, 1)) := by decide +kernel
theorem dL_law_1117 : decode cL_law 1117 = .ok (.iconst 1, 1) := dgL_32.1
theorem dL_law_1118 : decode cL_law 1118 = .ok (.iadd, 1) := dgL_32.2.1
theorem dL_law_1119 : decode cL_law 1119 = .ok (.iaload, 1) := dgL_32.2.2.1
theorem dL_law_1120 : decode cL_law 1120 = .ok (.aload_n 3, 1) := dgL_32.2.2.2.1
theorem dL_law_1121 : decode cL_law 1121 = .ok (.invokestatic 268, 3) := dgL_32.2.2.2.2.1
theorem dL_law_1124 : decode cL_law 1124 = .ok (.istore 5, 2) := dgL_32.2.2.2.2.2.1
theorem dL_law_1126 : decode cL_law 1126 = .ok (.aload_n 2, 1) := dgL_32.2.2.2.2.2.2.1
theorem dL_law_1127 : decode cL_law 1127 = .ok (.aload_n 0, 1) := dgL_32.2.2.2.2.2.2.2.1
theorem dL_law_1128 : decode cL_law 1128 = .ok (.iload 4, 2) := dgL_32.2.2.2.2.2.2.2.2.1
theorem dL_law_1130 : decode cL_law 1130 = .ok (.iconst 1, 1) := dgL_32.2.2.2.2.2.2.2.2.2.1
theorem dL_law_1131 : decode cL_law 1131 = .ok (.iadd, 1) := dgL_32.2.2.2.2.2.2.2.2.2.2.1
theorem dL_law_1132 : decode cL_law 1132 = .ok (.iaload, 1) := dgL_32.2.2.2.2.2.2.2.2.2.2.2.1
theorem dL_law_1133 : decode cL_law 1133 = .ok (.invokevirtual 270, 3) := dgL_32.2.2.2.2.2.2.2.2.2.2.2.2.1
theorem dL_law_1136 : decode cL_law 1136 = .ok (.istore 6, 2) := dgL_32.2.2.2.2.2.2.2.2.2.2.2.2.2.1
theorem dL_law_1138 : decode cL_law 1138 = .ok (.goto 1334, 3) := dgL_32.2.2.2.2.2.2.2.2.2.2.2.2.2.2.1
theorem dL_law_1141 : decode cL_law 1141 = .ok (.aload_n 1, 1) := dgL_32.2.2.2.2.2.2.2.2.2.2.2.2.2.2.2.1
theorem dL_law_1142 : decode cL_law 1142 = .ok (.aload_n 0, 1) := dgL_32.2.2.2.2.2.2.2.2.2.2.2.2.2.2.2.2.1
theorem dL_law_1143 : decode cL_law 1143 = .ok (.iload 4, 2) := dgL_32.2.2.2.2.2.2.2.2.2.2.2.2.2.2.2.2.2.1
theorem dL_law_1145 : decode cL_law 1145 = .ok (.iconst 1, 1) := dgL_32.2.2.2.2.2.2.2.2.2.2.2.2.2.2.2.2.2.2.1
theorem dL_law_1146 : decode cL_law 1146 = .ok (.iadd, 1) := dgL_32.2.2.2.2.2.2.2.2.2.2.2.2.2.2.2.2.2.2.2.1
theorem dL_law_1147 : decode cL_law 1147 = .ok (.iaload, 1) := dgL_32.2.2.2.2.2.2.2.2.2.2.2.2.2.2.2.2.2.2.2.2.1
theorem dL_law_1148 : decode cL_law 1148 = .ok (.aload_n 3, 1) := dgL_32.2.2.2.2.2.2.2.2.2.2.2.2.2.2.2.2.2.2.2.2.2.1
theorem dL_law_1149 : decode cL_law 1149 = .ok (.invokestatic 271, 3) := dgL_32.2.2.2.2.2.2.2.2.2.2.2.2.2.2.2.2.2.2.2.2.2.2.1
theorem dL_law_1152 : decode cL_law 1152 = .ok (.istore 5, 2) := dgL_32.2.2.2.2.2.2.2.2.2.2.2.2.2.2.2.2.2.2.2.2.2.2.2.1
theorem dL_law_1154 : decode cL_law 1154 = .ok (.aload_n 2, 1) := dgL_32.2.2.2.2.2.2.2.2.2.2.2.2.2.2.2.2.2.2.2.2.2.2.2.2.1
theorem dL_law_1155 : decode cL_law 1155 = .ok (.aload_n 0, 1) := dgL_32.2.2.2.2.2.2.2.2.2.2.2.2.2.2.2.2.2.2.2.2.2.2.2.2.2.1
theorem dL_law_1156 : decode cL_law 1156 = .ok (.iload 4, 2) := dgL_32.2.2.2.2.2.2.2.2.2.2.2.2.2.2.2.2.2.2.2.2.2.2.2.2.2.2.1
theorem dL_law_1158 : decode cL_law 1158 = .ok (.iconst 1, 1) := dgL_32.2.2.2.2.2.2.2.2.2.2.2.2.2.2.2.2.2.2.2.2.2.2.2.2.2.2.2.1
theorem dL_law_1159 : decode cL_law 1159 = .ok (.iadd, 1) := dgL_32.2.2.2.2.2.2.2.2.2.2.2.2.2.2.2.2.2.2.2.2.2.2.2.2.2.2.2.2.1
theorem dL_law_1160 : decode cL_law 1160 = .ok (.iaload, 1) := dgL_32.2.2.2.2.2.2.2.2.2.2.2.2.2.2.2.2.2.2.2.2.2.2.2.2.2.2.2.2.2.1
theorem dL_law_1161 : decode cL_law 1161 = .ok (.invokevirtual 273, 3) := dgL_32.2.2.2.2.2.2.2.2.2.2.2.2.2.2.2.2.2.2.2.2.2.2.2.2.2.2.2.2.2.2.1
theorem dL_law_1164 : decode cL_law 1164 = .ok (.istore 6, 2) := dgL_32.2.2.2.2.2.2.2.2.2.2.2.2.2.2.2.2.2.2.2.2.2.2.2.2.2.2.2.2.2.2.2.1
theorem dL_law_1166 : decode cL_law 1166 = .ok (.goto 1306, 3) := dgL_32.2.2.2.2.2.2.2.2.2.2.2.2.2.2.2.2.2.2.2.2.2.2.2.2.2.2.2.2.2.2.2.2.1
theorem dL_law_1169 : decode cL_law 1169 = .ok (.aload_n 1, 1) := dgL_32.2.2.2.2.2.2.2.2.2.2.2.2.2.2.2.2.2.2.2.2.2.2.2.2.2.2.2.2.2.2.2.2.2.1
theorem dL_law_1170 : decode cL_law 1170 = .ok (.aload_n 0, 1) := dgL_32.2.2.2.2.2.2.2.2.2.2.2.2.2.2.2.2.2.2.2.2.2.2.2.2.2.2.2.2.2.2.2.2.2.2.1
theorem dL_law_1171 : decode cL_law 1171 = .ok (.iload 4, 2) := dgL_32.2.2.2.2.2.2.2.2.2.2.2.2.2.2.2.2.2.2.2.2.2.2.2.2.2.2.2.2.2.2.2.2.2.2.2.1
theorem dL_law_1173 : decode cL_law 1173 = .ok (.iconst 1, 1) := dgL_32.2.2.2.2.2.2.2.2.2.2.2.2.2.2.2.2.2.2.2.2.2.2.2.2.2.2.2.2.2.2.2.2.2.2.2.2.1
theorem dL_law_1174 : decode cL_law 1174 = .ok (.iadd, 1) := dgL_32.2.2.2.2.2.2.2.2.2.2.2.2.2.2.2.2.2.2.2.2.2.2.2.2.2.2.2.2.2.2.2.2.2.2.2.2.2.1
theorem dL_law_1175 : decode cL_law 1175 = .ok (.iaload, 1) := dgL_32.2.2.2.2.2.2.2.2.2.2.2.2.2.2.2.2.2.2.2.2.2.2.2.2.2.2.2.2.2.2.2.2.2.2.2.2.2.2.1
theorem dL_law_1176 : decode cL_law 1176 = .ok (.aload_n 0, 1) := dgL_32.2.2.2.2.2.2.2.2.2.2.2.2.2.2.2.2.2.2.2.2.2.2.2.2.2.2.2.2.2.2.2.2.2.2.2.2.2.2.2
theorem dgL_33 : (decode cL_law 1177 = .ok (.iload 4, 2)) ∧ (decode cL_law 1179 = .ok (.iconst 2, 1)) ∧ (decode cL_law 1180 = .ok (.iadd, 1)) ∧ (decode cL_law 1181 = .ok (.iaload, 1)) ∧ (decode cL_law 1182 = .ok (.ifCond .eq 7, 3)) ∧ (decode cL_law 1185 = .ok (.iconst 1, 1)) ∧ (decode cL_law 1186 = .ok (.goto 4, 3)) ∧ (decode cL_law 1189 = .ok (.iconst 0, 1)) ∧ (decode cL_law 1190 = .ok (.aload_n 3, 1)) ∧ (decode cL_law 1191 = .ok (.invokestatic 274, 3)) ∧ (decode cL_law 1194 = .ok (.istore 5, 2)) ∧ (decode cL_law 1196 = .ok (.aload_n 2, 1)) ∧ (decode cL_law 1197 = .ok (.aload_n 0, 1)) ∧ (decode cL_law 1198 = .ok (.iload 4, 2)) ∧ (decode cL_law 1200 = .ok (.iconst 1, 1)) ∧ (decode cL_law 1201 = .ok (.iadd, 1)) ∧ (decode cL_law 1202 = .ok (.iaload, 1)) ∧ (decode cL_law 1203 = .ok (.aload_n 0, 1)) ∧ (decode cL_law 1204 = .ok (.iload 4, 2)) ∧ (decode cL_law 1206 = .ok (.iconst 2, 1)) ∧ (decode cL_law 1207 = .ok (.iadd, 1)) ∧ (decode cL_law 1208 = .ok (.iaload, 1)) ∧ (decode cL_law 1209 = .ok (.ifCond .eq 7, 3)) ∧ (decode cL_law 1212 = .ok (.iconst 1, 1)) ∧ (decode cL_law 1213 = .ok (.goto 4, 3)) ∧ (decode cL_law 1216 = .ok (.iconst 0, 1)) ∧ (decode cL_law 1217 = .ok (.invokevirtual 277, 3)) ∧ (decode cL_law 1220 = .ok (.istore 6, 2)) ∧ (decode cL_law 1222 = .ok (.goto 1250, 3)) ∧ (decode cL_law 1225 = .ok (.aload_n 1, 1)) ∧ (decode cL_law 1226 = .ok (.aload_n 0, 1)) ∧ (decode cL_law 1227 = .ok (.iload 4, 2)) ∧ (decode cL_law 1229 = .ok (.iconst 1, 1)) ∧ (decode cL_law 1230 = .ok (.iadd, 1)) ∧ (decode cL_law 1231 = .ok (.iaload, 1)) ∧ (decode cL_law 1232 = .ok (.aload_n 0, 1)) ∧ (decode cL_law 1233 = .ok (.iload 4, 2)) ∧ (decode cL_law 1235 = .ok (.iconst 2, 1)) ∧ (decode cL_law 1236 = .ok (.iadd, 1)) ∧ (decode cL_law 1237 = .ok (.iaload, 1)) := by decide +kernel
theorem dL_law_1177 : decode cL_law 1177 = .ok (.iload 4, 2) := dgL_33.1
theorem dL_law_1179 : decode cL_law 1179 = .ok (.iconst 2, 1) := dgL_33.2.1
theorem dL_law_1180 : decode cL_law 1180 = .ok (.iadd, 1) := dgL_33.2.2.1
theorem dL_law_1181 : decode cL_law 1181 = .ok (.iaload, 1) := dgL_33.2.2.2.1
theorem dL_law_1182 : decode cL_law 1182 = .ok (.ifCond .eq 7, 3) := dgL_33.2.2.2.2.1
theorem dL_law_1185 : decode cL_law 1185 = .ok (.iconst 1, 1) := dgL_33.2.2.2.2.2.1
theorem dL_law_1186 : decode cL_law 1186 = .ok (.goto 4, 3) := dgL_33.2.2.2.2.2.2.1
theorem dL_law_1189 : decode cL_law 1189 = .ok (.iconst 0, 1) := dgL_33.2.2.2.2.2.2.2.1
theorem dL_law_1190 : decode cL_law 1190 = .ok (.aload_n 3, 1) := dgL_33.2.2.2.2.2.2.2.2.1
theorem dL_law_1191 : decode cL_law 1191 = .ok (.invokestatic 274, 3) := dgL_33.2.2.2.2.2.2.2.2.2.1
theorem dL_law_1194 : decode cL_law 1194 = .ok (.istore 5, 2) := dgL_33.2.2.2.2.2.2.2.2.2.2.1
theorem dL_law_1196 : decode cL_law 1196 = .ok (.aload_n 2, 1) := dgL_33.2.2.2.2.2.2.2.2.2.2.2.1
theorem dL_law_1197 : decode cL_law 1197 = .ok (.aload_n 0, 1) := dgL_33.2.2.2.2.2.2.2.2.2.2.2.2.1
theorem dL_law_1198 : decode cL_law 1198 = .ok (.iload 4, 2) := dgL_33.2.2.2.2.2.2.2.2.2.2.2.2.2.1
theorem dL_law_1200 : decode cL_law 1200 = .ok (.iconst 1, 1) := dgL_33.2.2.2.2.2.2.2.2.2.2.2.2.2.2.1
theorem dL_law_1201 : decode cL_law 1201 = .ok (.iadd, 1) := dgL_33.2.2.2.2.2.2.2.2.2.2.2.2.2.2.2.1
theorem dL_law_1202 : decode cL_law 1202 = .ok (.iaload, 1) := dgL_33.2.2.2.2.2.2.2.2.2.2.2.2.2.2.2.2.1
theorem dL_law_1203 : decode cL_law 1203 = .ok (.aload_n 0, 1) := dgL_33.2.2.2.2.2.2.2.2.2.2.2.2.2.2.2.2.2.1
theorem dL_law_1204 : decode cL_law 1204 = .ok (.iload 4, 2) := dgL_33.2.2.2.2.2.2.2.2.2.2.2.2.2.2.2.2.2.2.1
theorem dL_law_1206 : decode cL_law 1206 = .ok (.iconst 2, 1) := dgL_33.2.2.2.2.2.2.2.2.2.2.2.2.2.2.2.2.2.2.2.1
theorem dL_law_1207 : decode cL_law 1207 = .ok (.iadd, 1) := dgL_33.2.2.2.2.2.2.2.2.2.2.2.2.2.2.2.2.2.2.2.2.1
theorem dL_law_1208 : decode cL_law 1208 = .ok (.iaload, 1) := dgL_33.2.2.2.2.2.2.2.2.2.2.2.2.2.2.2.2.2.2.2.2.2.1
theorem dL_law_1209 : decode cL_law 1209 = .ok (.ifCond .eq 7, 3) := dgL_33.2.2.2.2.2.2.2.2.2.2.2.2.2.2.2.2.2.2.2.2.2.2.1
theorem dL_law_1212 : decode cL_law 1212 = .ok (.iconst 1, 1) := dgL_33.2.2.2.2.2.2.2.2.2.2.2.2.2.2.2.2.2.2.2.2.2.2.2.1
theorem dL_law_1213 : decode cL_law 1213 = .ok (.goto 4, 3) := dgL_33.2.2.2.2.2.2.2.2.2.2.2.2.2.2.2.2.2.2.2.2.2.2.2.2.1
theorem dL_law_1216 : decode cL_law 1216 = .ok (.iconst 0, 1) := dgL_33.2.2.2.2.2.2.2.2.2.2.2.2.2.2.2.2.2.2.2.2.2.2.2.2.2.1
theorem dL_law_1217 : decode cL_law 1217 = .ok (.invokevirtual 277, 3) := dgL_33.2.2.2.2.2.2.2.2.2.2.2.2.2.2.2.2.2.2.2.2.2.2.2.2.2.2.1
theorem dL_law_1220 : decode cL_law 1220 = .ok (.istore 6, 2) := dgL_33.2.2.2.2.2.2.2.2.2.2.2.2.2.2.2.2.2.2.2.2.2.2.2.2.2.2.2.1
theorem dL_law_1222 : decode cL_law 1222 = .ok (.goto 1250, 3) := dgL_33.2.2.2.2.2.2.2.2.2.2.2.2.2.2.2.2.2.2.2.2.2.2.2.2.2.2.2.2.1
theorem dL_law_1225 : decode cL_law 1225 = .ok (.aload_n 1, 1) := dgL_33.2.2.2.2.2.2.2.2.2.2.2.2.2.2.2.2.2.2.2.2.2.2.2.2.2.2.2.2.2.1
theorem dL_law_1226 : decode cL_law 1226 = .ok (.aload_n 0, 1) := dgL_33.2.2.2.2.2.2.2.2.2.2.2.2.2.2.2.2.2.2.2.2.2.2.2.2.2.2.2.2.2.2.1
theorem dL_law_1227 : decode cL_law 1227 = .ok (.iload 4, 2) := dgL_33.2.2.2.2.2.2.2.2.2.2.2.2.2.2.2.2.2.2.2.2.2.2.2.2.2.2.2.2.2.2.2.1
theorem dL_law_1229 : decode cL_law 1229 = .ok (.iconst 1, 1) := dgL_33.2.2.2.2.2.2.2.2.2.2.2.2.2.2.2.2.2.2.2.2.2.2.2.2.2.2.2.2.2.2.2.2.1
theorem dL_law_1230 : decode cL_law 1230 = .ok (.iadd, 1) := dgL_33.2.2.2.2.2.2.2.2.2.2.2.2.2.2.2.2.2.2.2.2.2.2.2.2.2.2.2.2.2.2.2.2.2.1
theorem dL_law_1231 : decode cL_law 1231 = .ok (.iaload, 1) := dgL_33.2.2.2.2.2.2.2.2.2.2.2.2.2.2.2.2.2.2.2.2.2.2.2.2.2.2.2.2.2.2.2.2.2.2.1
theorem dL_law_1232 : decode cL_law 1232 = .ok (.aload_n 0, 1) := dgL_33.2.2.2.2.2.2.2.2.2.2.2.2.2.2.2.2.2.2.2.2.2.2.2.2.2.2.2.2.2.2.2.2.2.2.2.1
theorem dL_law_1233 : decode cL_law 1233 = .ok (.iload 4, 2) := dgL_33.2.2.2.2.2.2.2.2.2.2.2.2.2.2.2.2.2.2.2.2.2.2.2.2.2.2.2.2.2.2.2.2.2.2.2.2.1
theorem dL_law_1235 : decode cL_law 1235 = .ok (.iconst 2, 1) := dgL_33.2.2.2.2.2.2.2.2.2.2.2.2.2.2.2.2.2.2.2.2.2.2.2.2.2.2.2.2.2.2.2.2.2.2.2.2.2.1
theorem dL_law_1236 : decode cL_law 1236 = .ok (.iadd, 1) := dgL_33.2.2.2.2.2.2.2.2.2.2.2.2.2.2.2.2.2.2.2.2.2.2.2.2.2.2.2.2.2.2.2.2.2.2.2.2.2.2.1
theorem dL_law_1237 : decode cL_law 1237 = .ok (.iaload, 1) := dgL_33.2.2.2.2.2.2.2.2.2.2.2.2.2.2.2.2.2.2.2.2.2.2.2.2.2.2.2.2.2.2.2.2.2.2.2.2.2.2.2
theorem dgL_34 : (decode cL_law 1238 = .ok (.ifCond .eq 7, 3)) ∧ (decode cL_law 1241 = .ok (.iconst 1, 1)) ∧ (decode cL_law 1242 = .ok (.goto 4, 3)) ∧ (decode cL_law 1245 = .ok (.iconst 0, 1)) ∧ (decode cL_law 1246 = .ok (.aload_n 3, 1)) ∧ (decode cL_law 1247 = .ok (.invokestatic 278, 3)) ∧ (decode cL_law 1250 = .ok (.istore 5, 2)) ∧ (decode cL_law 1252 = .ok (.aload_n 2, 1)) ∧ (decode cL_law 1253 = .ok (.aload_n 0, 1)) ∧ (decode cL_law 1254 = .ok (.iload 4, 2)) ∧ (decode cL_law 1256 = .ok (.iconst 1, 1)) ∧ (decode cL_law 1257 = .ok (.iadd, 1)) ∧ (decode cL_law 1258 = .ok (.iaload, 1)) ∧ (decode cL_law 1259 = .ok (.aload_n 0, 1)) ∧ (decode cL_law 1260 = .ok (.iload 4, 2)) ∧ (decode cL_law 1262 = .ok (.iconst 2, 1)) ∧ (decode cL_law 1263 = .ok (.iadd, 1)) ∧ (decode cL_law 1264 = .ok (.iaload, 1)) ∧ (decode cL_law 1265 = .ok (.ifCond .eq 7, 3)) ∧ (decode cL_law 1268 = .ok (.iconst 1, 1)) ∧ (decode cL_law 1269 = .ok (.goto 4, 3)) ∧ (decode cL_law 1272 = .ok (.iconst 0, 1)) ∧ (decode cL_law 1273 = .ok (.invokevirtual 280, 3)) ∧ (decode cL_law 1276 = .ok (.istore 6, 2)) ∧ (decode cL_law 1278 = .ok (.goto 1194, 3)) ∧ (decode cL_law 1281 = .ok (.aload_n 1, 1)) ∧ (decode cL_law 1282 = .ok (.aload_n 0, 1)) ∧ (decode cL_law 1283 = .ok (.iload 4, 2)) ∧ (decode cL_law 1285 = .ok (.iconst 1, 1)) ∧ (decode cL_law 1286 = .ok (.iadd, 1)) ∧ (decode cL_law 1287 = .ok (.iaload, 1)) ∧ (decode cL_law 1288 = .ok (.aload_n 0, 1)) ∧ (decode cL_law 1289 = .ok (.iload 4, 2)) ∧ (decode cL_law 1291 = .ok (.iconst 2, 1)) ∧ (decode cL_law 1292 = .ok (.iadd, 1)) ∧ (decode cL_law 1293 = .ok (.iaload, 1)) ∧ (decode cL_law 1294 = .ok (.ifCond .eq 7, 3)) ∧ (decode cL_law 1297 = .ok (.iconst 1, 1)) ∧ (decode cL_law 1298 = .ok (.goto 4, 3)) ∧ (decode cL_law 1301 = .ok (.iconst 0, 1)) := by decide +kernel
theorem dL_law_1238 : decode cL_law 1238 = .ok (.ifCond .eq 7, 3) := dgL_34.1
theorem dL_law_1241 : decode cL_law 1241 = .ok (.iconst 1, 1) := dgL_34.2.1
theorem dL_law_1242 : decode cL_law 1242 = .ok (.goto 4, 3) := dgL_34.2.2.1
theorem dL_law_1245 : decode cL_law 1245 = .ok (.iconst 0, 1) := dgL_34.2.2.2.1
theorem dL_law_1246 : decode cL_law 1246 = .ok (.aload_n 3, 1) := dgL_34.2.2.2.2.1
theorem dL_law_1247 : decode cL_law 1247 = .ok (.invokestatic 278, 3) := dgL_34.2.2.2.2.2.1
theorem dL_law_1250 : decode cL_law 1250 = .ok (.istore 5, 2) := dgL_34.2.2.2.2.2.2.1
theorem dL_law_1252 : decode cL_law 1252 = .ok (.aload_n 2, 1) := dgL_34.2.2.2.2.2.2.2.1
theorem dL_law_1253 : decode cL_law 1253 = .ok (.aload_n 0, 1) := dgL_34.2.2.2.2.2.2.2.2.1
theorem dL_law_1254 : decode cL_law 1254 = .ok (.iload 4, 2) := dgL_34.2.2.2.2.2.2.2.2.2.1
theorem dL_law_1256 : decode cL_law 1256 = .ok (.iconst 1, 1) := dgL_34.2.2.2.2.2.2.2.2.2.2.1
theorem dL_law_1257 : decode cL_law 1257 = .ok (.iadd, 1) := dgL_34.2.2.2.2.2.2.2.2.2.2.2.1
theorem dL_law_1258 : decode cL_law 1258 = .ok (.iaload, 1) := dgL_34.2.2.2.2.2.2.2.2.2.2.2.2.1
theorem dL_law_1259 : decode cL_law 1259 = .ok (.aload_n 0, 1) := dgL_34.2.2.2.2.2.2.2.2.2.2.2.2.2.1
theorem dL_law_1260 : decode cL_law 1260 = .ok (.iload 4, 2) := dgL_34.2.2.2.2.2.2.2.2.2.2.2.2.2.2.1
theorem dL_law_1262 : decode cL_law 1262 = .ok (.iconst 2, 1) := dgL_34.2.2.2.2.2.2.2.2.2.2.2.2.2.2.2.1
theorem dL_law_1263 : decode cL_law 1263 = .ok (.iadd, 1) := dgL_34.2.2.2.2.2.2.2.2.2.2.2.2.2.2.2.2.1
theorem dL_law_1264 : decode cL_law 1264 = .ok (.iaload, 1) := dgL_34.2.2.2.2.2.2.2.2.2.2.2.2.2.2.2.2.2.1
theorem dL_law_1265 : decode cL_law 1265 = .ok (.ifCond .eq 7, 3) := dgL_34.2.2.2.2.2.2.2.2.2.2.2.2.2.2.2.2.2.2.1
theorem dL_law_1268 : decode cL_law 1268 = .ok (.iconst 1, 1) := dgL_34.2.2.2.2.2.2.2.2.2.2.2.2.2.2.2.2.2.2.2.1
theorem dL_law_1269 : decode cL_law 1269 = .ok (.goto 4, 3) := dgL_34.2.2.2.2.2.2.2.2.2.2.2.2.2.2.2.2.2.2.2.2.1
theorem dL_law_1272 : decode cL_law 1272 = .ok (.iconst 0, 1) := dgL_34.2.2.2.2.2.2.2.2.2.2.2.2.2.2.2.2.2.2.2.2.2.1
theorem dL_law_1273 : decode cL_law 1273 = .ok (.invokevirtual 280, 3) := dgL_34.2.2.2.2.2.2.2.2.2.2.2.2.2.2.2.2.2.2.2.2.2.2.1
theorem dL_law_1276 : decode cL_law 1276 = .ok (.istore 6, 2) := dgL_34.2.2.2.2.2.2.2.2.2.2.2.2.2.2.2.2.2.2.2.2.2.2.2.1
theorem dL_law_1278 : decode cL_law 1278 = .ok (.goto 1194, 3) := dgL_34.2.2.2.2.2.2.2.2.2.2.2.2.2.2.2.2.2.2.2.2.2.2.2.2.1
theorem dL_law_1281 : decode cL_law 1281 = .ok (.aload_n 1, 1) := dgL_34.2.2.2.2.2.2.2.2.2.2.2.2.2.2.2.2.2.2.2.2.2.2.2.2.2.1
theorem dL_law_1282 : decode cL_law 1282 = .ok (.aload_n 0, 1) := dgL_34.2.2.2.2.2.2.2.2.2.2.2.2.2.2.2.2.2.2.2.2.2.2.2.2.2.2.1
theorem dL_law_1283 : decode cL_law 1283 = .ok (.iload 4, 2) := dgL_34.2.2.2.2.2.2.2.2.2.2.2.2.2.2.2.2.2.2.2.2.2.2.2.2.2.2.2.1
theorem dL_law_1285 : decode cL_law 1285 = .ok (.iconst 1, 1) := dgL_34.2.2.2.2.2.2.2.2.2.2.2.2.2.2.2.2.2.2.2.2.2.2.2.2.2.2.2.2.1
theorem dL_law_1286 : decode cL_law 1286 = .ok (.iadd, 1) := dgL_34.2.2.2.2.2.2.2.2.2.2.2.2.2.2.2.2.2.2.2.2.2.2.2.2.2.2.2.2.2.1
theorem dL_law_1287 : decode cL_law 1287 = .ok (.iaload, 1) := dgL_34.2.2.2.2.2.2.2.2.2.2.2.2.2.2.2.2.2.2.2.2.2.2.2.2.2.2.2.2.2.2.1
theorem dL_law_1288 : decode cL_law 1288 = .ok (.aload_n 0, 1) := dgL_34.2.2.2.2.2.2.2.2.2.2.2.2.2.2.2.2.2.2.2.2.2.2.2.2.2.2.2.2.2.2.2.1
theorem dL_law_1289 : decode cL_law 1289 = .ok (.iload 4, 2) := dgL_34.2.2.2.2.2.2.2.2.2.2.2.2.2.2.2.2.2.2.2.2.2.2.2.2.2.2.2.2.2.2.2.2.1
theorem dL_law_1291 : decode cL_law 1291 = .ok (.iconst 2, 1) := dgL_34.2.2.2.2.2.2.2.2.2.2.2.2.2.2.2.2.2.2.2.2.2.2.2.2.2.2.2.2.2.2.2.2.2.1
theorem dL_law_1292 : decode cL_law 1292 = .ok (.iadd, 1) := dgL_34.2.2.2.2.2.2.2.2.2.2.2.2.2.2.2.2.2.2.2.2.2.2.2.2.2.2.2.2.2.2.2.2.2.2.1
theorem dL_law_1293 : decode cL_law 1293 = .ok (.iaload, 1) := dgL_34.2.2.2.2.2.2.2.2.2.2.2.2.2.2.2.2.2.2.2.2.2.2.2.2.2.2.2.2.2.2.2.2.2.2.2.1
theorem dL_law_1294 : decode cL_law 1294 = .ok (.ifCond .eq 7, 3) := dgL_34.2.2.2.2.2.2.2.2.2.2.2.2.2.2.2.2.2.2.2.2.2.2.2.2.2.2.2.2.2.2.2.2.2.2.2.2.1
theorem dL_law_1297 : decode cL_law 1297 = .ok (.iconst 1, 1) := dgL_34.2.2.2.2.2.2.2.2.2.2.2.2.2.2.2.2.2.2.2.2.2.2.2.2.2.2.2.2.2.2.2.2.2.2.2.2.2.1
theorem dL_law_1298 : decode cL_law 1298 = .ok (.goto 4, 3) := dgL_34.2.2.2.2.2.2.2.2.2.2.2.2.2.2.2.2.2.2.2.2.2.2.2.2.2.2.2.2.2.2.2.2.2.2.2.2.2.2.1
theorem dL_law_1301 : decode cL_law 1301 = .ok (.iconst 0, 1) := dgL_34.2.2.2.2.2.2.2.2.2.2.2.2.2.2.2.2.2.2.2.2.2.2.2.2.2.2.2.2.2.2.2.2.2.2.2.2.2.2.2
theorem dgL_35 : (decode cL_law 1302 = .ok (.aload_n 3, 1)) ∧ (decode cL_law 1303 = .ok (.invokestatic 281, 3)) ∧ (decode cL_law 1306 = .ok (.istore 5, 2)) ∧ (decode cL_law 1308 = .ok (.aload_n 2, 1)) ∧ (decode cL_law 1309 = .ok (.aload_n 0, 1)) ∧ (decode cL_law 1310 = .ok (.iload 4, 2)) ∧ (decode cL_law 1312 = .ok (.iconst 1, 1)) ∧ (decode cL_law 1313 = .ok (.iadd, 1)) ∧ (decode cL_law 1314 = .ok (.iaload, 1)) ∧ (decode cL_law 1315 = .ok (.aload_n 0, 1)) ∧ (decode cL_law 1316 = .ok (.iload 4, 2)) ∧ (decode cL_law 1318 = .ok (.iconst 2, 1)) ∧ (decode cL_law 1319 = .ok (.iadd, 1)) ∧ (decode cL_law 1320 = .ok (.iaload, 1)) ∧ (decode cL_law 1321 = .ok (.ifCond .eq 7, 3)) ∧ (decode cL_law 1324 = .ok (.iconst 1, 1)) ∧ (decode cL_law 1325 = .ok (.goto 4, 3)) ∧ (decode cL_law 1328 = .ok (.iconst 0, 1)) ∧ (decode cL_law 1329 = .ok (.invokevirtual 283, 3)) ∧ (decode cL_law 1332 = .ok (.istore 6, 2)) ∧ (decode cL_law 1334 = .ok (.goto 1138, 3)) ∧ (decode cL_law 1337 = .ok (.aload_n 1, 1)) ∧ (decode cL_law 1338 = .ok (.aload_n 0, 1)) ∧ (decode cL_law 1339 = .ok (.iload 4, 2)) ∧ (decode cL_law 1341 = .ok (.iconst 1, 1)) ∧ (decode cL_law 1342 = .ok (.iadd, 1)) ∧ (decode cL_law 1343 = .ok (.iaload, 1)) ∧ (decode cL_law 1344 = .ok (.aload_n 0, 1)) ∧ (decode cL_law 1345 = .ok (.iload 4, 2)) ∧ (decode cL_law 1347 = .ok (.iconst 2, 1)) ∧ (decode cL_law 1348 = .ok (.iadd, 1)) ∧ (decode cL_law 1349 = .ok (.iaload, 1)) ∧ (decode cL_law 1350 = .ok (.aload_n 0, 1)) ∧ (decode cL_law 1351 = .ok (.iload 4, 2)) ∧ (decode cL_law 1353 = .ok (.iconst 3, 1)) ∧ (decode cL_law 1354 = .ok (.iadd, 1)) ∧ (decode cL_law 1355 = .ok (.iaload, 1)) ∧ (decode cL_law 1356 = .ok (.ifCond .eq 7, 3)) ∧ (decode cL_law 1359 = .ok (.iconst 1, 1)) ∧ (decode cL_law 1360 = .ok (.goto 4, 3)) := by decide +kernel
theorem dL_law_1302 : decode cL_law 1302 = .ok (.aload_n 3, 1) := dgL_35.1
theorem dL_law_1303 : decode cL_law 1303 = .ok (.invokestatic 281, 3) := dgL_35.2.1
theorem dL_law_1306 : decode cL_law 1306 = .ok (.istore 5, 2) := dgL_35.2.2.1
theorem dL_law_1308 : decode cL_law 1308 = .ok (.aload_n 2, 1) := dgL_35.2.2.2.1
theorem dL_law_1309 : decode cL_law 1309 = .ok (.aload_n 0, 1) := dgL_35.2.2.2.2.1
theorem dL_law_1310 : decode cL_law 1310 = .ok (.iload 4, 2) := dgL_35.2.2.2.2.2.1
theorem dL_law_1312 : decode cL_law 1312 = .ok (.iconst 1, 1) := dgL_35.2.2.2.2.2.2.1
theorem dL_law_1313 : decode cL_law 1313 = .ok (.iadd, 1) := dgL_35.2.2.2.2.2.2.2.1
theorem dL_law_1314 : decode cL_law 1314 = .ok (.iaload, 1) := dgL_35.2.2.2.2.2.2.2.2.1
theorem dL_law_1315 : decode cL_law 1315 = .ok (.aload_n 0, 1) := dgL_35.2.2.2.2.2.2.2.2.2.1
theorem dL_law_1316 : decode cL_law 1316 = .ok (.iload 4, 2) := dgL_35.2.2.2.2.2.2.2.2.2.2.1
theorem dL_law_1318 : decode cL_law 1318 = .ok (.iconst 2, 1) := dgL_35.2.2.2.2.2.2.2.2.2.2.2.1
theorem dL_law_1319 : decode cL_law 1319 = .ok (.iadd, 1) := dgL_35.2.2.2.2.2.2.2.2.2.2.2.2.1
theorem dL_law_1320 : decode cL_law 1320 = .ok (.iaload, 1) := dgL_35.2.2.2.2.2.2.2.2.2.2.2.2.2.1
theorem dL_law_1321 : decode cL_law 1321 = .ok (.ifCond .eq 7, 3) := dgL_35.2.2.2.2.2.2.2.2.2.2.2.2.2.2.1
theorem dL_law_1324 : decode cL_law 1324 = .ok (.iconst 1, 1) := dgL_35.2.2.2.2.2.2.2.2.2.2.2.2.2.2.2.1
theorem dL_law_1325 : decode cL_law 1325 = .ok (.goto 4, 3) := dgL_35.2.2.2.2.2.2.2.2.2.2.2.2.2.2.2.2.1
theorem dL_law_1328 : decode cL_law 1328 = .ok (.iconst 0, 1) := dgL_35.2.2.2.2.2.2.2.2.2.2.2.2.2.2.2.2.2.1
theorem dL_law_1329 : decode cL_law 1329 = .ok (.invokevirtual 283, 3) := dgL_35.2.2.2.2.2.2.2.2.2.2.2.2.2.2.2.2.2.2.1
theorem dL_law_1332 : decode cL_law 1332 = .ok (.istore 6, 2) := dgL_35.2.2.2.2.2.2.2.2.2.2.2.2.2.2.2.2.2.2.2.1
theorem dL_law_1334 : decode cL_law 1334 = .ok (.goto 1138, 3) := dgL_35.2.2.2.2.2.2.2.2.2.2.2.2.2.2.2.2.2.2.2.2.1
theorem dL_law_1337 : decode cL_law 1337 = .ok (.aload_n 1, 1) := dgL_35.2.2.2.2.2.2.2.2.2.2.2.2.2.2.2.2.2.2.2.2.2.1
theorem dL_law_1338 : decode cL_law 1338 = .ok (.aload_n 0, 1) := dgL_35.2.2.2.2.2.2.2.2.2.2.2.2.2.2.2.2.2.2.2.2.2.2.1
theorem dL_law_1339 : decode cL_law 1339 = .ok (.iload 4, 2) := dgL_35.2.2.2.2.2.2.2.2.2.2.2.2.2.2.2.2.2.2.2.2.2.2.2.1
theorem dL_law_1341 : decode cL_law 1341 = .ok (.iconst 1, 1) := dgL_35.2.2.2.2.2.2.2.2.2.2.2.2.2.2.2.2.2.2.2.2.2.2.2.2.1
theorem dL_law_1342 : decode cL_law 1342 = .ok (.iadd, 1) := dgL_35.2.2.2.2.2.2.2.2.2.2.2.2.2.2.2.2.2.2.2.2.2.2.2.2.2.1
theorem dL_law_1343 : decode cL_law 1343 = .ok (.iaload, 1) := dgL_35.2.2.2.2.2.2.2.2.2.2.2.2.2.2.2.2.2.2.2.2.2.2.2.2.2.2.1
theorem dL_law_1344 : decode cL_law 1344 = .ok (.aload_n 0, 1) := dgL_35.2.2.2.2.2.2.2.2.2.2.2.2.2.2.2.2.2.2.2.2.2.2.2.2.2.2.2.1
theorem dL_law_1345 : decode cL_law 1345 = .ok (.iload 4, 2) := dgL_35.2.2.2.2.2.2.2.2.2.2.2.2.2.2.2.2.2.2.2.2.2.2.2.2.2.2.2.2.1
theorem dL_law_1347 : decode cL_law 1347 = .ok (.iconst 2, 1) := dgL_35.2.2.2.2.2.2.2.2.2.2.2.2.2.2.2.2.2.2.2.2.2.2.2.2.2.2.2.2.2.1
theorem dL_law_1348 : decode cL_law 1348 = .ok (.iadd, 1) := dgL_35.2.2.2.2.2.2.2.2.2.2.2.2.2.2.2.2.2.2.2.2.2.2.2.2.2.2.2.2.2.2.1
theorem dL_law_1349 : decode cL_law 1349 = .ok (.iaload, 1) := dgL_35.2.2.2.2.2.2.2.2.2.2.2.2.2.2.2.2.2.2.2.2.2.2.2.2.2.2.2.2.2.2.2.1
theorem dL_law_1350 : decode cL_law 1350 = .ok (.aload_n 0, 1) := dgL_35.2.2.2.2.2.2.2.2.2.2.2.2.2.2.2.2.2.2.2.2.2.2.2.2.2.2.2.2.2.2.2.2.1
theorem dL_law_1351 : decode cL_law 1351 = .ok (.iload 4, 2) := dgL_35.2.2.2.2.2.2.2.2.2.2.2.2.2.2.2.2.2.2.2.2.2.2.2.2.2.2.2.2.2.2.2.2.2.1
theorem dL_law_1353 : decode cL_law 1353 = .ok (.iconst 3, 1) := dgL_35.2.2.2.2.2.2.2.2.2.2.2.2.2.2.2.2.2.2.2.2.2.2.2.2.2.2.2.2.2.2.2.2.2.2.1
theorem dL_law_1354 : decode cL_law 1354 = .ok (.iadd, 1) := dgL_35.2.2.2.2.2.2.2.2.2.2.2.2.2.2.2.2.2.2.2.2.2.2.2.2.2.2.2.2.2.2.2.2.2.2.2.1
theorem dL_law_1355 : decode cL_law 1355 = .ok (.iaload, 1) := dgL_35.2.2.2.2.2.2.2.2.2.2.2.2.2.2.2.2.2.2.2.2.2.2.2.2.2.2.2.2.2.2.2.2.2.2.2.2.1
theorem dL_law_1356 : decode cL_law 1356 = .ok (.ifCond .eq 7, 3) := dgL_35.2.2.2.2.2.2.2.2.2.2.2.2.2.2.2.2.2.2.2.2.2.2.2.2.2.2.2.2.2.2.2.2.2.2.2.2.2.1
theorem dL_law_1359 : decode cL_law 1359 = .ok (.iconst 1, 1) := dgL_35.2.2.2.2.2.2.2.2.2.2.2.2.2.2.2.2.2.2.2.2.2.2.2.2.2.2.2.2.2.2.2.2.2.2.2.2.2.2.1
theorem dL_law_1360 : decode cL_law 1360 = .ok (.goto 4, 3) := dgL_35.2.2.2.2.2.2.2.2.2.2.2.2.2.2.2.2.2.2.2.2.2.2.2.2.2.2.2.2.2.2.2.2.2.2.2.2.2.2.2
theorem dgL_36 : (decode cL_law 1363 = .ok (.iconst 0, 1)) ∧ (decode cL_law 1364 = .ok (.aload_n 3, 1)) ∧ (decode cL_law 1365 = .ok (.invokestatic 284, 3)) ∧ (decode cL_law 1368 = .ok (.istore 5, 2)) ∧ (decode cL_law 1370 = .ok (.aload_n 2, 1)) ∧ (decode cL_law 1371 = .ok (.aload_n 0, 1)) ∧ (decode cL_law 1372 = .ok (.iload 4, 2)) ∧ (decode cL_law 1374 = .ok (.iconst 1, 1)) ∧ (decode cL_law 1375 = .ok (.iadd, 1)) ∧ (decode cL_law 1376 = .ok (.iaload, 1)) ∧ (decode cL_law 1377 = .ok (.aload_n 0, 1)) ∧ (decode cL_law 1378 = .ok (.iload 4, 2)) ∧ (decode cL_law 1380 = .ok (.iconst 2, 1)) ∧ (decode cL_law 1381 = .ok (.iadd, 1)) ∧ (decode cL_law 1382 = .ok (.iaload, 1)) ∧ (decode cL_law 1383 = .ok (.aload_n 0, 1)) ∧ (decode cL_law 1384 = .ok (.iload 4, 2)) ∧ (decode cL_law 1386 = .ok (.iconst 3, 1)) ∧ (decode cL_law 1387 = .ok (.iadd, 1)) ∧ (decode cL_law 1388 = .ok (.iaload, 1)) ∧ (decode cL_law 1389 = .ok (.ifCond .eq 7, 3)) ∧ (decode cL_law 1392 = .ok (.iconst 1, 1)) ∧ (decode cL_law 1393 = .ok (.goto 4, 3)) ∧ (decode cL_law 1396 = .ok (.iconst 0, 1)) ∧ (decode cL_law 1397 = .ok (.invokevirtual 286, 3)) ∧ (decode cL_law 1400 = .ok (.istore 6, 2)) ∧ (decode cL_law 1402 = .ok (.goto 1070, 3)) ∧ (decode cL_law 1405 = .ok (.aload_n 1, 1)) ∧ (decode cL_law 1406 = .ok (.aload_n 0, 1)) ∧ (decode cL_law 1407 = .ok (.iload 4, 2)) ∧ (decode cL_law 1409 = .ok (.iconst 1, 1)) ∧ (decode cL_law 1410 = .ok (.iadd, 1)) ∧ (decode cL_law 1411 = .ok (.iaload, 1)) ∧ (decode cL_law 1412 = .ok (.aload_n 0, 1)) ∧ (decode cL_law 1413 = .ok (.iload 4, 2)) ∧ (decode cL_law 1415 = .ok (.iconst 2, 1)) ∧ (decode cL_law 1416 = .ok (.iadd, 1)) ∧ (decode cL_law 1417 = .ok (.iaload, 1)) ∧ (decode cL_law 1418 = .ok (.invokevirtual 287, 3)) ∧ (decode cL_law 1421 = .ok (.pop, 1)) := by decide +kernel
theorem dL_law_1363 : decode cL_law 1363 = .ok (.iconst 0, 1) := dgL_36.1
theorem dL_law_1364 : decode cL_law 1364 = .ok (.aload_n 3, 1) := dgL_36.2.1
theorem dL_law_1365 : decode cL_law 1365 = .ok (.invokestatic 284, 3) := dgL_36.2.2.1
theorem dL_law_1368 : decode cL_law 1368 = .ok (.istore 5, 2) := dgL_36.2.2.2.1
theorem dL_law_1370 : decode cL_law 1370 = .ok (.aload_n 2, 1) := dgL_36.2.2.2.2.1
theorem dL_law_1371 : decode cL_law 1371 = .ok (.aload_n 0, 1) := dgL_36.2.2.2.2.2.1
theorem dL_law_1372 : decode cL_law 1372 = .ok (.iload 4, 2) := dgL_36.2.2.2.2.2.2.1
theorem dL_law_1374 : decode cL_law 1374 = .ok (.iconst 1, 1) := dgL_36.2.2.2.2.2.2.2.1
theorem dL_law_1375 : decode cL_law 1375 = .ok (.iadd, 1) := dgL_36.2.2.2.2.2.2.2.2.1
theorem dL_law_1376 : decode cL_law 1376 = .ok (.iaload, 1) := dgL_36.2.2.2.2.2.2.2.2.2.1
theorem dL_law_1377 : decode cL_law 1377 = .ok (.aload_n 0, 1) := dgL_36.2.2.2.2.2.2.2.2.2.2.1
theorem dL_law_1378 : decode cL_law 1378 = .ok (.iload 4, 2) := dgL_36.2.2.2.2.2.2.2.2.2.2.2.1
theorem dL_law_1380 : decode cL_law 1380 = .ok (.iconst 2, 1) := dgL_36.2.2.2.2.2.2.2.2.2.2.2.2.1
theorem dL_law_1381 : decode cL_law 1381 = .ok (.iadd, 1) := dgL_36.2.2.2.2.2.2.2.2.2.2.2.2.2.1
theorem dL_law_1382 : decode cL_law 1382 = .ok (.iaload, 1) := dgL_36.2.2.2.2.2.2.2.2.2.2.2.2.2.2.1
theorem dL_law_1383 : decode cL_law 1383 = .ok (.aload_n 0, 1) := dgL_36.2.2.2.2.2.2.2.2.2.2.2.2.2.2.2.1
theorem dL_law_1384 : decode cL_law 1384 = .ok (.iload 4, 2) := dgL_36.2.2.2.2.2.2.2.2.2.2.2.2.2.2.2.2.1
theorem dL_law_1386 : decode cL_law 1386 = .ok (.iconst 3, 1) := dgL_36.2.2.2.2.2.2.2.2.2.2.2.2.2.2.2.2.2.1
theorem dL_law_1387 : decode cL_law 1387 = .ok (.iadd, 1) := dgL_36.2.2.2.2.2.2.2.2.2.2.2.2.2.2.2.2.2.2.1
theorem dL_law_1388 : decode cL_law 1388 = .ok (.iaload, 1) := dgL_36.2.2.2.2.2.2.2.2.2.2.2.2.2.2.2.2.2.2.2.1
theorem dL_law_1389 : decode cL_law 1389 = .ok (.ifCond .eq 7, 3) := dgL_36.2.2.2.2.2.2.2.2.2.2.2.2.2.2.2.2.2.2.2.2.1
theorem dL_law_1392 : decode cL_law 1392 = .ok (.iconst 1, 1) := dgL_36.2.2.2.2.2.2.2.2.2.2.2.2.2.2.2.2.2.2.2.2.2.1
theorem dL_law_1393 : decode cL_law 1393 = .ok (.goto 4, 3) := dgL_36.2.2.2.2.2.2.2.2.2.2.2.2.2.2.2.2.2.2.2.2.2.2.1
theorem dL_law_1396 : decode cL_law 1396 = .ok (.iconst 0, 1) := dgL_36.2.2.2.2.2.2.2.2.2.2.2.2.2.2.2.2.2.2.2.2.2.2.2.1
theorem dL_law_1397 : decode cL_law 1397 = .ok (.invokevirtual 286, 3) := dgL_36.2.2.2.2.2.2.2.2.2.2.2.2.2.2.2.2.2.2.2.2.2.2.2.2.1
theorem dL_law_1400 : decode cL_law 1400 = .ok (.istore 6, 2) := dgL_36.2.2.2.2.2.2.2.2.2.2.2.2.2.2.2.2.2.2.2.2.2.2.2.2.2.1
theorem dL_law_1402 : decode cL_law 1402 = .ok (.goto 1070, 3) := dgL_36.2.2.2.2.2.2.2.2.2.2.2.2.2.2.2.2.2.2.2.2.2.2.2.2.2.2.1
theorem dL_law_1405 : decode cL_law 1405 = .ok (.aload_n 1, 1) := dgL_36.2.2.2.2.2.2.2.2.2.2.2.2.2.2.2.2.2.2.2.2.2.2.2.2.2.2.2.1
theorem dL_law_1406 : decode cL_law 1406 = .ok (.aload_n 0, 1) := dgL_36.2.2.2.2.2.2.2.2.2.2.2.2.2.2.2.2.2.2.2.2.2.2.2.2.2.2.2.2.1
theorem dL_law_1407 : decode cL_law 1407 = .ok (.iload 4, 2) := dgL_36.2.2.2.2.2.2.2.2.2.2.2.2.2.2.2.2.2.2.2.2.2.2.2.2.2.2.2.2.2.1
theorem dL_law_1409 : decode cL_law 1409 = .ok (.iconst 1, 1) := dgL_36.2.2.2.2.2.2.2.2.2.2.2.2.2.2.2.2.2.2.2.2.2.2.2.2.2.2.2.2.2.2.1
theorem dL_law_1410 : decode cL_law 1410 = .ok (.iadd, 1) := dgL_36.2.2.2.2.2.2.2.2.2.2.2.2.2.2.2.2.2.2.2.2.2.2.2.2.2.2.2.2.2.2.2.1
theorem dL_law_1411 : decode cL_law 1411 = .ok (.iaload, 1) := dgL_36.2.2.2.2.2.2.2.2.2.2.2.2.2.2.2.2.2.2.2.2.2.2.2.2.2.2.2.2.2.2.2.2.1
theorem dL_law_1412 : decode cL_law 1412 = .ok (.aload_n 0, 1) := dgL_36.2.2.2.2.2.2.2.2.2.2.2.2.2.2.2.2.2.2.2.2.2.2.2.2.2.2.2.2.2.2.2.2.2.1
theorem dL_law_1413 : decode cL_law 1413 = .ok (.iload 4, 2) := dgL_36.2.2.2.2.2.2.2.2.2.2.2.2.2.2.2.2.2.2.2.2.2.2.2.2.2.2.2.2.2.2.2.2.2.2.1
theorem dL_law_1415 : decode cL_law 1415 = .ok (.iconst 2, 1) := dgL_36.2.2.2.2.2.2.2.2.2.2.2.2.2.2.2.2.2.2.2.2.2.2.2.2.2.2.2.2.2.2.2.2.2.2.2.1
theorem dL_law_1416 : decode cL_law 1416 = .ok (.iadd, 1) := dgL_36.2.2.2.2.2.2.2.2.2.2.2.2.2.2.2.2.2.2.2.2.2.2.2.2.2.2.2.2.2.2.2.2.2.2.2.2.1
theorem dL_law_1417 : decode cL_law 1417 = .ok (.iaload, 1) := dgL_36.2.2.2.2.2.2.2.2.2.2.2.2.2.2.2.2.2.2.2.2.2.2.2.2.2.2.2.2.2.2.2.2.2.2.2.2.2.1
theorem dL_law_1418 : decode cL_law 1418 = .ok (.invokevirtual 287, 3) := dgL_36.2.2.2.2.2.2.2.2.2.2.2.2.2.2.2.2.2.2.2.2.2.2.2.2.2.2.2.2.2.2.2.2.2.2.2.2.2.2.1
theorem dL_law_1421 : decode cL_law 1421 = .ok (.pop, 1) := dgL_36.2.2.2.2.2.2.2.2.2.2.2.2.2.2.2.2.2.2.2.2.2.2.2.2.2.2.2.2.2.2.2.2.2.2.2.2.2.2.2
theorem dgL_37 : (decode cL_law 1422 = .ok (.aload_n 2, 1)) ∧ (decode cL_law 1423 = .ok (.aload_n 0, 1)) ∧ (decode cL_law 1424 = .ok (.iload 4, 2)) ∧ (decode cL_law 1426 = .ok (.iconst 1, 1)) ∧ (decode cL_law 1427 = .ok (.iadd, 1)) ∧ (decode cL_law 1428 = .ok (.iaload, 1)) ∧ (decode cL_law 1429 = .ok (.aload_n 0, 1)) ∧ (decode cL_law 1430 = .ok (.iload 4, 2)) ∧ (decode cL_law 1432 = .ok (.iconst 2, 1)) ∧ (decode cL_law 1433 = .ok (.iadd, 1)) ∧ (decode cL_law 1434 = .ok (.iaload, 1)) ∧ (decode cL_law 1435 = .ok (.invokevirtual 290, 3)) ∧ (decode cL_law 1438 = .ok (.pop, 1)) ∧ (decode cL_law 1439 = .ok (.goto 1033, 3)) ∧ (decode cL_law 1442 = .ok (.aload_n 1, 1)) ∧ (decode cL_law 1443 = .ok (.aload_n 0, 1)) ∧ (decode cL_law 1444 = .ok (.iload 4, 2)) ∧ (decode cL_law 1446 = .ok (.iconst 1, 1)) ∧ (decode cL_law 1447 = .ok (.iadd, 1)) ∧ (decode cL_law 1448 = .ok (.iaload, 1)) ∧ (decode cL_law 1449 = .ok (.aload_n 3, 1)) ∧ (decode cL_law 1450 = .ok (.invokestatic 291, 3)) ∧ (decode cL_law 1453 = .ok (.istore 5, 2)) ∧ (decode cL_law 1455 = .ok (.aload_n 2, 1)) ∧ (decode cL_law 1456 = .ok (.aload_n 0, 1)) ∧ (decode cL_law 1457 = .ok (.iload 4, 2)) ∧ (decode cL_law 1459 = .ok (.iconst 1, 1)) ∧ (decode cL_law 1460 = .ok (.iadd, 1)) ∧ (decode cL_law 1461 = .ok (.iaload, 1)) ∧ (decode cL_law 1462 = .ok (.invokevirtual 293, 3)) ∧ (decode cL_law 1465 = .ok (.istore 6, 2)) ∧ (decode cL_law 1467 = .ok (.goto 1005, 3)) ∧ (decode cL_law 1470 = .ok (.aload_n 1, 1)) ∧ (decode cL_law 1471 = .ok (.aload_n 0, 1)) ∧ (decode cL_law 1472 = .ok (.iload 4, 2)) ∧ (decode cL_law 1474 = .ok (.iconst 1, 1)) ∧ (decode cL_law 1475 = .ok (.iadd, 1)) ∧ (decode cL_law 1476 = .ok (.iaload, 1)) ∧ (decode cL_law 1477 = .ok (.aload_n 0, 1)) ∧ (decode cL_law 1478 = .ok (.iload 4, 2)) := by decide +kernel
theorem dL_law_1422 : decode cL_law 1422 = .ok (.aload_n 2, 1) := dgL_37.1
theorem dL_law_1423 : decode cL_law 1423 = .ok (.aload_n 0, 1) := dgL_37.2.1
theorem dL_law_1424 : decode cL_law 1424 = .ok (.iload 4, 2) := dgL_37.2.2.1
theorem dL_law_1426 : decode cL_law 1426 = .ok (.iconst 1, 1) := dgL_37.2.2.2.1
theorem dL_law_1427 : decode cL_law 1427 = .ok (.iadd, 1) := dgL_37.2.2.2.2.1
theorem dL_law_1428 : decode cL_law 1428 = .ok (.iaload, 1) := dgL_37.2.2.2.2.2.1
theorem dL_law_1429 : decode cL_law 1429 = .ok (.aload_n 0, 1) := dgL_37.2.2.2.2.2.2.1
theorem dL_law_1430 : decode cL_law 1430 = .ok (.iload 4, 2) := dgL_37.2.2.2.2.2.2.2.1
theorem dL_law_1432 : decode cL_law 1432 = .ok (.iconst 2, 1) := dgL_37.2.2.2.2.2.2.2.2.1
theorem dL_law_1433 : decode cL_law 1433 = .ok (.iadd, 1) := dgL_37.2.2.2.2.2.2.2.2.2.1
theorem dL_law_1434 : decode cL_law 1434 = .ok (.iaload, 1) := dgL_37.2.2.2.2.2.2.2.2.2.2.1
theorem dL_law_1435 : decode cL_law 1435 = .ok (.invokevirtual 290, 3) := dgL_37.2.2.2.2.2.2.2.2.2.2.2.1
theorem dL_law_1438 : decode cL_law 1438 = .ok (.pop, 1) := dgL_37.2.2.2.2.2.2.2.2.2.2.2.2.1
theorem dL_law_1439 : decode cL_law 1439 = .ok (.goto 1033, 3) := dgL_37.2.2.2.2.2.2.2.2.2.2.2.2.2.1
theorem dL_law_1442 : decode cL_law 1442 = .ok (.aload_n 1, 1) := dgL_37.2.2.2.2.2.2.2.2.2.2.2.2.2.2.1
theorem dL_law_1443 : decode cL_law 1443 = .ok (.aload_n 0, 1) := dgL_37.2.2.2.2.2.2.2.2.2.2.2.2.2.2.2.1
theorem dL_law_1444 : decode cL_law 1444 = .ok (.iload 4, 2) := dgL_37.2.2.2.2.2.2.2.2.2.2.2.2.2.2.2.2.1
theorem dL_law_1446 : decode cL_law 1446 = .ok (.iconst 1, 1) := dgL_37.2.2.2.2.2.2.2.2.2.2.2.2.2.2.2.2.2.1
theorem dL_law_1447 : decode cL_law 1447 = .ok (.iadd, 1) := dgL_37.2.2.2.2.2.2.2.2.2.2.2.2.2.2.2.2.2.2.1
theorem dL_law_1448 : decode cL_law 1448 = .ok (.iaload, 1) := dgL_37.2.2.2.2.2.2.2.2.2.2.2.2.2.2.2.2.2.2.2.1
theorem dL_law_1449 : decode cL_law 1449 = .ok (.aload_n 3, 1) := dgL_37.2.2.2.2.2.2.2.2.2.2.2.2.2.2.2.2.2.2.2.2.1
theorem dL_law_1450 : decode cL_law 1450 = .ok (.invokestatic 291, 3) := dgL_37.2.2.2.2.2.2.2.2.2.2.2.2.2.2.2.2.2.2.2.2.2.1
theorem dL_law_1453 : decode cL_law 1453 = .ok (.istore 5, 2) := dgL_37.2.2.2.2.2.2.2.2.2.2.2.2.2.2.2.2.2.2.2.2.2.2.1
theorem dL_law_1455 : decode cL_law 1455 = .ok (.aload_n 2, 1) := dgL_37.2.2.2.2.2.2.2.2.2.2.2.2.2.2.2.2.2.2.2.2.2.2.2.1
theorem dL_law_1456 : decode cL_law 1456 = .ok (.aload_n 0, 1) := dgL_37.2.2.2.2.2.2.2.2.2.2.2.2.2.2.2.2.2.2.2.2.2.2.2.2.1
theorem dL_law_1457 : decode cL_law 1457 = .ok (.iload 4, 2) := dgL_37.2.2.2.2.2.2.2.2.2.2.2.2.2.2.2.2.2.2.2.2.2.2.2.2.2.1
theorem dL_law_1459 : decode cL_law 1459 = .ok (.iconst 1, 1) := dgL_37.2.2.2.2.2.2.2.2.2.2.2.2.2.2.2.2.2.2.2.2.2.2.2.2.2.2.1
theorem dL_law_1460 : decode cL_law 1460 = .ok (.iadd, 1) := dgL_37.2.2.2.2.2.2.2.2.2.2.2.2.2.2.2.2.2.2.2.2.2.2.2.2.2.2.2.1
theorem dL_law_1461 : decode cL_law 1461 = .ok (.iaload, 1) := dgL_37.2.2.2.2.2.2.2.2.2.2.2.2.2.2.2.2.2.2.2.2.2.2.2.2.2.2.2.2.1
theorem dL_law_1462 : decode cL_law 1462 = .ok (.invokevirtual 293, 3) := dgL_37.2.2.2.2.2.2.2.2.2.2.2.2.2.2.2.2.2.2.2.2.2.2.2.2.2.2.2.2.2.1
theorem dL_law_1465 : decode cL_law 1465 = .ok (.istore 6, 2) := dgL_37.2.2.2.2.2.2.2.2.2.2.2.2.2.2.2.2.2.2.2.2.2.2.2.2.2.2.2.2.2.2.1
theorem dL_law_1467 : decode cL_law 1467 = .ok (.goto 1005, 3) := dgL_37.2.2.2.2.2.2.2.2.2.2.2.2.2.2.2.2.2.2.2.2.2.2.2.2.2.2.2.2.2.2.2.1
theorem dL_law_1470 : decode cL_law 1470 = .ok (.aload_n 1, 1) := dgL_37.2.2.2.2.2.2.2.2.2.2.2.2.2.2.2.2.2.2.2.2.2.2.2.2.2.2.2.2.2.2.2.2.1
theorem dL_law_1471 : decode cL_law 1471 = .ok (.aload_n 0, 1) := dgL_37.2.2.2.2.2.2.2.2.2.2.2.2.2.2.2.2.2.2.2.2.2.2.2.2.2.2.2.2.2.2.2.2.2.1
theorem dL_law_1472 : decode cL_law 1472 = .ok (.iload 4, 2) := dgL_37.2.2.2.2.2.2.2.2.2.2.2.2.2.2.2.2.2.2.2.2.2.2.2.2.2.2.2.2.2.2.2.2.2.2.1
theorem dL_law_1474 : decode cL_law 1474 = .ok (.iconst 1, 1) := dgL_37.2.2.2.2.2.2.2.2.2.2.2.2.2.2.2.2.2.2.2.2.2.2.2.2.2.2.2.2.2.2.2.2.2.2.2.1
theorem dL_law_1475 : decode cL_law 1475 = .ok (.iadd, 1) := dgL_37.2.2.2.2.2.2.2.2.2.2.2.2.2.2.2.2.2.2.2.2.2.2.2.2.2.2.2.2.2.2.2.2.2.2.2.2.1
theorem dL_law_1476 : decode cL_law 1476 = .ok (.iaload, 1) := dgL_37.2.2.2.2.2.2.2.2.2.2.2.2.2.2.2.2.2.2.2.2.2.2.2.2.2.2.2.2.2.2.2.2.2.2.2.2.2.1
theorem dL_law_1477 : decode cL_law 1477 = .ok (.aload_n 0, 1) := dgL_37.2.2.2.2.2.2.2.2.2.2.2.2.2.2.2.2.2.2.2.2.2.2.2.2.2.2.2.2.2.2.2.2.2.2.2.2.2.2.1
theorem dL_law_1478 : decode cL_law 1478 = .ok (.iload 4, 2) := dgL_37.2.2.2.2.2.2.2.2.2.2.2.2.2.2.2.2.2.2.2.2.2.2.2.2.2.2.2.2.2.2.2.2.2.2.2.2.2.2.2
theorem dgL_38 : (decode cL_law 1480 = .ok (.iconst 2, 1)) ∧ (decode cL_law 1481 = .ok (.iadd, 1)) ∧ (decode cL_law 1482 = .ok (.iaload, 1)) ∧ (decode cL_law 1483 = .ok (.aload_n 3, 1)) ∧ (decode cL_law 1484 = .ok (.invokestatic 294, 3)) ∧ (decode cL_law 1487 = .ok (.istore 5, 2)) ∧ (decode cL_law 1489 = .ok (.aload_n 2, 1)) ∧ (decode cL_law 1490 = .ok (.aload_n 0, 1)) ∧ (decode cL_law 1491 = .ok (.iload 4, 2)) ∧ (decode cL_law 1493 = .ok (.iconst 1, 1)) ∧ (decode cL_law 1494 = .ok (.iadd, 1)) ∧ (decode cL_law 1495 = .ok (.iaload, 1)) ∧ (decode cL_law 1496 = .ok (.aload_n 0, 1)) ∧ (decode cL_law 1497 = .ok (.iload 4, 2)) ∧ (decode cL_law 1499 = .ok (.iconst 2, 1)) ∧ (decode cL_law 1500 = .ok (.iadd, 1)) ∧ (decode cL_law 1501 = .ok (.iaload, 1)) ∧ (decode cL_law 1502 = .ok (.invokevirtual 296, 3)) ∧ (decode cL_law 1505 = .ok (.istore 6, 2)) ∧ (decode cL_law 1507 = .ok (.goto 965, 3)) ∧ (decode cL_law 1510 = .ok (.aload_n 1, 1)) ∧ (decode cL_law 1511 = .ok (.aload_n 0, 1)) ∧ (decode cL_law 1512 = .ok (.iload 4, 2)) ∧ (decode cL_law 1514 = .ok (.iconst 1, 1)) ∧ (decode cL_law 1515 = .ok (.iadd, 1)) ∧ (decode cL_law 1516 = .ok (.iaload, 1)) ∧ (decode cL_law 1517 = .ok (.aload_n 0, 1)) ∧ (decode cL_law 1518 = .ok (.iload 4, 2)) ∧ (decode cL_law 1520 = .ok (.iconst 2, 1)) ∧ (decode cL_law 1521 = .ok (.iadd, 1)) ∧ (decode cL_law 1522 = .ok (.iaload, 1)) ∧ (decode cL_law 1523 = .ok (.aload_n 3, 1)) ∧ (decode cL_law 1524 = .ok (.invokestatic 297, 3)) ∧ (decode cL_law 1527 = .ok (.istore 5, 2)) ∧ (decode cL_law 1529 = .ok (.aload_n 2, 1)) ∧ (decode cL_law 1530 = .ok (.aload_n 0, 1)) ∧ (decode cL_law 1531 = .ok (.iload 4, 2)) ∧ (decode cL_law 1533 = .ok (.iconst 1, 1)) ∧ (decode cL_law 1534 = .ok (.iadd, 1)) ∧ (decode cL_law 1535 = .ok (.iaload, 1)) := by decide +kernel
theorem dL_law_1480 : decode cL_law 1480 = .ok (.iconst 2, 1) := dgL_38.1
theorem dL_law_1481 : decode cL_law 1481 = .ok (.iadd, 1) := dgL_38.2.1
theorem dL_law_1482 : decode cL_law 1482 = .ok (.iaload, 1) := dgL_38.2.2.1
theorem dL_law_1483 : decode cL_law 1483 = .ok (.aload_n 3, 1) := dgL_38.2.2.2.1
theorem dL_law_1484 : decode cL_law 1484 = .ok (.invokestatic 294, 3) := dgL_38.2.2.2.2.1
theorem dL_law_1487 : decode cL_law 1487 = .ok (.istore 5, 2) := dgL_38.2.2.2.2.2.1
theorem dL_law_1489 : decode cL_law 1489 = .ok (.aload_n 2, 1) := dgL_38.2.2.2.2.2.2.1
theorem dL_law_1490 : decode cL_law 1490 = .ok (.aload_n 0, 1) := dgL_38.2.2.2.2.2.2.2.1
theorem dL_law_1491 : decode cL_law 1491 = .ok (.iload 4, 2) := dgL_38.2.2.2.2.2.2.2.2.1
theorem dL_law_1493 : decode cL_law 1493 = .ok (.iconst 1, 1) := dgL_38.2.2.2.2.2.2.2.2.2.1
theorem dL_law_1494 : decode cL_law 1494 = .ok (.iadd, 1) := dgL_38.2.2.2.2.2.2.2.2.2.2.1
theorem dL_law_1495 : decode cL_law 1495 = .ok (.iaload, 1) := dgL_38.2.2.2.2.2.2.2.2.2.2.2.1
theorem dL_law_1496 : decode cL_law 1496 = .ok (.aload_n 0, 1) := dgL_38.2.2.2.2.2.2.2.2.2.2.2.2.1
theorem dL_law_1497 : decode cL_law 1497 = .ok (.iload 4, 2) := dgL_38.2.2.2.2.2.2.2.2.2.2.2.2.2.1
theorem dL_law_1499 : decode cL_law 1499 = .ok (.iconst 2, 1) := dgL_38.2.2.2.2.2.2.2.2.2.2.2.2.2.2.1
theorem dL_law_1500 : decode cL_law 1500 = .ok (.iadd, 1) := dgL_38.2.2.2.2.2.2.2.2.2.2.2.2.2.2.2.1
theorem dL_law_1501 : decode cL_law 1501 = .ok (.iaload, 1) := dgL_38.2.2.2.2.2.2.2.2.2.2.2.2.2.2.2.2.1
theorem dL_law_1502 : decode cL_law 1502 = .ok (.invokevirtual 296, 3) := dgL_38.2.2.2.2.2.2.2.2.2.2.2.2.2.2.2.2.2.1
theorem dL_law_1505 : decode cL_law 1505 = .ok (.istore 6, 2) := dgL_38.2.2.2.2.2.2.2.2.2.2.2.2.2.2.2.2.2.2.1
theorem dL_law_1507 : decode cL_law 1507 = .ok (.goto 965, 3) := dgL_38.2.2.2.2.2.2.2.2.2.2.2.2.2.2.2.2.2.2.2.1
theorem dL_law_1510 : decode cL_law 1510 = .ok (.aload_n 1, 1) := dgL_38.2.2.2.2.2.2.2.2.2.2.2.2.2.2.2.2.2.2.2.2.1
theorem dL_law_1511 : decode cL_law 1511 = .ok (.aload_n 0, 1) := dgL_38.2.2.2.2.2.2.2.2.2.2.2.2.2.2.2.2.2.2.2.2.2.1
theorem dL_law_1512 : decode cL_law 1512 = .ok (.iload 4, 2) := dgL_38.2.2.2.2.2.2.2.2.2.2.2.2.2.2.2.2.2.2.2.2.2.2.1
theorem dL_law_1514 : decode cL_law 1514 = .ok (.iconst 1, 1) := dgL_38.2.2.2.2.2.2.2.2.2.2.2.2.2.2.2.2.2.2.2.2.2.2.2.1
theorem dL_law_1515 : decode cL_law 1515 = .ok (.iadd, 1) := dgL_38.2.2.2.2.2.2.2.2.2.2.2.2.2.2.2.2.2.2.2.2.2.2.2.2.1
theorem dL_law_1516 : decode cL_law 1516 = .ok (.iaload, 1) := dgL_38.2.2.2.2.2.2.2.2.2.2.2.2.2.2.2.2.2.2.2.2.2.2.2.2.2.1
theorem dL_law_1517 : decode cL_law 1517 = .ok (.aload_n 0, 1) := dgL_38.2.2.2.2.2.2.2.2.2.2.2.2.2.2.2.2.2.2.2.2.2.2.2.2.2.2.1
theorem dL_law_1518 : decode cL_law 1518 = .ok (.iload 4, 2) := dgL_38.2.2.2.2.2.2.2.2.2.2.2.2.2.2.2.2.2.2.2.2.2.2.2.2.2.2.2.1
theorem dL_law_1520 : decode cL_law 1520 = .ok (.iconst 2, 1) := dgL_38.2.2.2.2.2.2.2.2.2.2.2.2.2.2.2.2.2.2.2.2.2.2.2.2.2.2.2.2.1
theorem dL_law_1521 : decode cL_law 1521 = .ok (.iadd, 1) := dgL_38.2.2.2.2.2.2.2.2.2.2.2.2.2.2.2.2.2.2.2.2.2.2.2.2.2.2.2.2.2.1
theorem dL_law_1522 : decode cL_law 1522 = .ok (.iaload, 1) := dgL_38.2.2.2.2.2.2.2.2.2.2.2.2.2.2.2.2.2.2.2.2.2.2.2.2.2.2.2.2.2.2.1
theorem dL_law_1523 : decode cL_law 1523 = .ok (.aload_n 3, 1) := dgL_38.2.2.2.2.2.2.2.2.2.2.2.2.2.2.2.2.2.2.2.2.2.2.2.2.2.2.2.2.2.2.2.1
theorem dL_law_1524 : decode cL_law 1524 = .ok (.invokestatic 297, 3) := dgL_38.2.2.2.2.2.2.2.2.2.2.2.2.2.2.2.2.2.2.2.2.2.2.2.2.2.2.2.2.2.2.2.2.1
theorem dL_law_1527 : decode cL_law 1527 = .ok (.istore 5, 2) := dgL_38.2.2.2.2.2.2.2.2.2.2.2.2.2.2.2.2.2.2.2.2.2.2.2.2.2.2.2.2.2.2.2.2.2.1
theorem dL_law_1529 : decode cL_law 1529 = .ok (.aload_n 2, 1) := dgL_38.2.2.2.2.2.2.2.2.2.2.2.2.2.2.2.2.2.2.2.2.2.2.2.2.2.2.2.2.2.2.2.2.2.2.1
theorem dL_law_1530 : decode cL_law 1530 = .ok (.aload_n 0, 1) := dgL_38.2.2.2.2.2.2.2.2.2.2.2.2.2.2.2.2.2.2.2.2.2.2.2.2.2.2.2.2.2.2.2.2.2.2.2.1
theorem dL_law_1531 : decode cL_law 1531 = .ok (.iload 4, 2) := dgL_38.2.2.2.2.2.2.2.2.2.2.2.2.2.2.2.2.2.2.2.2.2.2.2.2.2.2.2.2.2.2.2.2.2.2.2.2.1
theorem dL_law_1533 : decode cL_law 1533 = .ok (.iconst 1, 1) := dgL_38.2.2.2.2.2.2.2.2.2.2.2.2.2.2.2.2.2.2.2.2.2.2.2.2.2.2.2.2.2.2.2.2.2.2.2.2.2.1
theorem dL_law_1534 : decode cL_law 1534 = .ok (.iadd, 1) := dgL_38.2.2.2.2.2.2.2.2.2.2.2.2.2.2.2.2.2.2.2.2.2.2.2.2.2.2.2.2.2.2.2.2.2.2.2.2.2.2.1
theorem dL_law_1535 : decode cL_law 1535 = .ok (.iaload, 1) := dgL_38.2.2.2.2.2.2.2.2.2.2.2.2.2.2.2.2.2.2.2.2.2.2.2.2.2.2.2.2.2.2.2.2.2.2.2.2.2.2.2
theorem dgL_39 : (decode cL_law 1536 = .ok (.aload_n 0, 1)) ∧ (decode cL_law 1537 = .ok (.iload 4, 2)) ∧ (decode cL_law 1539 = .ok (.iconst 2, 1)) ∧ (decode cL_law 1540 = .ok (.iadd, 1)) ∧ (decode cL_law 1541 = .ok (.iaload, 1)) ∧ (decode cL_law 1542 = .ok (.invokevirtual 299, 3)) ∧ (decode cL_law 1545 = .ok (.istore 6, 2)) ∧ (decode cL_law 1547 = .ok (.goto 925, 3)) ∧ (decode cL_law 1550 = .ok (.aload_n 1, 1)) ∧ (decode cL_law 1551 = .ok (.aload_n 0, 1)) ∧ (decode cL_law 1552 = .ok (.iload 4, 2)) ∧ (decode cL_law 1554 = .ok (.iconst 1, 1)) ∧ (decode cL_law 1555 = .ok (.iadd, 1)) ∧ (decode cL_law 1556 = .ok (.iaload, 1)) ∧ (decode cL_law 1557 = .ok (.aload_n 0, 1)) ∧ (decode cL_law 1558 = .ok (.iload 4, 2)) ∧ (decode cL_law 1560 = .ok (.iconst 2, 1)) ∧ (decode cL_law 1561 = .ok (.iadd, 1)) ∧ (decode cL_law 1562 = .ok (.iaload, 1)) ∧ (decode cL_law 1563 = .ok (.aload_n 0, 1)) ∧ (decode cL_law 1564 = .ok (.iload 4, 2)) ∧ (decode cL_law 1566 = .ok (.iconst 3, 1)) ∧ (decode cL_law 1567 = .ok (.iadd, 1)) ∧ (decode cL_law 1568 = .ok (.iaload, 1)) ∧ (decode cL_law 1569 = .ok (.aload_n 3, 1)) ∧ (decode cL_law 1570 = .ok (.invokestatic 300, 3)) ∧ (decode cL_law 1573 = .ok (.istore 5, 2)) ∧ (decode cL_law 1575 = .ok (.aload_n 2, 1)) ∧ (decode cL_law 1576 = .ok (.aload_n 0, 1)) ∧ (decode cL_law 1577 = .ok (.iload 4, 2)) ∧ (decode cL_law 1579 = .ok (.iconst 1, 1)) ∧ (decode cL_law 1580 = .ok (.iadd, 1)) ∧ (decode cL_law 1581 = .ok (.iaload, 1)) ∧ (decode cL_law 1582 = .ok (.aload_n 0, 1)) ∧ (decode cL_law 1583 = .ok (.iload 4, 2)) ∧ (decode cL_law 1585 = .ok (.iconst 2, 1)) ∧ (decode cL_law 1586 = .ok (.iadd, 1)) ∧ (decode cL_law 1587 = .ok (.iaload, 1)) ∧ (decode cL_law 1588 = .ok (.aload_n 0, 1)) ∧ (decode cL_law 1589 = .ok (.iload 4, 2)) := by decide +kernel
theorem dL_law_1536 : decode cL_law 1536 = .ok (.aload_n 0, 1) := dgL_39.1
theorem dL_law_1537 : decode cL_law 1537 = .ok (.iload 4, 2) := dgL_39.2.1
theorem dL_law_1539 : decode cL_law 1539 = .ok (.iconst 2, 1) := dgL_39.2.2.1
theorem dL_law_1540 : decode cL_law 1540 = .ok (.iadd, 1) := dgL_39.2.2.2.1
theorem dL_law_1541 : decode cL_law 1541 = .ok (.iaload, 1) := dgL_39.2.2.2.2.1
theorem dL_law_1542 : decode cL_law 1542 = .ok (.invokevirtual 299, 3) := dgL_39.2.2.2.2.2.1
theorem dL_law_1545 : decode cL_law 1545 = .ok (.istore 6, 2) := dgL_39.2.2.2.2.2.2.1
theorem dL_law_1547 : decode cL_law 1547 = .ok (.goto 925, 3) := dgL_39.2.2.2.2.2.2.2.1
theorem dL_law_1550 : decode cL_law 1550 = .ok (.aload_n 1, 1) := dgL_39.2.2.2.2.2.2.2.2.1
theorem dL_law_1551 : decode cL_law 1551 = .ok (.aload_n 0, 1) := dgL_39.2.2.2.2.2.2.2.2.2.1
theorem dL_law_1552 : decode cL_law 1552 = .ok (.iload 4, 2) := dgL_39.2.2.2.2.2.2.2.2.2.2.1
theorem dL_law_1554 : decode cL_law 1554 = .ok (.iconst 1, 1) := dgL_39.2.2.2.2.2.2.2.2.2.2.2.1
theorem dL_law_1555 : decode cL_law 1555 = .ok (.iadd, 1) := dgL_39.2.2.2.2.2.2.2.2.2.2.2.2.1
theorem dL_law_1556 : decode cL_law 1556 = .ok (.iaload, 1) := dgL_39.2.2.2.2.2.2.2.2.2.2.2.2.2.1
theorem dL_law_1557 : decode cL_law 1557 = .ok (.aload_n 0, 1) := dgL_39.2.2.2.2.2.2.2.2.2.2.2.2.2.2.1
theorem dL_law_1558 : decode cL_law 1558 = .ok (.iload 4, 2) := dgL_39.2.2.2.2.2.2.2.2.2.2.2.2.2.2.2.1
theorem dL_law_1560 : decode cL_law 1560 = .ok (.iconst 2, 1) := dgL_39.2.2.2.2.2.2.2.2.2.2.2.2.2.2.2.2.1
theorem dL_law_1561 : decode cL_law 1561 = .ok (.iadd, 1) := dgL_39.2.2.2.2.2.2.2.2.2.2.2.2.2.2.2.2.2.1
theorem dL_law_1562 : decode cL_law 1562 = .ok (.iaload, 1) := dgL_39.2.2.2.2.2.2.2.2.2.2.2.2.2.2.2.2.2.2.1
theorem dL_law_1563 : decode cL_law 1563 = .ok (.aload_n 0, 1) := dgL_39.2.2.2.2.2.2.2.2.2.2.2.2.2.2.2.2.2.2.2.1
theorem dL_law_1564 : decode cL_law 1564 = .ok (.iload 4, 2) := dgL_39.2.2.2.2.2.2.2.2.2.2.2.2.2.2.2.2.2.2.2.2.1
theorem dL_law_1566 : decode cL_law 1566 = .ok (.iconst 3, 1) := dgL_39.2.2.2.2.2.2.2.2.2.2.2.2.2.2.2.2.2.2.2.2.2.1
theorem dL_law_1567 : decode cL_law 1567 = .ok (.iadd, 1) := dgL_39.2.2.2.2.2.2.2.2.2.2.2.2.2.2.2.2.2.2.2.2.2.2.1
theorem dL_law_1568 : decode cL_law 1568 = .ok (.iaload, 1) := dgL_39.2.2.2.2.2.2.2.2.2.2.2.2.2.2.2.2.2.2.2.2.2.2.2.1
theorem dL_law_1569 : decode cL_law 1569 = .ok (.aload_n 3, 1) := dgL_39.2.2.2.2.2.2.2.2.2.2.2.2.2.2.2.2.2.2.2.2.2.2.2.2.1
theorem dL_law_1570 : decode cL_law 1570 = .ok (.invokestatic 300, 3) := dgL_39.2.2.2.2.2.2.2.2.2.2.2.2.2.2.2.2.2.2.2.2.2.2.2.2.2.1
theorem dL_law_1573 : decode cL_law 1573 = .ok (.istore 5, 2) := dgL_39.2.2.2.2.2.2.2.2.2.2.2.2.2.2.2.2.2.2.2.2.2.2.2.2.2.2.1
theorem dL_law_1575 : decode cL_law 1575 = .ok (.aload_n 2, 1) := dgL_39.2.2.2.2.2.2.2.2.2.2.2.2.2.2.2.2.2.2.2.2.2.2.2.2.2.2.2.1
theorem dL_law_1576 : decode cL_law 1576 = .ok (.aload_n 0, 1) := dgL_39.2.2.2.2.2.2.2.2.2.2.2.2.2.2.2.2.2.2.2.2.2.2.2.2.2.2.2.2.1
theorem dL_law_1577 : decode cL_law 1577 = .ok (.iload 4, 2) := dgL_39.2.2.2.2.2.2.2.2.2.2.2.2.2.2.2.2.2.2.2.2.2.2.2.2.2.2.2.2.2.1
theorem dL_law_1579 : decode cL_law 1579 = .ok (.iconst 1, 1) := dgL_39.2.2.2.2.2.2.2.2.2.2.2.2.2.2.2.2.2.2.2.2.2.2.2.2.2.2.2.2.2.2.1
theorem dL_law_1580 : decode cL_law 1580 = .ok (.iadd, 1) := dgL_39.2.2.2.2.2.2.2.2.2.2.2.2.2.2.2.2.2.2.2.2.2.2.2.2.2.2.2.2.2.2.2.1
theorem dL_law_1581 : decode cL_law 1581 = .ok (.iaload, 1) := dgL_39.2.2.2.2.2.2.2.2.2.2.2.2.2.2.2.2.2.2.2.2.2.2.2.2.2.2.2.2.2.2.2.2.1
theorem dL_law_1582 : decode cL_law 1582 = .ok (.aload_n 0, 1) := dgL_39.2.2.2.2.2.2.2.2.2.2.2.2.2.2.2.2.2.2.2.2.2.2.2.2.2.2.2.2.2.2.2.2.2.1
theorem dL_law_1583 : decode cL_law 1583 = .ok (.iload 4, 2) := dgL_39.2.2.2.2.2.2.2.2.2.2.2.2.2.2.2.2.2.2.2.2.2.2.2.2.2.2.2.2.2.2.2.2.2.2.1
theorem dL_law_1585 : decode cL_law 1585 = .ok (.iconst 2, 1) := dgL_39.2.2.2.2.2.2.2.2.2.2.2.2.2.2.2.2.2.2.2.2.2.2.2.2.2.2.2.2.2.2.2.2.2.2.2.1
theorem dL_law_1586 : decode cL_law 1586 = .ok (.iadd, 1) := dgL_39.2.2.2.2.2.2.2.2.2.2.2.2.2.2.2.2.2.2.2.2.2.2.2.2.2.2.2.2.2.2.2.2.2.2.2.2.1
theorem dL_law_1587 : decode cL_law 1587 = .ok (.iaload, 1) := dgL_39.2.2.2.2.2.2.2.2.2.2.2.2.2.2.2.2.2.2.2.2.2.2.2.2.2.2.2.2.2.2.2.2.2.2.2.2.2.1
theorem dL_law_1588 : decode cL_law 1588 = .ok (.aload_n 0, 1) := dgL_39.2.2.2.2.2.2.2.2.2.2.2.2.2.2.2.2.2.2.2.2.2.2.2.2.2.2.2.2.2.2.2.2.2.2.2.2.2.2.1
theorem dL_law_1589 : decode cL_law 1589 = .ok (.iload 4, 2) := dgL_39.2.2.2.2.2.2.2.2.2.2.2.2.2.2.2.2.2.2.2.2.2.2.2.2.2.2.2.2.2.2.2.2.2.2.2.2.2.2.2
theorem dgL_40 : (decode cL_law 1591 = .ok (.iconst 3, 1)) ∧ (decode cL_law 1592 = .ok (.iadd, 1)) ∧ (decode cL_law 1593 = .ok (.iaload, 1)) ∧ (decode cL_law 1594 = .ok (.invokevirtual 302, 3)) ∧ (decode cL_law 1597 = .ok (.istore 6, 2)) ∧ (decode cL_law 1599 = .ok (.goto 873, 3)) ∧ (decode cL_law 1602 = .ok (.aload_n 1, 1)) ∧ (decode cL_law 1603 = .ok (.aload_n 0, 1)) ∧ (decode cL_law 1604 = .ok (.iload 4, 2)) ∧ (decode cL_law 1606 = .ok (.iconst 1, 1)) ∧ (decode cL_law 1607 = .ok (.iadd, 1)) ∧ (decode cL_law 1608 = .ok (.iaload, 1)) ∧ (decode cL_law 1609 = .ok (.aload_n 0, 1)) ∧ (decode cL_law 1610 = .ok (.iload 4, 2)) ∧ (decode cL_law 1612 = .ok (.iconst 2, 1)) ∧ (decode cL_law 1613 = .ok (.iadd, 1)) ∧ (decode cL_law 1614 = .ok (.iaload, 1)) ∧ (decode cL_law 1615 = .ok (.aload_n 3, 1)) ∧ (decode cL_law 1616 = .ok (.invokestatic 303, 3)) ∧ (decode cL_law 1619 = .ok (.istore 5, 2)) ∧ (decode cL_law 1621 = .ok (.aload_n 2, 1)) ∧ (decode cL_law 1622 = .ok (.aload_n 0, 1)) ∧ (decode cL_law 1623 = .ok (.iload 4, 2)) ∧ (decode cL_law 1625 = .ok (.iconst 1, 1)) ∧ (decode cL_law 1626 = .ok (.iadd, 1)) ∧ (decode cL_law 1627 = .ok (.iaload, 1)) ∧ (decode cL_law 1628 = .ok (.aload_n 0, 1)) ∧ (decode cL_law 1629 = .ok (.iload 4, 2)) ∧ (decode cL_law 1631 = .ok (.iconst 2, 1)) ∧ (decode cL_law 1632 = .ok (.iadd, 1)) ∧ (decode cL_law 1633 = .ok (.iaload, 1)) ∧ (decode cL_law 1634 = .ok (.invokevirtual 305, 3)) ∧ (decode cL_law 1637 = .ok (.istore 6, 2)) ∧ (decode cL_law 1639 = .ok (.goto 833, 3)) ∧ (decode cL_law 1642 = .ok (.aload_n 1, 1)) ∧ (decode cL_law 1643 = .ok (.aload_n 0, 1)) ∧ (decode cL_law 1644 = .ok (.iload 4, 2)) ∧ (decode cL_law 1646 = .ok (.iconst 1, 1)) ∧ (decode cL_law 1647 = .ok (.iadd, 1)) ∧ (decode cL_law 1648 = .ok (.iaload, 1)) := by decide +kernel
theorem dL_law_1591 : decode cL_law 1591 = .ok (.iconst 3, 1) := dgL_40.1
theorem dL_law_1592 : decode cL_law 1592 = .ok (.iadd, 1) := dgL_40.2.1
theorem dL_law_1593 : decode cL_law 1593 = .ok (.iaload, 1) := dgL_40.2.2.1
theorem dL_law_1594 : decode cL_law 1594 = .ok (.invokevirtual 302, 3) := dgL_40.2.2.2.1
theorem dL_law_1597 : decode cL_law 1597 = .ok (.istore 6, 2) := dgL_40.2.2.2.2.1
theorem dL_law_1599 : decode cL_law 1599 = .ok (.goto 873, 3) := dgL_40.2.2.2.2.2.1
theorem dL_law_1602 : decode cL_law 1602 = .ok (.aload_n 1, 1) := dgL_40.2.2.2.2.2.2.1
theorem dL_law_1603 : decode cL_law 1603 = .ok (.aload_n 0, 1) := dgL_40.2.2.2.2.2.2.2.1
theorem dL_law_1604 : decode cL_law 1604 = .ok (.iload 4, 2) := dgL_40.2.2.2.2.2.2.2.2.1
theorem dL_law_1606 : decode cL_law 1606 = .ok (.iconst 1, 1) := dgL_40.2.2.2.2.2.2.2.2.2.1
theorem dL_law_1607 : decode cL_law 1607 = .ok (.iadd, 1) := dgL_40.2.2.2.2.2.2.2.2.2.2.1
theorem dL_law_1608 : decode cL_law 1608 = .ok (.iaload, 1) := dgL_40.2.2.2.2.2.2.2.2.2.2.2.1
theorem dL_law_1609 : decode cL_law 1609 = .ok (.aload_n 0, 1) := dgL_40.2.2.2.2.2.2.2.2.2.2.2.2.1
theorem dL_law_1610 : decode cL_law 1610 = .ok (.iload 4, 2) := dgL_40.2.2.2.2.2.2.2.2.2.2.2.2.2.1
theorem dL_law_1612 : decode cL_law 1612 = .ok (.iconst 2, 1) := dgL_40.2.2.2.2.2.2.2.2.2.2.2.2.2.2.1
theorem dL_law_1613 : decode cL_law 1613 = .ok (.iadd, 1) := dgL_40.2.2.2.2.2.2.2.2.2.2.2.2.2.2.2.1
theorem dL_law_1614 : decode cL_law 1614 = .ok (.iaload, 1) := dgL_40.2.2.2.2.2.2.2.2.2.2.2.2.2.2.2.2.1
theorem dL_law_1615 : decode cL_law 1615 = .ok (.aload_n 3, 1) := dgL_40.2.2.2.2.2.2.2.2.2.2.2.2.2.2.2.2.2.1
theorem dL_law_1616 : decode cL_law 1616 = .ok (.invokestatic 303, 3) := dgL_40.2.2.2.2.2.2.2.2.2.2.2.2.2.2.2.2.2.2.1
theorem dL_law_1619 : decode cL_law 1619 = .ok (.istore 5, 2) := dgL_40.2.2.2.2.2.2.2.2.2.2.2.2.2.2.2.2.2.2.2.1
theorem dL_law_1621 : decode cL_law 1621 = .ok (.aload_n 2, 1) := dgL_40.2.2.2.2.2.2.2.2.2.2.2.2.2.2.2.2.2.2.2.2.1
theorem dL_law_1622 : decode cL_law 1622 = .ok (.aload_n 0, 1) := dgL_40.2.2.2.2.2.2.2.2.2.2.2.2.2.2.2.2.2.2.2.2.2.1
theorem dL_law_1623 : decode cL_law 1623 = .ok (.iload 4, 2) := dgL_40.2.2.2.2.2.2.2.2.2.2.2.2.2.2.2.2.2.2.2.2.2.2.1
theorem dL_law_1625 : decode cL_law 1625 = .ok (.iconst 1, 1) := dgL_40.2.2.2.2.2.2.2.2.2.2.2.2.2.2.2.2.2.2.2.2.2.2.2.1
theorem dL_law_1626 : decode cL_law 1626 = .ok (.iadd, 1) := dgL_40.2.2.2.2.2.2.2.2.2.2.2.2.2.2.2.2.2.2.2.2.2.2.2.2.1
theorem dL_law_1627 : decode cL_law 1627 = .ok (.iaload, 1) := dgL_40.2.2.2.2.2.2.2.2.2.2.2.2.2.2.2.2.2.2.2.2.2.2.2.2.2.1
theorem dL_law_1628 : decode cL_law 1628 = .ok (.aload_n 0, 1) := dgL_40.2.2.2.2.2.2.2.2.2.2.2.2.2.2.2.2.2.2.2.2.2.2.2.2.2.2.1
theorem dL_law_1629 : decode cL_law 1629 = .ok (.iload 4, 2) := dgL_40.2.2.2.2.2.2.2.2.2.2.2.2.2.2.2.2.2.2.2.2.2.2.2.2.2.2.2.1
theorem dL_law_1631 : decode cL_law 1631 = .ok (.iconst 2, 1) := dgL_40.2.2.2.2.2.2.2.2.2.2.2.2.2.2.2.2.2.2.2.2.2.2.2.2.2.2.2.2.1
theorem dL_law_1632 : decode cL_law 1632 = .ok (.iadd, 1) := dgL_40.2.2.2.2.2.2.2.2.2.2.2.2.2.2.2.2.2.2.2.2.2.2.2.2.2.2.2.2.2.1
theorem dL_law_1633 : decode cL_law 1633 = .ok (.iaload, 1) := dgL_40.2.2.2.2.2.2.2.2.2.2.2.2.2.2.2.2.2.2.2.2.2.2.2.2.2.2.2.2.2.2.1
theorem dL_law_1634 : decode cL_law 1634 = .ok (.invokevirtual 305, 3) := dgL_40.2.2.2.2.2.2.2.2.2.2.2.2.2.2.2.2.2.2.2.2.2.2.2.2.2.2.2.2.2.2.2.1
theorem dL_law_1637 : decode cL_law 1637 = .ok (.istore 6, 2) := dgL_40.2.2.2.2.2.2.2.2.2.2.2.2.2.2.2.2.2.2.2.2.2.2.2.2.2.2.2.2.2.2.2.2.1
theorem dL_law_1639 : decode cL_law 1639 = .ok (.goto 833, 3) := dgL_40.2.2.2.2.2.2.2.2.2.2.2.2.2.2.2.2.2.2.2.2.2.2.2.2.2.2.2.2.2.2.2.2.2.1
theorem dL_law_1642 : decode cL_law 1642 = .ok (.aload_n 1, 1) := dgL_40.2.2.2.2.2.2.2.2.2.2.2.2.2.2.2.2.2.2.2.2.2.2.2.2.2.2.2.2.2.2.2.2.2.2.1
theorem dL_law_1643 : decode cL_law 1643 = .ok (.aload_n 0, 1) := dgL_40.2.2.2.2.2.2.2.2.2.2.2.2.2.2.2.2.2.2.2.2.2.2.2.2.2.2.2.2.2.2.2.2.2.2.2.1
theorem dL_law_1644 : decode cL_law 1644 = .ok (.iload 4, 2) := dgL_40.2.2.2.2.2.2.2.2.2.2.2.2.2.2.2.2.2.2.2.2.2.2.2.2.2.2.2.2.2.2.2.2.2.2.2.2.1
theorem dL_law_1646 : decode cL_law 1646 = .ok (.iconst 1, 1) := dgL_40.2.2.2.2.2.2.2.2.2.2.2.2.2.2.2.2.2.2.2.2.2.2.2.2.2.2.2.2.2.2.2.2.2.2.2.2.2.1
theorem dL_law_1647 : decode cL_law 1647 = .ok (.iadd, 1) := dgL_40.2.2.2.2.2.2.2.2.2.2.2.2.2.2.2.2.2.2.2.2.2.2.2.2.2.2.2.2.2.2.2.2.2.2.2.2.2.2.1
theorem dL_law_1648 : decode cL_law 1648 = .ok (.iaload, 1) := dgL_40.2.2.2.2.2.2.2.2.2.2.2.2.2.2.2.2.2.2.2.2.2.2.2.2.2.2.2.2.2.2.2.2.2.2.2.2.2.2.2
theorem dgL_41 : (decode cL_law 1649 = .ok (.aload_n 3, 1)) ∧ (decode cL_law 1650 = .ok (.invokestatic 306, 3)) ∧ (decode cL_law 1653 = .ok (.istore 5, 2)) ∧ (decode cL_law 1655 = .ok (.aload_n 2, 1)) ∧ (decode cL_law 1656 = .ok (.aload_n 0, 1)) ∧ (decode cL_law 1657 = .ok (.iload 4, 2)) ∧ (decode cL_law 1659 = .ok (.iconst 1, 1)) ∧ (decode cL_law 1660 = .ok (.iadd, 1)) ∧ (decode cL_law 1661 = .ok (.iaload, 1)) ∧ (decode cL_law 1662 = .ok (.invokevirtual 308, 3)) ∧ (decode cL_law 1665 = .ok (.astore 6, 2)) ∧ (decode cL_law 1667 = .ok (.goto 805, 3)) ∧ (decode cL_law 1670 = .ok (.aload_n 1, 1)) ∧ (decode cL_law 1671 = .ok (.aload_n 0, 1)) ∧ (decode cL_law 1672 = .ok (.iload 4, 2)) ∧ (decode cL_law 1674 = .ok (.iconst 1, 1)) ∧ (decode cL_law 1675 = .ok (.iadd, 1)) ∧ (decode cL_law 1676 = .ok (.iaload, 1)) ∧ (decode cL_law 1677 = .ok (.aload_n 3, 1)) ∧ (decode cL_law 1678 = .ok (.invokestatic 309, 3)) ∧ (decode cL_law 1681 = .ok (.istore 5, 2)) ∧ (decode cL_law 1683 = .ok (.aload_n 2, 1)) ∧ (decode cL_law 1684 = .ok (.aload_n 0, 1)) ∧ (decode cL_law 1685 = .ok (.iload 4, 2)) ∧ (decode cL_law 1687 = .ok (.iconst 1, 1)) ∧ (decode cL_law 1688 = .ok (.iadd, 1)) ∧ (decode cL_law 1689 = .ok (.iaload, 1)) ∧ (decode cL_law 1690 = .ok (.invokevirtual 311, 3)) ∧ (decode cL_law 1693 = .ok (.astore 6, 2)) ∧ (decode cL_law 1695 = .ok (.goto 777, 3)) ∧ (decode cL_law 1698 = .ok (.aload_n 1, 1)) ∧ (decode cL_law 1699 = .ok (.aload_n 0, 1)) ∧ (decode cL_law 1700 = .ok (.iload 4, 2)) ∧ (decode cL_law 1702 = .ok (.iconst 1, 1)) ∧ (decode cL_law 1703 = .ok (.iadd, 1)) ∧ (decode cL_law 1704 = .ok (.iaload, 1)) ∧ (decode cL_law 1705 = .ok (.aload_n 0, 1)) ∧ (decode cL_law 1706 = .ok (.iload 4, 2)) ∧ (decode cL_law 1708 = .ok (.iconst 2, 1)) ∧ (decode cL_law 1709 = .ok (.iadd, 1)) := by decide +kernel
theorem dL_law_1649 : decode cL_law 1649 = .ok (.aload_n 3, 1) := dgL_41.1
theorem dL_law_1650 : decode cL_law 1650 = .ok (.invokestatic 306, 3) := dgL_41.2.1
theorem dL_law_1653 : decode cL_law 1653 = .ok (.istore 5, 2) := dgL_41.2.2.1
theorem dL_law_1655 : decode cL_law 1655 = .ok (.aload_n 2, 1) := dgL_41.2.2.2.1
theorem dL_law_1656 : decode cL_law 1656 = .ok (.aload_n 0, 1) := dgL_41.2.2.2.2.1
theorem dL_law_1657 : decode cL_law 1657 = .ok (.iload 4, 2) := dgL_41.2.2.2.2.2.1
theorem dL_law_1659 : decode cL_law 1659 = .ok (.iconst 1, 1) := dgL_41.2.2.2.2.2.2.1
theorem dL_law_1660 : decode cL_law 1660 = .ok (.iadd, 1) := dgL_41.2.2.2.2.2.2.2.1
theorem dL_law_1661 : decode cL_law 1661 = .ok (.iaload, 1) := dgL_41.2.2.2.2.2.2.2.2.1
theorem dL_law_1662 : decode cL_law 1662 = .ok (.invokevirtual 308, 3) := dgL_41.2.2.2.2.2.2.2.2.2.1
theorem dL_law_1665 : decode cL_law 1665 = .ok (.astore 6, 2) := dgL_41.2.2.2.2.2.2.2.2.2.2.1
theorem dL_law_1667 : decode cL_law 1667 = .ok (.goto 805, 3) := dgL_41.2.2.2.2.2.2.2.2.2.2.2.1
theorem dL_law_1670 : decode cL_law 1670 = .ok (.aload_n 1, 1) := dgL_41.2.2.2.2.2.2.2.2.2.2.2.2.1
theorem dL_law_1671 : decode cL_law 1671 = .ok (.aload_n 0, 1) := dgL_41.2.2.2.2.2.2.2.2.2.2.2.2.2.1
theorem dL_law_1672 : decode cL_law 1672 = .ok (.iload 4, 2) := dgL_41.2.2.2.2.2.2.2.2.2.2.2.2.2.2.1
theorem dL_law_1674 : decode cL_law 1674 = .ok (.iconst 1, 1) := dgL_41.2.2.2.2.2.2.2.2.2.2.2.2.2.2.2.1
theorem dL_law_1675 : decode cL_law 1675 = .ok (.iadd, 1) := dgL_41.2.2.2.2.2.2.2.2.2.2.2.2.2.2.2.2.1
theorem dL_law_1676 : decode cL_law 1676 = .ok (.iaload, 1) := dgL_41.2.2.2.2.2.2.2.2.2.2.2.2.2.2.2.2.2.1
theorem dL_law_1677 : decode cL_law 1677 = .ok (.aload_n 3, 1) := dgL_41.2.2.2.2.2.2.2.2.2.2.2.2.2.2.2.2.2.2.1
theorem dL_law_1678 : decode cL_law 1678 = .ok (.invokestatic 309, 3) := dgL_41.2.2.2.2.2.2.2.2.2.2.2.2.2.2.2.2.2.2.2.1
theorem dL_law_1681 : decode cL_law 1681 = .ok (.istore 5, 2) := dgL_41.2.2.2.2.2.2.2.2.2.2.2.2.2.2.2.2.2.2.2.2.1
theorem dL_law_1683 : decode cL_law 1683 = .ok (.aload_n 2, 1) := dgL_41.2.2.2.2.2.2.2.2.2.2.2.2.2.2.2.2.2.2.2.2.2.1
theorem dL_law_1684 : decode cL_law 1684 = .ok (.aload_n 0, 1) := dgL_41.2.2.2.2.2.2.2.2.2.2.2.2.2.2.2.2.2.2.2.2.2.2.1
theorem dL_law_1685 : decode cL_law 1685 = .ok (.iload 4, 2) := dgL_41.2.2.2.2.2.2.2.2.2.2.2.2.2.2.2.2.2.2.2.2.2.2.2.1
theorem dL_law_1687 : decode cL_law 1687 = .ok (.iconst 1, 1) := dgL_41.2.2.2.2.2.2.2.2.2.2.2.2.2.2.2.2.2.2.2.2.2.2.2.2.1
theorem dL_law_1688 : decode cL_law 1688 = .ok (.iadd, 1) := dgL_41.2.2.2.2.2.2.2.2.2.2.2.2.2.2.2.2.2.2.2.2.2.2.2.2.2.1
theorem dL_law_1689 : decode cL_law 1689 = .ok (.iaload, 1) := dgL_41.2.2.2.2.2.2.2.2.2.2.2.2.2.2.2.2.2.2.2.2.2.2.2.2.2.2.1
theorem dL_law_1690 : decode cL_law 1690 = .ok (.invokevirtual 311, 3) := dgL_41.2.2.2.2.2.2.2.2.2.2.2.2.2.2.2.2.2.2.2.2.2.2.2.2.2.2.2.1
theorem dL_law_1693 : decode cL_law 1693 = .ok (.astore 6, 2) := dgL_41.2.2.2.2.2.2.2.2.2.2.2.2.2.2.2.2.2.2.2.2.2.2.2.2.2.2.2.2.1
theorem dL_law_1695 : decode cL_law 1695 = .ok (.goto 777, 3) := dgL_41.2.2.2.2.2.2.2.2.2.2.2.2.2.2.2.2.2.2.2.2.2.2.2.2.2.2.2.2.2.1
theorem dL_law_1698 : decode cL_law 1698 = .ok (.aload_n 1, 1) := dgL_41.2.2.2.2.2.2.2.2.2.2.2.2.2.2.2.2.2.2.2.2.2.2.2.2.2.2.2.2.2.2.1
theorem dL_law_1699 : decode cL_law 1699 = .ok (.aload_n 0, 1) := dgL_41.2.2.2.2.2.2.2.2.2.2.2.2.2.2.2.2.2.2.2.2.2.2.2.2.2.2.2.2.2.2.2.1
theorem dL_law_1700 : decode cL_law 1700 = .ok (.iload 4, 2) := dgL_41.2.2.2.2.2.2.2.2.2.2.2.2.2.2.2.2.2.2.2.2.2.2.2.2.2.2.2.2.2.2.2.2.1
theorem dL_law_1702 : decode cL_law 1702 = .ok (.iconst 1, 1) := dgL_41.2.2.2.2.2.2.2.2.2.2.2.2.2.2.2.2.2.2.2.2.2.2.2.2.2.2.2.2.2.2.2.2.2.1
theorem dL_law_1703 : decode cL_law 1703 = .ok (.iadd, 1) := dgL_41.2.2.2.2.2.2.2.2.2.2.2.2.2.2.2.2.2.2.2.2.2.2.2.2.2.2.2.2.2.2.2.2.2.2.1
theorem dL_law_1704 : decode cL_law 1704 = .ok (.iaload, 1) := dgL_41.2.2.2.2.2.2.2.2.2.2.2.2.2.2.2.2.2.2.2.2.2.2.2.2.2.2.2.2.2.2.2.2.2.2.2.1
theorem dL_law_1705 : decode cL_law 1705 = .ok (.aload_n 0, 1) := dgL_41.2.2.2.2.2.2.2.2.2.2.2.2.2.2.2.2.2.2.2.2.2.2.2.2.2.2.2.2.2.2.2.2.2.2.2.2.1
theorem dL_law_1706 : decode cL_law 1706 = .ok (.iload 4, 2) := dgL_41.2.2.2.2.2.2.2.2.2.2.2.2.2.2.2.2.2.2.2.2.2.2.2.2.2.2.2.2.2.2.2.2.2.2.2.2.2.1
theorem dL_law_1708 : decode cL_law 1708 = .ok (.iconst 2, 1) := dgL_41.2.2.2.2.2.2.2.2.2.2.2.2.2.2.2.2.2.2.2.2.2.2.2.2.2.2.2.2.2.2.2.2.2.2.2.2.2.2.1
theorem dL_law_1709 : decode cL_law 1709 = .ok (.iadd, 1) := dgL_41.2.2.2.2.2.2.2.2.2.2.2.2.2.2.2.2.2.2.2.2.2.2.2.2.2.2.2.2.2.2.2.2.2.2.2.2.2.2.2
theorem dgL_42 : (decode cL_law 1710 = .ok (.iaload, 1)) ∧ (decode cL_law 1711 = .ok (.aload_n 3, 1)) ∧ (decode cL_law 1712 = .ok (.invokestatic 312, 3)) ∧ (decode cL_law 1715 = .ok (.istore 5, 2)) ∧ (decode cL_law 1717 = .ok (.aload_n 2, 1)) ∧ (decode cL_law 1718 = .ok (.aload_n 0, 1)) ∧ (decode cL_law 1719 = .ok (.iload 4, 2)) ∧ (decode cL_law 1721 = .ok (.iconst 1, 1)) ∧ (decode cL_law 1722 = .ok (.iadd, 1)) ∧ (decode cL_law 1723 = .ok (.iaload, 1)) ∧ (decode cL_law 1724 = .ok (.aload_n 0, 1)) ∧ (decode cL_law 1725 = .ok (.iload 4, 2)) ∧ (decode cL_law 1727 = .ok (.iconst 2, 1)) ∧ (decode cL_law 1728 = .ok (.iadd, 1)) ∧ (decode cL_law 1729 = .ok (.iaload, 1)) ∧ (decode cL_law 1730 = .ok (.invokevirtual 314, 3)) ∧ (decode cL_law 1733 = .ok (.istore 6, 2)) ∧ (decode cL_law 1735 = .ok (.goto 737, 3)) ∧ (decode cL_law 1738 = .ok (.aload_n 1, 1)) ∧ (decode cL_law 1739 = .ok (.aload_n 0, 1)) ∧ (decode cL_law 1740 = .ok (.iload 4, 2)) ∧ (decode cL_law 1742 = .ok (.iconst 1, 1)) ∧ (decode cL_law 1743 = .ok (.iadd, 1)) ∧ (decode cL_law 1744 = .ok (.iaload, 1)) ∧ (decode cL_law 1745 = .ok (.aload_n 0, 1)) ∧ (decode cL_law 1746 = .ok (.iload 4, 2)) ∧ (decode cL_law 1748 = .ok (.iconst 2, 1)) ∧ (decode cL_law 1749 = .ok (.iadd, 1)) ∧ (decode cL_law 1750 = .ok (.iaload, 1)) ∧ (decode cL_law 1751 = .ok (.aload_n 3, 1)) ∧ (decode cL_law 1752 = .ok (.invokestatic 315, 3)) ∧ (decode cL_law 1755 = .ok (.istore 5, 2)) ∧ (decode cL_law 1757 = .ok (.aload_n 2, 1)) ∧ (decode cL_law 1758 = .ok (.aload_n 0, 1)) ∧ (decode cL_law 1759 = .ok (.iload 4, 2)) ∧ (decode cL_law 1761 = .ok (.iconst 1, 1)) ∧ (decode cL_law 1762 = .ok (.iadd, 1)) ∧ (decode cL_law 1763 = .ok (.iaload, 1)) ∧ (decode cL_law 1764 = .ok (.aload_n 0, 1)) ∧ (decode cL_law 1765 = .ok (.iload 4, 2)) := by decide +kernel
theorem dL_law_1710 : decode cL_law 1710 = .ok (.iaload, 1) := dgL_42.1
theorem dL_law_1711 : decode cL_law 1711 = .ok (.aload_n 3, 1) := dgL_42.2.1
theorem dL_law_1712 : decode cL_law 1712 = .ok (.invokestatic 312, 3) := dgL_42.2.2.1
theorem dL_law_1715 : decode cL_law 1715 = .ok (.istore 5, 2) := dgL_42.2.2.2.1
theorem dL_law_1717 : decode cL_law 1717 = .ok (.aload_n 2, 1) := dgL_42.2.2.2.2.1
theorem dL_law_1718 : decode cL_law 1718 = .ok (.aload_n 0, 1) := dgL_42.2.2.2.2.2.1
theorem dL_law_1719 : decode cL_law 1719 = .ok (.iload 4, 2) := dgL_42.2.2.2.2.2.2.1
theorem dL_law_1721 : decode cL_law 1721 = .ok (.iconst 1, 1) := dgL_42.2.2.2.2.2.2.2.1
theorem dL_law_1722 : decode cL_law 1722 = .ok (.iadd, 1) := dgL_42.2.2.2.2.2.2.2.2.1
theorem dL_law_1723 : decode cL_law 1723 = .ok (.iaload, 1) := dgL_42.2.2.2.2.2.2.2.2.2.1
theorem dL_law_1724 : decode cL_law 1724 = .ok (.aload_n 0, 1) := dgL_42.2.2.2.2.2.2.2.2.2.2.1
theorem dL_law_1725 : decode cL_law 1725 = .ok (.iload 4, 2) := dgL_42.2.2.2.2.2.2.2.2.2.2.2.1
theorem dL_law_1727 : decode cL_law 1727 = .ok (.iconst 2, 1) := dgL_42.2.2.2.2.2.2.2.2.2.2.2.2.1
theorem dL_law_1728 : decode cL_law 1728 = .ok (.iadd, 1) := dgL_42.2.2.2.2.2.2.2.2.2.2.2.2.2.1
theorem dL_law_1729 : decode cL_law 1729 = .ok (.iaload, 1) := dgL_42.2.2.2.2.2.2.2.2.2.2.2.2.2.2.1
theorem dL_law_1730 : decode cL_law 1730 = .ok (.invokevirtual 314, 3) := dgL_42.2.2.2.2.2.2.2.2.2.2.2.2.2.2.2.1
theorem dL_law_1733 : decode cL_law 1733 = .ok (.istore 6, 2) := dgL_42.2.2.2.2.2.2.2.2.2.2.2.2.2.2.2.2.1
theorem dL_law_1735 : decode cL_law 1735 = .ok (.goto 737, 3) := dgL_42.2.2.2.2.2.2.2.2.2.2.2.2.2.2.2.2.2.1
theorem dL_law_1738 : decode cL_law 1738 = .ok (.aload_n 1, 1) := dgL_42.2.2.2.2.2.2.2.2.2.2.2.2.2.2.2.2.2.2.1
theorem dL_law_1739 : decode cL_law 1739 = .ok (.aload_n 0, 1) := dgL_42.2.2.2.2.2.2.2.2.2.2.2.2.2.2.2.2.2.2.2.1
theorem dL_law_1740 : decode cL_law 1740 = .ok (.iload 4, 2) := dgL_42.2.2.2.2.2.2.2.2.2.2.2.2.2.2.2.2.2.2.2.2.1
theorem dL_law_1742 : decode cL_law 1742 = .ok (.iconst 1, 1) := dgL_42.2.2.2.2.2.2.2.2.2.2.2.2.2.2.2.2.2.2.2.2.2.1
theorem dL_law_1743 : decode cL_law 1743 = .ok (.iadd, 1) := dgL_42.2.2.2.2.2.2.2.2.2.2.2.2.2.2.2.2.2.2.2.2.2.2.1
theorem dL_law_1744 : decode cL_law 1744 = .ok (.iaload, 1) := dgL_42.2.2.2.2.2.2.2.2.2.2.2.2.2.2.2.2.2.2.2.2.2.2.2.1
theorem dL_law_1745 : decode cL_law 1745 = .ok (.aload_n 0, 1) := dgL_42.2.2.2.2.2.2.2.2.2.2.2.2.2.2.2.2.2.2.2.2.2.2.2.2.1
theorem dL_law_1746 : decode cL_law 1746 = .ok (.iload 4, 2) := dgL_42.2.2.2.2.2.2.2.2.2.2.2.2.2.2.2.2.2.2.2.2.2.2.2.2.2.1
theorem dL_law_1748 : decode cL_law 1748 = .ok (.iconst 2, 1) := dgL_42.2.2.2.2.2.2.2.2.2.2.2.2.2.2.2.2.2.2.2.2.2.2.2.2.2.2.1
theorem dL_law_1749 : decode cL_law 1749 = .ok (.iadd, 1) := dgL_42.2.2.2.2.2.2.2.2.2.2.2.2.2.2.2.2.2.2.2.2.2.2.2.2.2.2.2.1
theorem dL_law_1750 : decode cL_law 1750 = .ok (.iaload, 1) := dgL_42.2.2.2.2.2.2.2.2.2.2.2.2.2.2.2.2.2.2.2.2.2.2.2.2.2.2.2.2.1
theorem dL_law_1751 : decode cL_law 1751 = .ok (.aload_n 3, 1) := dgL_42.2.2.2.2.2.2.2.2.2.2.2.2.2.2.2.2.2.2.2.2.2.2.2.2.2.2.2.2.2.1
theorem dL_law_1752 : decode cL_law 1752 = .ok (.invokestatic 315, 3) := dgL_42.2.2.2.2.2.2.2.2.2.2.2.2.2.2.2.2.2.2.2.2.2.2.2.2.2.2.2.2.2.2.1
theorem dL_law_1755 : decode cL_law 1755 = .ok (.istore 5, 2) := dgL_42.2.2.2.2.2.2.2.2.2.2.2.2.2.2.2.2.2.2.2.2.2.2.2.2.2.2.2.2.2.2.2.1
theorem dL_law_1757 : decode cL_law 1757 = .ok (.aload_n 2, 1) := dgL_42.2.2.2.2.2.2.2.2.2.2.2.2.2.2.2.2.2.2.2.2.2.2.2.2.2.2.2.2.2.2.2.2.1
theorem dL_law_1758 : decode cL_law 1758 = .ok (.aload_n 0, 1) := dgL_42.2.2.2.2.2.2.2.2.2.2.2.2.2.2.2.2.2.2.2.2.2.2.2.2.2.2.2.2.2.2.2.2.2.1
theorem dL_law_1759 : decode cL_law 1759 = .ok (.iload 4, 2) := dgL_42.2.2.2.2.2.2.2.2.2.2.2.2.2.2.2.2.2.2.2.2.2.2.2.2.2.2.2.2.2.2.2.2.2.2.1
theorem dL_law_1761 : decode cL_law 1761 = .ok (.iconst 1, 1) := dgL_42.2.2.2.2.2.2.2.2.2.2.2.2.2.2.2.2.2.2.2.2.2.2.2.2.2.2.2.2.2.2.2.2.2.2.2.1
theorem dL_law_1762 : decode cL_law 1762 = .ok (.iadd, 1) := dgL_42.2.2.2.2.2.2.2.2.2.2.2.2.2.2.2.2.2.2.2.2.2.2.2.2.2.2.2.2.2.2.2.2.2.2.2.2.1
theorem dL_law_1763 : decode cL_law 1763 = .ok (.iaload, 1) := dgL_42.2.2.2.2.2.2.2.2.2.2.2.2.2.2.2.2.2.2.2.2.2.2.2.2.2.2.2.2.2.2.2.2.2.2.2.2.2.1
theorem dL_law_1764 : decode cL_law 1764 = .ok (.aload_n 0, 1) := dgL_42.2.2.2.2.2.2.2.2.2.2.2.2.2.2.2.2.2.2.2.2.2.2.2.2.2.2.2.2.2.2.2.2.2.2.2.2.2.2.1
theorem dL_law_1765 : decode cL_law 1765 = .ok (.iload 4, 2) := dgL_42.2.2.2.2.2.2.2.2.2.2.2.2.2.2.2.2.2.2.2.2.2.2.2.2.2.2.2.2.2.2.2.2.2.2.2.2.2.2.2
theorem dgL_43 : (decode cL_law 1767 = .ok (.iconst 2, 1)) ∧ (decode cL_law 1768 = .ok (.iadd, 1)) ∧ (decode cL_law 1769 = .ok (.iaload, 1)) ∧ (decode cL_law 1770 = .ok (.invokevirtual 317, 3)) ∧ (decode cL_law 1773 = .ok (.istore 6, 2)) ∧ (decode cL_law 1775 = .ok (.goto 697, 3)) ∧ (decode cL_law 1778 = .ok (.aload_n 1, 1)) ∧ (decode cL_law 1779 = .ok (.aload_n 0, 1)) ∧ (decode cL_law 1780 = .ok (.iload 4, 2)) ∧ (decode cL_law 1782 = .ok (.iconst 1, 1)) ∧ (decode cL_law 1783 = .ok (.iadd, 1)) ∧ (decode cL_law 1784 = .ok (.iaload, 1)) ∧ (decode cL_law 1785 = .ok (.aload_n 3, 1)) ∧ (decode cL_law 1786 = .ok (.invokestatic 318, 3)) ∧ (decode cL_law 1789 = .ok (.istore 5, 2)) ∧ (decode cL_law 1791 = .ok (.aload_n 2, 1)) ∧ (decode cL_law 1792 = .ok (.aload_n 0, 1)) ∧ (decode cL_law 1793 = .ok (.iload 4, 2)) ∧ (decode cL_law 1795 = .ok (.iconst 1, 1)) ∧ (decode cL_law 1796 = .ok (.iadd, 1)) ∧ (decode cL_law 1797 = .ok (.iaload, 1)) ∧ (decode cL_law 1798 = .ok (.invokevirtual 320, 3)) ∧ (decode cL_law 1801 = .ok (.istore 6, 2)) ∧ (decode cL_law 1803 = .ok (.goto 669, 3)) ∧ (decode cL_law 1806 = .ok (.aload_n 1, 1)) ∧ (decode cL_law 1807 = .ok (.aload_n 0, 1)) ∧ (decode cL_law 1808 = .ok (.iload 4, 2)) ∧ (decode cL_law 1810 = .ok (.iconst 1, 1)) ∧ (decode cL_law 1811 = .ok (.iadd, 1)) ∧ (decode cL_law 1812 = .ok (.iaload, 1)) ∧ (decode cL_law 1813 = .ok (.aload_n 3, 1)) ∧ (decode cL_law 1814 = .ok (.invokestatic 321, 3)) ∧ (decode cL_law 1817 = .ok (.istore 5, 2)) ∧ (decode cL_law 1819 = .ok (.aload_n 2, 1)) ∧ (decode cL_law 1820 = .ok (.aload_n 0, 1)) ∧ (decode cL_law 1821 = .ok (.iload 4, 2)) ∧ (decode cL_law 1823 = .ok (.iconst 1, 1)) ∧ (decode cL_law 1824 = .ok (.iadd, 1)) ∧ (decode cL_law 1825 = .ok (.iaload, 1)) ∧ (decode cL_law 1826 = .ok (.invokevirtual 323, 3)) := by decide +kernel
theorem dL_law_1767 : decode cL_law 1767 = .ok (.iconst 2, 1) := dgL_43.1
theorem dL_law_1768 : decode cL_law 1768 = .ok (.iadd, 1) := dgL_43.2.1
theorem dL_law_1769 : decode cL_law 1769 = .ok (.iaload, 1) := dgL_43.2.2.1
theorem dL_law_1770 : decode cL_law 1770 = .ok (.invokevirtual 317, 3) := dgL_43.2.2.2.1
theorem dL_law_1773 : decode cL_law 1773 = .ok (.istore 6, 2) := dgL_43.2.2.2.2.1
theorem dL_law_1775 : decode cL_law 1775 = .ok (.goto 697, 3) := dgL_43.2.2.2.2.2.1
theorem dL_law_1778 : decode cL_law 1778 = .ok (.aload_n 1, 1) := dgL_43.2.2.2.2.2.2.1
theorem dL_law_1779 : decode cL_law 1779 = .ok (.aload_n 0, 1) := dgL_43.2.2.2.2.2.2.2.1
theorem dL_law_1780 : decode cL_law 1780 = .ok (.iload 4, 2) := dgL_43.2.2.2.2.2.2.2.2.1
theorem dL_law_1782 : decode cL_law 1782 = .ok (.iconst 1, 1) := dgL_43.2.2.2.2.2.2.2.2.2.1
theorem dL_law_1783 : decode cL_law 1783 = .ok (.iadd, 1) := dgL_43.2.2.2.2.2.2.2.2.2.2.1
theorem dL_law_1784 : decode cL_law 1784 = .ok (.iaload, 1) := dgL_43.2.2.2.2.2.2.2.2.2.2.2.1
theorem dL_law_1785 : decode cL_law 1785 = .ok (.aload_n 3, 1) := dgL_43.2.2.2.2.2.2.2.2.2.2.2.2.1
theorem dL_law_1786 : decode cL_law 1786 = .ok (.invokestatic 318, 3) := dgL_43.2.2.2.2.2.2.2.2.2.2.2.2.2.1
theorem dL_law_1789 : decode cL_law 1789 = .ok (.istore 5, 2) := dgL_43.2.2.2.2.2.2.2.2.2.2.2.2.2.2.1
theorem dL_law_1791 : decode cL_law 1791 = .ok (.aload_n 2, 1) := dgL_43.2.2.2.2.2.2.2.2.2.2.2.2.2.2.2.1
theorem dL_law_1792 : decode cL_law 1792 = .ok (.aload_n 0, 1) := dgL_43.2.2.2.2.2.2.2.2.2.2.2.2.2.2.2.2.1
theorem dL_law_1793 : decode cL_law 1793 = .ok (.iload 4, 2) := dgL_43.2.2.2.2.2.2.2.2.2.2.2.2.2.2.2.2.2.1
theorem dL_law_1795 : decode cL_law 1795 = .ok (.iconst 1, 1) := dgL_43.2.2.2.2.2.2.2.2.2.2.2.2.2.2.2.2.2.2.1
theorem dL_law_1796 : decode cL_law 1796 = .ok (.iadd, 1) := dgL_43.2.2.2.2.2.2.2.2.2.2.2.2.2.2.2.2.2.2.2.1
theorem dL_law_1797 : decode cL_law 1797 = .ok (.iaload, 1) := dgL_43.2.2.2.2.2.2.2.2.2.2.2.2.2.2.2.2.2.2.2.2.1
theorem dL_law_1798 : decode cL_law 1798 = .ok (.invokevirtual 320, 3) := dgL_43.2.2.2.2.2.2.2.2.2.2.2.2.2.2.2.2.2.2.2.2.2.1
theorem dL_law_1801 : decode cL_law 1801 = .ok (.istore 6, 2) := dgL_43.2.2.2.2.2.2.2.2.2.2.2.2.2.2.2.2.2.2.2.2.2.2.1
theorem dL_law_1803 : decode cL_law 1803 = .ok (.goto 669, 3) := dgL_43.2.2.2.2.2.2.2.2.2.2.2.2.2.2.2.2.2.2.2.2.2.2.2.1
theorem dL_law_1806 : decode cL_law 1806 = .ok (.aload_n 1, 1) := dgL_43.2.2.2.2.2.2.2.2.2.2.2.2.2.2.2.2.2.2.2.2.2.2.2.2.1
theorem dL_law_1807 : decode cL_law 1807 = .ok (.aload_n 0, 1) := dgL_43.2.2.2.2.2.2.2.2.2.2.2.2.2.2.2.2.2.2.2.2.2.2.2.2.2.1
theorem dL_law_1808 : decode cL_law 1808 = .ok (.iload 4, 2) := dgL_43.2.2.2.2.2.2.2.2.2.2.2.2.2.2.2.2.2.2.2.2.2.2.2.2.2.2.1
theorem dL_law_1810 : decode cL_law 1810 = .ok (.iconst 1, 1) := dgL_43.2.2.2.2.2.2.2.2.2.2.2.2.2.2.2.2.2.2.2.2.2.2.2.2.2.2.2.1
theorem dL_law_1811 : decode cL_law 1811 = .ok (.iadd, 1) := dgL_43.2.2.2.2.2.2.2.2.2.2.2.2.2.2.2.2.2.2.2.2.2.2.2.2.2.2.2.2.1
theorem dL_law_1812 : decode cL_law 1812 = .ok (.iaload, 1) := dgL_43.2.2.2.2.2.2.2.2.2.2.2.2.2.2.2.2.2.2.2.2.2.2.2.2.2.2.2.2.2.1
theorem dL_law_1813 : decode cL_law 1813 = .ok (.aload_n 3, 1) := dgL_43.2.2.2.2.2.2.2.2.2.2.2.2.2.2.2.2.2.2.2.2.2.2.2.2.2.2.2.2.2.2.1
theorem dL_law_1814 : decode cL_law 1814 = .ok (.invokestatic 321, 3) := dgL_43.2.2.2.2.2.2.2.2.2.2.2.2.2.2.2.2.2.2.2.2.2.2.2.2.2.2.2.2.2.2.2.1
theorem dL_law_1817 : decode cL_law 1817 = .ok (.istore 5, 2) := dgL_43.2.2.2.2.2.2.2.2.2.2.2.2.2.2.2.2.2.2.2.2.2.2.2.2.2.2.2.2.2.2.2.2.1
theorem dL_law_1819 : decode cL_law 1819 = .ok (.aload_n 2, 1) := dgL_43.2.2.2.2.2.2.2.2.2.2.2.2.2.2.2.2.2.2.2.2.2.2.2.2.2.2.2.2.2.2.2.2.2.1
theorem dL_law_1820 : decode cL_law 1820 = .ok (.aload_n 0, 1) := dgL_43.2.2.2.2.2.2.2.2.2.2.2.2.2.2.2.2.2.2.2.2.2.2.2.2.2.2.2.2.2.2.2.2.2.2.1
theorem dL_law_1821 : decode cL_law 1821 = .ok (.iload 4, 2) := dgL_43.2.2.2.2.2.2.2.2.2.2.2.2.2.2.2.2.2.2.2.2.2.2.2.2.2.2.2.2.2.2.2.2.2.2.2.1
theorem dL_law_1823 : decode cL_law 1823 = .ok (.iconst 1, 1) := dgL_43.2.2.2.2.2.2.2.2.2.2.2.2.2.2.2.2.2.2.2.2.2.2.2.2.2.2.2.2.2.2.2.2.2.2.2.2.1
theorem dL_law_1824 : decode cL_law 1824 = .ok (.iadd, 1) := dgL_43.2.2.2.2.2.2.2.2.2.2.2.2.2.2.2.2.2.2.2.2.2.2.2.2.2.2.2.2.2.2.2.2.2.2.2.2.2.1
theorem dL_law_1825 : decode cL_law 1825 = .ok (.iaload, 1) := dgL_43.2.2.2.2.2.2.2.2.2.2.2.2.2.2.2.2.2.2.2.2.2.2.2.2.2.2.2.2.2.2.2.2.2.2.2.2.2.2.1
theorem dL_law_1826 : decode cL_law 1826 = .ok (.invokevirtual 323, 3) := dgL_43.2.2.2.2.2.2.2.2.2.2.2.2.2.2.2.2.2.2.2.2.2.2.2.2.2.2.2.2.2.2.2.2.2.2.2.2.2.2.2
theorem dgL_44 : (decode cL_law 1829 = .ok (.istore 6, 2)) ∧ (decode cL_law 1831 = .ok (.goto 641, 3)) ∧ (decode cL_law 1834 = .ok (.aload_n 1, 1)) ∧ (decode cL_law 1835 = .ok (.aload_n 0, 1)) ∧ (decode cL_law 1836 = .ok (.iload 4, 2)) ∧ (decode cL_law 1838 = .ok (.iconst 1, 1)) ∧ (decode cL_law 1839 = .ok (.iadd, 1)) ∧ (decode cL_law 1840 = .ok (.iaload, 1)) ∧ (decode cL_law 1841 = .ok (.aload_n 0, 1)) ∧ (decode cL_law 1842 = .ok (.iload 4, 2)) ∧ (decode cL_law 1844 = .ok (.iconst 2, 1)) ∧ (decode cL_law 1845 = .ok (.iadd, 1)) ∧ (decode cL_law 1846 = .ok (.iaload, 1)) ∧ (decode cL_law 1847 = .ok (.aload_n 0, 1)) ∧ (decode cL_law 1848 = .ok (.iload 4, 2)) ∧ (decode cL_law 1850 = .ok (.iconst 3, 1)) ∧ (decode cL_law 1851 = .ok (.iadd, 1)) ∧ (decode cL_law 1852 = .ok (.iaload, 1)) ∧ (decode cL_law 1853 = .ok (.ifCond .eq 7, 3)) ∧ (decode cL_law 1856 = .ok (.iconst 1, 1)) ∧ (decode cL_law 1857 = .ok (.goto 4, 3)) ∧ (decode cL_law 1860 = .ok (.iconst 0, 1)) ∧ (decode cL_law 1861 = .ok (.aload_n 3, 1)) ∧ (decode cL_law 1862 = .ok (.invokestatic 324, 3)) ∧ (decode cL_law 1865 = .ok (.istore 5, 2)) ∧ (decode cL_law 1867 = .ok (.aload_n 2, 1)) ∧ (decode cL_law 1868 = .ok (.aload_n 0, 1)) ∧ (decode cL_law 1869 = .ok (.iload 4, 2)) ∧ (decode cL_law 1871 = .ok (.iconst 1, 1)) ∧ (decode cL_law 1872 = .ok (.iadd, 1)) ∧ (decode cL_law 1873 = .ok (.iaload, 1)) ∧ (decode cL_law 1874 = .ok (.aload_n 0, 1)) ∧ (decode cL_law 1875 = .ok (.iload 4, 2)) ∧ (decode cL_law 1877 = .ok (.iconst 2, 1)) ∧ (decode cL_law 1878 = .ok (.iadd, 1)) ∧ (decode cL_law 1879 = .ok (.iaload, 1)) ∧ (decode cL_law 1880 = .ok (.aload_n 0, 1)) ∧ (decode cL_law 1881 = .ok (.iload 4, 2)) ∧ (decode cL_law 1883 = .ok (.iconst 3, 1)) ∧ (decode cL_law 1884 = .ok (.iadd, 1)) := by decide +kernel
theorem dL_law_1829 : decode cL_law 1829 = .ok (.istore 6, 2) := dgL_44.1
theorem dL_law_1831 : decode cL_law 1831 = .ok (.goto 641, 3) := dgL_44.2.1
theorem dL_law_1834 : decode cL_law 1834 = .ok (.aload_n 1, 1) := dgL_44.2.2.1
theorem dL_law_1835 : decode cL_law 1835 = .ok (.aload_n 0, 1) := dgL_44.2.2.2.1
theorem dL_law_1836 : decode cL_law 1836 = .ok (.iload 4, 2) := dgL_44.2.2.2.2.1
theorem dL_law_1838 : decode cL_law 1838 = .ok (.iconst 1, 1) := dgL_44.2.2.2.2.2.1
theorem dL_law_1839 : decode cL_law 1839 = .ok (.iadd, 1) := dgL_44.2.2.2.2.2.2.1
theorem dL_law_1840 : decode cL_law 1840 = .ok (.iaload, 1) := dgL_44.2.2.2.2.2.2.2.1
theorem dL_law_1841 : decode cL_law 1841 = .ok (.aload_n 0, 1) := dgL_44.2.2.2.2.2.2.2.2.1
theorem dL_law_1842 : decode cL_law 1842 = .ok (.iload 4, 2) := dgL_44.2.2.2.2.2.2.2.2.2.1
theorem dL_law_1844 : decode cL_law 1844 = .ok (.iconst 2, 1) := dgL_44.2.2.2.2.2.2.2.2.2.2.1
theorem dL_law_1845 : decode cL_law 1845 = .ok (.iadd, 1) := dgL_44.2.2.2.2.2.2.2.2.2.2.2.1
theorem dL_law_1846 : decode cL_law 1846 = .ok (.iaload, 1) := dgL_44.2.2.2.2.2.2.2.2.2.2.2.2.1
theorem dL_law_1847 : decode cL_law 1847 = .ok (.aload_n 0, 1) := dgL_44.2.2.2.2.2.2.2.2.2.2.2.2.2.1
theorem dL_law_1848 : decode cL_law 1848 = .ok (.iload 4, 2) := dgL_44.2.2.2.2.2.2.2.2.2.2.2.2.2.2.1
theorem dL_law_1850 : decode cL_law 1850 = .ok (.iconst 3, 1) := dgL_44.2.2.2.2.2.2.2.2.2.2.2.2.2.2.2.1
theorem dL_law_1851 : decode cL_law 1851 = .ok (.iadd, 1) := dgL_44.2.2.2.2.2.2.2.2.2.2.2.2.2.2.2.2.1
theorem dL_law_1852 : decode cL_law 1852 = .ok (.iaload, 1) := dgL_44.2.2.2.2.2.2.2.2.2.2.2.2.2.2.2.2.2.1
theorem dL_law_1853 : decode cL_law 1853 = .ok (.ifCond .eq 7, 3) := dgL_44.2.2.2.2.2.2.2.2.2.2.2.2.2.2.2.2.2.2.1
theorem dL_law_1856 : decode cL_law 1856 = .ok (.iconst 1, 1) := dgL_44.2.2.2.2.2.2.2.2.2.2.2.2.2.2.2.2.2.2.2.1
theorem dL_law_1857 : decode cL_law 1857 = .ok (.goto 4, 3) := dgL_44.2.2.2.2.2.2.2.2.2.2.2.2.2.2.2.2.2.2.2.2.1
theorem dL_law_1860 : decode cL_law 1860 = .ok (.iconst 0, 1) := dgL_44.2.2.2.2.2.2.2.2.2.2.2.2.2.2.2.2.2.2.2.2.2.1
theorem dL_law_1861 : decode cL_law 1861 = .ok (.aload_n 3, 1) := dgL_44.2.2.2.2.2.2.2.2.2.2.2.2.2.2.2.2.2.2.2.2.2.2.1
theorem dL_law_1862 : decode cL_law 1862 = .ok (.invokestatic 324, 3) := dgL_44.2.2.2.2.2.2.2.2.2.2.2.2.2.2.2.2.2.2.2.2.2.2.2.1
theorem dL_law_1865 : decode cL_law 1865 = .ok (.istore 5, 2) := dgL_44.2.2.2.2.2.2.2.2.2.2.2.2.2.2.2.2.2.2.2.2.2.2.2.2.1
theorem dL_law_1867 : decode cL_law 1867 = .ok (.aload_n 2, 1) := dgL_44.2.2.2.2.2.2.2.2.2.2.2.2.2.2.2.2.2.2.2.2.2.2.2.2.2.1
theorem dL_law_1868 : decode cL_law 1868 = .ok (.aload_n 0, 1) := dgL_44.2.2.2.2.2.2.2.2.2.2.2.2.2.2.2.2.2.2.2.2.2.2.2.2.2.2.1
theorem dL_law_1869 : decode cL_law 1869 = .ok (.iload 4, 2) := dgL_44.2.2.2.2.2.2.2.2.2.2.2.2.2.2.2.2.2.2.2.2.2.2.2.2.2.2.2.1
theorem dL_law_1871 : decode cL_law 1871 = .ok (.iconst 1, 1) := dgL_44.2.2.2.2.2.2.2.2.2.2.2.2.2.2.2.2.2.2.2.2.2.2.2.2.2.2.2.2.1
theorem dL_law_1872 : decode cL_law 1872 = .ok (.iadd, 1) := dgL_44.2.2.2.2.2.2.2.2.2.2.2.2.2.2.2.2.2.2.2.2.2.2.2.2.2.2.2.2.2.1
theorem dL_law_1873 : decode cL_law 1873 = .ok (.iaload, 1) := dgL_44.2.2.2.2.2.2.2.2.2.2.2.2.2.2.2.2.2.2.2.2.2.2.2.2.2.2.2.2.2.2.1
theorem dL_law_1874 : decode cL_law 1874 = .ok (.aload_n 0, 1) := dgL_44.2.2.2.2.2.2.2.2.2.2.2.2.2.2.2.2.2.2.2.2.2.2.2.2.2.2.2.2.2.2.2.1
theorem dL_law_1875 : decode cL_law 1875 = .ok (.iload 4, 2) := dgL_44.2.2.2.2.2.2.2.2.2.2.2.2.2.2.2.2.2.2.2.2.2.2.2.2.2.2.2.2.2.2.2.2.1
theorem dL_law_1877 : decode cL_law 1877 = .ok (.iconst 2, 1) := dgL_44.2.2.2.2.2.2.2.2.2.2.2.2.2.2.2.2.2.2.2.2.2.2.2.2.2.2.2.2.2.2.2.2.2.1
theorem dL_law_1878 : decode cL_law 1878 = .ok (.iadd, 1) := dgL_44.2.2.2.2.2.2.2.2.2.2.2.2.2.2.2.2.2.2.2.2.2.2.2.2.2.2.2.2.2.2.2.2.2.2.1
theorem dL_law_1879 : decode cL_law 1879 = .ok (.iaload, 1) := dgL_44.2.2.2.2.2.2.2.2.2.2.2.2.2.2.2.2.2.2.2.2.2.2.2.2.2.2.2.2.2.2.2.2.2.2.2.1
theorem dL_law_1880 : decode cL_law 1880 = .ok (.aload_n 0, 1) := dgL_44.2.2.2.2.2.2.2.2.2.2.2.2.2.2.2.2.2.2.2.2.2.2.2.2.2.2.2.2.2.2.2.2.2.2.2.2.1
theorem dL_law_1881 : decode cL_law 1881 = .ok (.iload 4, 2) := dgL_44.2.2.2.2.2.2.2.2.2.2.2.2.2.2.2.2.2.2.2.2.2.2.2.2.2.2.2.2.2.2.2.2.2.2.2.2.2.1
theorem dL_law_1883 : decode cL_law 1883 = .ok (.iconst 3, 1) := dgL_44.2.2.2.2.2.2.2.2.2.2.2.2.2.2.2.2.2.2.2.2.2.2.2.2.2.2.2.2.2.2.2.2.2.2.2.2.2.2.1
theorem dL_law_1884 : decode cL_law 1884 = .ok (.iadd, 1) := dgL_44.2.2.2.2.2.2.2.2.2.2.2.2.2.2.2.2.2.2.2.2.2.2.2.2.2.2.2.2.2.2.2.2.2.2.2.2.2.2.2
theorem dgL_45 : (decode cL_law 1885 = .ok (.iaload, 1)) ∧ (decode cL_law 1886 = .ok (.ifCond .eq 7, 3)) ∧ (decode cL_law 1889 = .ok (.iconst 1, 1)) ∧ (decode cL_law 1890 = .ok (.goto 4, 3)) ∧ (decode cL_law 1893 = .ok (.iconst 0, 1)) ∧ (decode cL_law 1894 = .ok (.invokevirtual 326, 3)) ∧ (decode cL_law 1897 = .ok (.istore 6, 2)) ∧ (decode cL_law 1899 = .ok (.goto 573, 3)) ∧ (decode cL_law 1902 = .ok (.aload_n 1, 1)) ∧ (decode cL_law 1903 = .ok (.aload_n 0, 1)) ∧ (decode cL_law 1904 = .ok (.iload 4, 2)) ∧ (decode cL_law 1906 = .ok (.iconst 1, 1)) ∧ (decode cL_law 1907 = .ok (.iadd, 1)) ∧ (decode cL_law 1908 = .ok (.iaload, 1)) ∧ (decode cL_law 1909 = .ok (.aload_n 0, 1)) ∧ (decode cL_law 1910 = .ok (.iload 4, 2)) ∧ (decode cL_law 1912 = .ok (.iconst 2, 1)) ∧ (decode cL_law 1913 = .ok (.iadd, 1)) ∧ (decode cL_law 1914 = .ok (.iaload, 1)) ∧ (decode cL_law 1915 = .ok (.aload_n 3, 1)) ∧ (decode cL_law 1916 = .ok (.invokestatic 327, 3)) ∧ (decode cL_law 1919 = .ok (.istore 5, 2)) ∧ (decode cL_law 1921 = .ok (.aload_n 2, 1)) ∧ (decode cL_law 1922 = .ok (.aload_n 0, 1)) ∧ (decode cL_law 1923 = .ok (.iload 4, 2)) ∧ (decode cL_law 1925 = .ok (.iconst 1, 1)) ∧ (decode cL_law 1926 = .ok (.iadd, 1)) ∧ (decode cL_law 1927 = .ok (.iaload, 1)) ∧ (decode cL_law 1928 = .ok (.aload_n 0, 1)) ∧ (decode cL_law 1929 = .ok (.iload 4, 2)) ∧ (decode cL_law 1931 = .ok (.iconst 2, 1)) ∧ (decode cL_law 1932 = .ok (.iadd, 1)) ∧ (decode cL_law 1933 = .ok (.iaload, 1)) ∧ (decode cL_law 1934 = .ok (.invokevirtual 329, 3)) ∧ (decode cL_law 1937 = .ok (.istore 6, 2)) ∧ (decode cL_law 1939 = .ok (.goto 533, 3)) ∧ (decode cL_law 1942 = .ok (.aload_n 1, 1)) ∧ (decode cL_law 1943 = .ok (.aload_n 0, 1)) ∧ (decode cL_law 1944 = .ok (.iload 4, 2)) ∧ (decode cL_law 1946 = .ok (.iconst 1, 1)) := by decide +kernel
theorem dL_law_1885 : decode cL_law 1885 = .ok (.iaload, 1) := dgL_45.1
theorem dL_law_1886 : decode cL_law 1886 = .ok (.ifCond .eq 7, 3) := dgL_45.2.1
theorem dL_law_1889 : decode cL_law 1889 = .ok (.iconst 1, 1) := dgL_45.2.2.1
theorem dL_law_1890 : decode cL_law 1890 = .ok (.goto 4, 3) := dgL_45.2.2.2.1
theorem dL_law_1893 : decode cL_law 1893 = .ok (.iconst 0, 1) := dgL_45.2.2.2.2.1
theorem dL_law_1894 : decode cL_law 1894 = .ok (.invokevirtual 326, 3) := dgL_45.2.2.2.2.2.1
theorem dL_law_1897 : decode cL_law 1897 = .ok (.istore 6, 2) := dgL_45.2.2.2.2.2.2.1
theorem dL_law_1899 : decode cL_law 1899 = .ok (.goto 573, 3) := dgL_45.2.2.2.2.2.2.2.1
theorem dL_law_1902 : decode cL_law 1902 = .ok (.aload_n 1, 1) := dgL_45.2.2.2.2.2.2.2.2.1
theorem dL_law_1903 : decode cL_law 1903 = .ok (.aload_n 0, 1) := dgL_45.2.2.2.2.2.2.2.2.2.1
theorem dL_law_1904 : decode cL_law 1904 = .ok (.iload 4, 2) := dgL_45.2.2.2.2.2.2.2.2.2.2.1
theorem dL_law_1906 : decode cL_law 1906 = .ok (.iconst 1, 1) := dgL_45.2.2.2.2.2.2.2.2.2.2.2.1
theorem dL_law_1907 : decode cL_law 1907 = .ok (.iadd, 1) := dgL_45.2.2.2.2.2.2.2.2.2.2.2.2.1
theorem dL_law_1908 : decode cL_law 1908 = .ok (.iaload, 1) := dgL_45.2.2.2.2.2.2.2.2.2.2.2.2.2.1
theorem dL_law_1909 : decode cL_law 1909 = .ok (.aload_n 0, 1) := dgL_45.2.2.2.2.2.2.2.2.2.2.2.2.2.2.1
theorem dL_law_1910 : decode cL_law 1910 = .ok (.iload 4, 2) := dgL_45.2.2.2.2.2.2.2.2.2.2.2.2.2.2.2.1
theorem dL_law_1912 : decode cL_law 1912 = .ok (.iconst 2, 1) := dgL_45.2.2.2.2.2.2.2.2.2.2.2.2.2.2.2.2.1
theorem dL_law_1913 : decode cL_law 1913 = .ok (.iadd, 1) := dgL_45.2.2.2.2.2.2.2.2.2.2.2.2.2.2.2.2.2.1
theorem dL_law_1914 : decode cL_law 1914 = .ok (.iaload, 1) := dgL_45.2.2.2.2.2.2.2.2.2.2.2.2.2.2.2.2.2.2.1
theorem dL_law_1915 : decode cL_law 1915 = .ok (.aload_n 3, 1) := dgL_45.2.2.2.2.2.2.2.2.2.2.2.2.2.2.2.2.2.2.2.1
theorem dL_law_1916 : decode cL_law 1916 = .ok (.invokestatic 327, 3) := dgL_45.2.2.2.2.2.2.2.2.2.2.2.2.2.2.2.2.2.2.2.2.1
theorem dL_law_1919 : decode cL_law 1919 = .ok (.istore 5, 2) := dgL_45.2.2.2.2.2.2.2.2.2.2.2.2.2.2.2.2.2.2.2.2.2.1
theorem dL_law_1921 : decode cL_law 1921 = .ok (.aload_n 2, 1) := dgL_45.2.2.2.2.2.2.2.2.2.2.2.2.2.2.2.2.2.2.2.2.2.2.1
theorem dL_law_1922 : decode cL_law 1922 = .ok (.aload_n 0, 1) := dgL_45.2.2.2.2.2.2.2.2.2.2.2.2.2.2.2.2.2.2.2.2.2.2.2.1
theorem dL_law_1923 : decode cL_law 1923 = .ok (.iload 4, 2) := dgL_45.2.2.2.2.2.2.2.2.2.2.2.2.2.2.2.2.2.2.2.2.2.2.2.2.1
theorem dL_law_1925 : decode cL_law 1925 = .ok (.iconst 1, 1) := dgL_45.2.2.2.2.2.2.2.2.2.2.2.2.2.2.2.2.2.2.2.2.2.2.2.2.2.1
theorem dL_law_1926 : decode cL_law 1926 = .ok (.iadd, 1) := dgL_45.2.2.2.2.2.2.2.2.2.2.2.2.2.2.2.2.2.2.2.2.2.2.2.2.2.2.1
theorem dL_law_1927 : decode cL_law 1927 = .ok (.iaload, 1) := dgL_45.2.2.2.2.2.2.2.2.2.2.2.2.2.2.2.2.2.2.2.2.2.2.2.2.2.2.2.1
theorem dL_law_1928 : decode cL_law 1928 = .ok (.aload_n 0, 1) := dgL_45.2.2.2.2.2.2.2.2.2.2.2.2.2.2.2.2.2.2.2.2.2.2.2.2.2.2.2.2.1
theorem dL_law_1929 : decode cL_law 1929 = .ok (.iload 4, 2) := dgL_45.2.2.2.2.2.2.2.2.2.2.2.2.2.2.2.2.2.2.2.2.2.2.2.2.2.2.2.2.2.1
theorem dL_law_1931 : decode cL_law 1931 = .ok (.iconst 2, 1) := dgL_45.2.2.2.2.2.2.2.2.2.2.2.2.2.2.2.2.2.2.2.2.2.2.2.2.2.2.2.2.2.2.1
theorem dL_law_1932 : decode cL_law 1932 = .ok (.iadd, 1) := dgL_45.2.2.2.2.2.2.2.2.2.2.2.2.2.2.2.2.2.2.2.2.2.2.2.2.2.2.2.2.2.2.2.1
theorem dL_law_1933 : decode cL_law 1933 = .ok (.iaload, 1) := dgL_45.2.2.2.2.2.2.2.2.2.2.2.2.2.2.2.2.2.2.2.2.2.2.2.2.2.2.2.2.2.2.2.2.1
theorem dL_law_1934 : decode cL_law 1934 = .ok (.invokevirtual 329, 3) := dgL_45.2.2.2.2.2.2.2.2.2.2.2.2.2.2.2.2.2.2.2.2.2.2.2.2.2.2.2.2.2.2.2.2.2.1
theorem dL_law_1937 : decode cL_law 1937 = .ok (.istore 6, 2) := dgL_45.2.2.2.2.2.2.2.2.2.2.2.2.2.2.2.2.2.2.2.2.2.2.2.2.2.2.2.2.2.2.2.2.2.2.1
theorem dL_law_1939 : decode cL_law 1939 = .ok (.goto 533, 3) := dgL_45.2.2.2.2.2.2.2.2.2.2.2.2.2.2.2.2.2.2.2.2.2.2.2.2.2.2.2.2.2.2.2.2.2.2.2.1
theorem dL_law_1942 : decode cL_law 1942 = .ok (.aload_n 1, 1) := dgL_45.2.2.2.2.2.2.2.2.2.2.2.2.2.2.2.2.2.2.2.2.2.2.2.2.2.2.2.2.2.2.2.2.2.2.2.2.1
theorem dL_law_1943 : decode cL_law 1943 = .ok (.aload_n 0, 1) := dgL_45.2.2.2.2.2.2.2.2.2.2.2.2.2.2.2.2.2.2.2.2.2.2.2.2.2.2.2.2.2.2.2.2.2.2.2.2.2.1
theorem dL_law_1944 : decode cL_law 1944 = .ok (.iload 4, 2) := dgL_45.2.2.2.2.2.2.2.2.2.2.2.2.2.2.2.2.2.2.2.2.2.2.2.2.2.2.2.2.2.2.2.2.2.2.2.2.2.2.1
theorem dL_law_1946 : decode cL_law 1946 = .ok (.iconst 1, 1) := dgL_45.2.2.2.2.2.2.2.2.2.2.2.2.2.2.2.2.2.2.2.2.2.2.2.2.2.2.2.2.2.2.2.2.2.2.2.2.2.2.2
theorem dgL_46 : (decode cL_law 1947 = .ok (.iadd, 1)) ∧ (decode cL_law 1948 = .ok (.iaload, 1)) ∧ (decode cL_law 1949 = .ok (.aload_n 0, 1)) ∧ (decode cL_law 1950 = .ok (.iload 4, 2)) ∧ (decode cL_law 1952 = .ok (.iconst 2, 1)) ∧ (decode cL_law 1953 = .ok (.iadd, 1)) ∧ (decode cL_law 1954 = .ok (.iaload, 1)) ∧ (decode cL_law 1955 = .ok (.aload_n 3, 1)) ∧ (decode cL_law 1956 = .ok (.invokestatic 330, 3)) ∧ (decode cL_law 1959 = .ok (.istore 5, 2)) ∧ (decode cL_law 1961 = .ok (.aload_n 2, 1)) ∧ (decode cL_law 1962 = .ok (.aload_n 0, 1)) ∧ (decode cL_law 1963 = .ok (.iload 4, 2)) ∧ (decode cL_law 1965 = .ok (.iconst 1, 1)) ∧ (decode cL_law 1966 = .ok (.iadd, 1)) ∧ (decode cL_law 1967 = .ok (.iaload, 1)) ∧ (decode cL_law 1968 = .ok (.aload_n 0, 1)) ∧ (decode cL_law 1969 = .ok (.iload 4, 2)) ∧ (decode cL_law 1971 = .ok (.iconst 2, 1)) ∧ (decode cL_law 1972 = .ok (.iadd, 1)) ∧ (decode cL_law 1973 = .ok (.iaload, 1)) ∧ (decode cL_law 1974 = .ok (.invokevirtual 332, 3)) ∧ (decode cL_law 1977 = .ok (.istore 6, 2)) ∧ (decode cL_law 1979 = .ok (.goto 493, 3)) ∧ (decode cL_law 1982 = .ok (.aload_n 1, 1)) ∧ (decode cL_law 1983 = .ok (.aload_n 0, 1)) ∧ (decode cL_law 1984 = .ok (.iload 4, 2)) ∧ (decode cL_law 1986 = .ok (.iconst 1, 1)) ∧ (decode cL_law 1987 = .ok (.iadd, 1)) ∧ (decode cL_law 1988 = .ok (.iaload, 1)) ∧ (decode cL_law 1989 = .ok (.invokevirtual 333, 3)) ∧ (decode cL_law 1992 = .ok (.pop, 1)) ∧ (decode cL_law 1993 = .ok (.aload_n 2, 1)) ∧ (decode cL_law 1994 = .ok (.aload_n 0, 1)) ∧ (decode cL_law 1995 = .ok (.iload 4, 2)) ∧ (decode cL_law 1997 = .ok (.iconst 1, 1)) ∧ (decode cL_law 1998 = .ok (.iadd, 1)) ∧ (decode cL_law 1999 = .ok (.iaload, 1)) ∧ (decode cL_law 2000 = .ok (.invokevirtual 336, 3)) ∧ (decode cL_law 2003 = .ok (.pop, 1)) := by decide +kernel
theorem dL_law_1947 : decode cL_law 1947 = .ok (.iadd, 1) := dgL_46.1
theorem dL_law_1948 : decode cL_law 1948 = .ok (.iaload, 1) := dgL_46.2.1
theorem dL_law_1949 : decode cL_law 1949 = .ok (.aload_n 0, 1) := dgL_46.2.2.1
theorem dL_law_1950 : decode cL_law 1950 = .ok (.iload 4, 2) := dgL_46.2.2.2.1
theorem dL_law_1952 : decode cL_law 1952 = .ok (.iconst 2, 1) := dgL_46.2.2.2.2.1
theorem dL_law_1953 : decode cL_law 1953 = .ok (.iadd, 1) := dgL_46.2.2.2.2.2.1
theorem dL_law_1954 : decode cL_law 1954 = .ok (.iaload, 1) := dgL_46.2.2.2.2.2.2.1
theorem dL_law_1955 : decode cL_law 1955 = .ok (.aload_n 3, 1) := dgL_46.2.2.2.2.2.2.2.1
theorem dL_law_1956 : decode cL_law 1956 = .ok (.invokestatic 330, 3) := dgL_46.2.2.2.2.2.2.2.2.1
theorem dL_law_1959 : decode cL_law 1959 = .ok (.istore 5, 2) := dgL_46.2.2.2.2.2.2.2.2.2.1
theorem dL_law_1961 : decode cL_law 1961 = .ok (.aload_n 2, 1) := dgL_46.2.2.2.2.2.2.2.2.2.2.1
theorem dL_law_1962 : decode cL_law 1962 = .ok (.aload_n 0, 1) := dgL_46.2.2.2.2.2.2.2.2.2.2.2.1
theorem dL_law_1963 : decode cL_law 1963 = .ok (.iload 4, 2) := dgL_46.2.2.2.2.2.2.2.2.2.2.2.2.1
theorem dL_law_1965 : decode cL_law 1965 = .ok (.iconst 1, 1) := dgL_46.2.2.2.2.2.2.2.2.2.2.2.2.2.1
theorem dL_law_1966 : decode cL_law 1966 = .ok (.iadd, 1) := dgL_46.2.2.2.2.2.2.2.2.2.2.2.2.2.2.1
theorem dL_law_1967 : decode cL_law 1967 = .ok (.iaload, 1) := dgL_46.2.2.2.2.2.2.2.2.2.2.2.2.2.2.2.1
theorem dL_law_1968 : decode cL_law 1968 = .ok (.aload_n 0, 1) := dgL_46.2.2.2.2.2.2.2.2.2.2.2.2.2.2.2.2.1
theorem dL_law_1969 : decode cL_law 1969 = .ok (.iload 4, 2) := dgL_46.2.2.2.2.2.2.2.2.2.2.2.2.2.2.2.2.2.1
theorem dL_law_1971 : decode cL_law 1971 = .ok (.iconst 2, 1) := dgL_46.2.2.2.2.2.2.2.2.2.2.2.2.2.2.2.2.2.2.1
theorem dL_law_1972 : decode cL_law 1972 = .ok (.iadd, 1) := dgL_46.2.2.2.2.2.2.2.2.2.2.2.2.2.2.2.2.2.2.2.1
theorem dL_law_1973 : decode cL_law 1973 = .ok (.iaload, 1) := dgL_46.2.2.2.2.2.2.2.2.2.2.2.2.2.2.2.2.2.2.2.2.1
theorem dL_law_1974 : decode cL_law 1974 = .ok (.invokevirtual 332, 3) := dgL_46.2.2.2.2.2.2.2.2.2.2.2.2.2.2.2.2.2.2.2.2.2.1
theorem dL_law_1977 : decode cL_law 1977 = .ok (.istore 6, 2) := dgL_46.2.2.2.2.2.2.2.2.2.2.2.2.2.2.2.2.2.2.2.2.2.2.1
theorem dL_law_1979 : decode cL_law 1979 = .ok (.goto 493, 3) := dgL_46.2.2.2.2.2.2.2.2.2.2.2.2.2.2.2.2.2.2.2.2.2.2.2.1
theorem dL_law_1982 : decode cL_law 1982 = .ok (.aload_n 1, 1) := dgL_46.2.2.2.2.2.2.2.2.2.2.2.2.2.2.2.2.2.2.2.2.2.2.2.2.1
theorem dL_law_1983 : decode cL_law 1983 = .ok (.aload_n 0, 1) := dgL_46.2.2.2.2.2.2.2.2.2.2.2.2.2.2.2.2.2.2.2.2.2.2.2.2.2.1
theorem dL_law_1984 : decode cL_law 1984 = .ok (.iload 4, 2) := dgL_46.2.2.2.2.2.2.2.2.2.2.2.2.2.2.2.2.2.2.2.2.2.2.2.2.2.2.1
theorem dL_law_1986 : decode cL_law 1986 = .ok (.iconst 1, 1) := dgL_46.2.2.2.2.2.2.2.2.2.2.2.2.2.2.2.2.2.2.2.2.2.2.2.2.2.2.2.1
theorem dL_law_1987 : decode cL_law 1987 = .ok (.iadd, 1) := dgL_46.2.2.2.2.2.2.2.2.2.2.2.2.2.2.2.2.2.2.2.2.2.2.2.2.2.2.2.2.1
theorem dL_law_1988 : decode cL_law 1988 = .ok (.iaload, 1) := dgL_46.2.2.2.2.2.2.2.2.2.2.2.2.2.2.2.2.2.2.2.2.2.2.2.2.2.2.2.2.2.1
theorem dL_law_1989 : decode cL_law 1989 = .ok (.invokevirtual 333, 3) := dgL_46.2.2.2.2.2.2.2.2.2.2.2.2.2.2.2.2.2.2.2.2.2.2.2.2.2.2.2.2.2.2.1
theorem dL_law_1992 : decode cL_law 1992 = .ok (.pop, 1) := dgL_46.2.2.2.2.2.2.2.2.2.2.2.2.2.2.2.2.2.2.2.2.2.2.2.2.2.2.2.2.2.2.2.1
theorem dL_law_1993 : decode cL_law 1993 = .ok (.aload_n 2, 1) := dgL_46.2.2.2.2.2.2.2.2.2.2.2.2.2.2.2.2.2.2.2.2.2.2.2.2.2.2.2.2.2.2.2.2.1
theorem dL_law_1994 : decode cL_law 1994 = .ok (.aload_n 0, 1) := dgL_46.2.2.2.2.2.2.2.2.2.2.2.2.2.2.2.2.2.2.2.2.2.2.2.2.2.2.2.2.2.2.2.2.2.1
theorem dL_law_1995 : decode cL_law 1995 = .ok (.iload 4, 2) := dgL_46.2.2.2.2.2.2.2.2.2.2.2.2.2.2.2.2.2.2.2.2.2.2.2.2.2.2.2.2.2.2.2.2.2.2.1
theorem dL_law_1997 : decode cL_law 1997 = .ok (.iconst 1, 1) := dgL_46.2.2.2.2.2.2.2.2.2.2.2.2.2.2.2.2.2.2.2.2.2.2.2.2.2.2.2.2.2.2.2.2.2.2.2.1
theorem dL_law_1998 : decode cL_law 1998 = .ok (.iadd, 1) := dgL_46.2.2.2.2.2.2.2.2.2.2.2.2.2.2.2.2.2.2.2.2.2.2.2.2.2.2.2.2.2.2.2.2.2.2.2.2.1
theorem dL_law_1999 : decode cL_law 1999 = .ok (.iaload, 1) := dgL_46.2.2.2.2.2.2.2.2.2.2.2.2.2.2.2.2.2.2.2.2.2.2.2.2.2.2.2.2.2.2.2.2.2.2.2.2.2.1
theorem dL_law_2000 : decode cL_law 2000 = .ok (.invokevirtual 336, 3) := dgL_46.2.2.2.2.2.2.2.2.2.2.2.2.2.2.2.2.2.2.2.2.2.2.2.2.2.2.2.2.2.2.2.2.2.2.2.2.2.2.1
theorem dL_law_2003 : decode cL_law 2003 = .ok (.pop, 1) := dgL_46.2.2.2.2.2.2.2.2.2.2.2.2.2.2.2.2.2.2.2.2.2.2.2.2.2.2.2.2.2.2.2.2.2.2.2.2.2.2.2
theorem dgL_47 : (decode cL_law 2004 = .ok (.goto 468, 3)) ∧ (decode cL_law 2007 = .ok (.aload_n 1, 1)) ∧ (decode cL_law 2008 = .ok (.aload_n 0, 1)) ∧ (decode cL_law 2009 = .ok (.iload 4, 2)) ∧ (decode cL_law 2011 = .ok (.iconst 1, 1)) ∧ (decode cL_law 2012 = .ok (.iadd, 1)) ∧ (decode cL_law 2013 = .ok (.iaload, 1)) ∧ (decode cL_law 2014 = .ok (.invokevirtual 337, 3)) ∧ (decode cL_law 2017 = .ok (.pop, 1)) ∧ (decode cL_law 2018 = .ok (.aload_n 2, 1)) ∧ (decode cL_law 2019 = .ok (.aload_n 0, 1)) ∧ (decode cL_law 2020 = .ok (.iload 4, 2)) ∧ (decode cL_law 2022 = .ok (.iconst 1, 1)) ∧ (decode cL_law 2023 = .ok (.iadd, 1)) ∧ (decode cL_law 2024 = .ok (.iaload, 1)) ∧ (decode cL_law 2025 = .ok (.invokevirtual 340, 3)) ∧ (decode cL_law 2028 = .ok (.pop, 1)) ∧ (decode cL_law 2029 = .ok (.goto 443, 3)) ∧ (decode cL_law 2032 = .ok (.aload_n 1, 1)) ∧ (decode cL_law 2033 = .ok (.aload_n 0, 1)) ∧ (decode cL_law 2034 = .ok (.iload 4, 2)) ∧ (decode cL_law 2036 = .ok (.iconst 1, 1)) ∧ (decode cL_law 2037 = .ok (.iadd, 1)) ∧ (decode cL_law 2038 = .ok (.iaload, 1)) ∧ (decode cL_law 2039 = .ok (.invokevirtual 341, 3)) ∧ (decode cL_law 2042 = .ok (.pop, 1)) ∧ (decode cL_law 2043 = .ok (.aload_n 2, 1)) ∧ (decode cL_law 2044 = .ok (.aload_n 0, 1)) ∧ (decode cL_law 2045 = .ok (.iload 4, 2)) ∧ (decode cL_law 2047 = .ok (.iconst 1, 1)) ∧ (decode cL_law 2048 = .ok (.iadd, 1)) ∧ (decode cL_law 2049 = .ok (.iaload, 1)) ∧ (decode cL_law 2050 = .ok (.invokevirtual 344, 3)) ∧ (decode cL_law 2053 = .ok (.pop, 1)) ∧ (decode cL_law 2054 = .ok (.goto 418, 3)) ∧ (decode cL_law 2057 = .ok (.aload_n 1, 1)) ∧ (decode cL_law 2058 = .ok (.aload_n 0, 1)) ∧ (decode cL_law 2059 = .ok (.iload 4, 2)) ∧ (decode cL_law 2061 = .ok (.iconst 1, 1)) ∧ (decode cL_law 2062 = .ok (.iadd, 1)) := by decide +kernel
theorem dL_law_2004 : decode cL_law 2004 = .ok (.goto 468, 3) := dgL_47.1
theorem dL_law_2007 : decode cL_law 2007 = .ok (.aload_n 1, 1) := dgL_47.2.1
theorem dL_law_2008 : decode cL_law 2008 = .ok (.aload_n 0, 1) := dgL_47.2.2.1
theorem dL_law_2009 : decode cL_law 2009 = .ok (.iload 4, 2) := dgL_47.2.2.2.1
theorem dL_law_2011 : decode cL_law 2011 = .ok (.iconst 1, 1) := dgL_47.2.2.2.2.1
theorem dL_law_2012 : decode cL_law 2012 = .ok (.iadd, 1) := dgL_47.2.2.2.2.2.1
theorem dL_law_2013 : decode cL_law 2013 = .ok (.iaload, 1) := dgL_47.2.2.2.2.2.2.1
theorem dL_law_2014 : decode cL_law 2014 = .ok (.invokevirtual 337, 3) := dgL_47.2.2.2.2.2.2.2.1
theorem dL_law_2017 : decode cL_law 2017 = .ok (.pop, 1) := dgL_47.2.2.2.2.2.2.2.2.1
theorem dL_law_2018 : decode cL_law 2018 = .ok (.aload_n 2, 1) := dgL_47.2.2.2.2.2.2.2.2.2.1
theorem dL_law_2019 : decode cL_law 2019 = .ok (.aload_n 0, 1) := dgL_47.2.2.2.2.2.2.2.2.2.2.1
theorem dL_law_2020 : decode cL_law 2020 = .ok (.iload 4, 2) := dgL_47.2.2.2.2.2.2.2.2.2.2.2.1
theorem dL_law_2022 : decode cL_law 2022 = .ok (.iconst 1, 1) := dgL_47.2.2.2.2.2.2.2.2.2.2.2.2.1
theorem dL_law_2023 : decode cL_law 2023 = .ok (.iadd, 1) := dgL_47.2.2.2.2.2.2.2.2.2.2.2.2.2.1
theorem dL_law_2024 : decode cL_law 2024 = .ok (.iaload, 1) := dgL_47.2.2.2.2.2.2.2.2.2.2.2.2.2.2.1
theorem dL_law_2025 : decode cL_law 2025 = .ok (.invokevirtual 340, 3) := dgL_47.2.2.2.2.2.2.2.2.2.2.2.2.2.2.2.1
theorem dL_law_2028 : decode cL_law 2028 = .ok (.pop, 1) := dgL_47.2.2.2.2.2.2.2.2.2.2.2.2.2.2.2.2.1
theorem dL_law_2029 : decode cL_law 2029 = .ok (.goto 443, 3) := dgL_47.2.2.2.2.2.2.2.2.2.2.2.2.2.2.2.2.2.1
theorem dL_law_2032 : decode cL_law 2032 = .ok (.aload_n 1, 1) := dgL_47.2.2.2.2.2.2.2.2.2.2.2.2.2.2.2.2.2.2.1
theorem dL_law_2033 : decode cL_law 2033 = .ok (.aload_n 0, 1) := dgL_47.2.2.2.2.2.2.2.2.2.2.2.2.2.2.2.2.2.2.2.1
theorem dL_law_2034 : decode cL_law 2034 = .ok (.iload 4, 2) := dgL_47.2.2.2.2.2.2.2.2.2.2.2.2.2.2.2.2.2.2.2.2.1
theorem dL_law_2036 : decode cL_law 2036 = .ok (.iconst 1, 1) := dgL_47.2.2.2.2.2.2.2.2.2.2.2.2.2.2.2.2.2.2.2.2.2.1
theorem dL_law_2037 : decode cL_law 2037 = .ok (.iadd, 1) := dgL_47.2.2.2.2.2.2.2.2.2.2.2.2.2.2.2.2.2.2.2.2.2.2.1
theorem dL_law_2038 : decode cL_law 2038 = .ok (.iaload, 1) := dgL_47.2.2.2.2.2.2.2.2.2.2.2.2.2.2.2.2.2.2.2.2.2.2.2.1
theorem dL_law_2039 : decode cL_law 2039 = .ok (.invokevirtual 341, 3) := dgL_47.2.2.2.2.2.2.2.2.2.2.2.2.2.2.2.2.2.2.2.2.2.2.2.2.1
theorem dL_law_2042 : decode cL_law 2042 = .ok (.pop, 1) := dgL_47.2.2.2.2.2.2.2.2.2.2.2.2.2.2.2.2.2.2.2.2.2.2.2.2.2.1
theorem dL_law_2043 : decode cL_law 2043 = .ok (.aload_n 2, 1) := dgL_47.2.2.2.2.2.2.2.2.2.2.2.2.2.2.2.2.2.2.2.2.2.2.2.2.2.2.1
theorem dL_law_2044 : decode cL_law 2044 = .ok (.aload_n 0, 1) := dgL_47.2.2.2.2.2.2.2.2.2.2.2.2.2.2.2.2.2.2.2.2.2.2.2.2.2.2.2.1
theorem dL_law_2045 : decode cL_law 2045 = .ok (.iload 4, 2) := dgL_47.2.2.2.2.2.2.2.2.2.2.2.2.2.2.2.2.2.2.2.2.2.2.2.2.2.2.2.2.1
theorem dL_law_2047 : decode cL_law 2047 = .ok (.iconst 1, 1) := dgL_47.2.2.2.2.2.2.2.2.2.2.2.2.2.2.2.2.2.2.2.2.2.2.2.2.2.2.2.2.2.1
theorem dL_law_2048 : decode cL_law 2048 = .ok (.iadd, 1) := dgL_47.2.2.2.2.2.2.2.2.2.2.2.2.2.2.2.2.2.2.2.2.2.2.2.2.2.2.2.2.2.2.1
theorem dL_law_2049 : decode cL_law 2049 = .ok (.iaload, 1) := dgL_47.2.2.2.2.2.2.2.2.2.2.2.2.2.2.2.2.2.2.2.2.2.2.2.2.2.2.2.2.2.2.2.1
theorem dL_law_2050 : decode cL_law 2050 = .ok (.invokevirtual 344, 3) := dgL_47.2.2.2.2.2.2.2.2.2.2.2.2.2.2.2.2.2.2.2.2.2.2.2.2.2.2.2.2.2.2.2.2.1
theorem dL_law_2053 : decode cL_law 2053 = .ok (.pop, 1) := dgL_47.2.2.2.2.2.2.2.2.2.2.2.2.2.2.2.2.2.2.2.2.2.2.2.2.2.2.2.2.2.2.2.2.2.1
theorem dL_law_2054 : decode cL_law 2054 = .ok (.goto 418, 3) := dgL_47.2.2.2.2.2.2.2.2.2.2.2.2.2.2.2.2.2.2.2.2.2.2.2.2.2.2.2.2.2.2.2.2.2.2.1
theorem dL_law_2057 : decode cL_law 2057 = .ok (.aload_n 1, 1) := dgL_47.2.2.2.2.2.2.2.2.2.2.2.2.2.2.2.2.2.2.2.2.2.2.2.2.2.2.2.2.2.2.2.2.2.2.2.1
theorem dL_law_2058 : decode cL_law 2058 = .ok (.aload_n 0, 1) := dgL_47.2.2.2.2.2.2.2.2.2.2.2.2.2.2.2.2.2.2.2.2.2.2.2.2.2.2.2.2.2.2.2.2.2.2.2.2.1
theorem dL_law_2059 : decode cL_law 2059 = .ok (.iload 4, 2) := dgL_47.2.2.2.2.2.2.2.2.2.2.2.2.2.2.2.2.2.2.2.2.2.2.2.2.2.2.2.2.2.2.2.2.2.2.2.2.2.1
theorem dL_law_2061 : decode cL_law 2061 = .ok (.iconst 1, 1) := dgL_47.2.2.2.2.2.2.2.2.2.2.2.2.2.2.2.2.2.2.2.2.2.2.2.2.2.2.2.2.2.2.2.2.2.2.2.2.2.2.1
theorem dL_law_2062 : decode cL_law 2062 = .ok (.iadd, 1) := dgL_47.2.2.2.2.2.2.2.2.2.2.2.2.2.2.2.2.2.2.2.2.2.2.2.2.2.2.2.2.2.2.2.2.2.2.2.2.2.2.2
theorem dgL_48 : (decode cL_law 2063 = .ok (.iaload, 1)) ∧ (decode cL_law 2064 = .ok (.invokevirtual 345, 3)) ∧ (decode cL_law 2067 = .ok (.pop, 1)) ∧ (decode cL_law 2068 = .ok (.aload_n 2, 1)) ∧ (decode cL_law 2069 = .ok (.aload_n 0, 1)) ∧ (decode cL_law 2070 = .ok (.iload 4, 2)) ∧ (decode cL_law 2072 = .ok (.iconst 1, 1)) ∧ (decode cL_law 2073 = .ok (.iadd, 1)) ∧ (decode cL_law 2074 = .ok (.iaload, 1)) ∧ (decode cL_law 2075 = .ok (.invokevirtual 348, 3)) ∧ (decode cL_law 2078 = .ok (.pop, 1)) ∧ (decode cL_law 2079 = .ok (.goto 393, 3)) ∧ (decode cL_law 2082 = .ok (.aload_n 1, 1)) ∧ (decode cL_law 2083 = .ok (.aload_n 0, 1)) ∧ (decode cL_law 2084 = .ok (.iload 4, 2)) ∧ (decode cL_law 2086 = .ok (.iconst 1, 1)) ∧ (decode cL_law 2087 = .ok (.iadd, 1)) ∧ (decode cL_law 2088 = .ok (.iaload, 1)) ∧ (decode cL_law 2089 = .ok (.aload_n 0, 1)) ∧ (decode cL_law 2090 = .ok (.iload 4, 2)) ∧ (decode cL_law 2092 = .ok (.iconst 2, 1)) ∧ (decode cL_law 2093 = .ok (.iadd, 1)) ∧ (decode cL_law 2094 = .ok (.iaload, 1)) ∧ (decode cL_law 2095 = .ok (.ifCond .eq 7, 3)) ∧ (decode cL_law 2098 = .ok (.iconst 1, 1)) ∧ (decode cL_law 2099 = .ok (.goto 4, 3)) ∧ (decode cL_law 2102 = .ok (.iconst 0, 1)) ∧ (decode cL_law 2103 = .ok (.aload_n 3, 1)) ∧ (decode cL_law 2104 = .ok (.invokestatic 349, 3)) ∧ (decode cL_law 2107 = .ok (.istore 5, 2)) ∧ (decode cL_law 2109 = .ok (.aload_n 2, 1)) ∧ (decode cL_law 2110 = .ok (.aload_n 0, 1)) ∧ (decode cL_law 2111 = .ok (.iload 4, 2)) ∧ (decode cL_law 2113 = .ok (.iconst 1, 1)) ∧ (decode cL_law 2114 = .ok (.iadd, 1)) ∧ (decode cL_law 2115 = .ok (.iaload, 1)) ∧ (decode cL_law 2116 = .ok (.aload_n 0, 1)) ∧ (decode cL_law 2117 = .ok (.iload 4, 2)) ∧ (decode cL_law 2119 = .ok (.iconst 2, 1)) ∧ (decode cL_law 2120 = .ok (.iadd, 1)) := by decide +kernel
theorem dL_law_2063 : decode cL_law 2063 = .ok (.iaload, 1) := dgL_48.1
theorem dL_law_2064 : decode cL_law 2064 = .ok (.invokevirtual 345, 3) := dgL_48.2.1
theorem dL_law_2067 : decode cL_law 2067 = .ok (.pop, 1) := dgL_48.2.2.1
theorem dL_law_2068 : decode cL_law 2068 = .ok (.aload_n 2, 1) := dgL_48.2.2.2.1
theorem dL_law_2069 : decode cL_law 2069 = .ok (.aload_n 0, 1) := dgL_48.2.2.2.2.1
theorem dL_law_2070 : decode cL_law 2070 = .ok (.iload 4, 2) := dgL_48.2.2.2.2.2.1
theorem dL_law_2072 : decode cL_law 2072 = .ok (.iconst 1, 1) := dgL_48.2.2.2.2.2.2.1
theorem dL_law_2073 : decode cL_law 2073 = .ok (.iadd, 1) := dgL_48.2.2.2.2.2.2.2.1
theorem dL_law_2074 : decode cL_law 2074 = .ok (.iaload, 1) := dgL_48.2.2.2.2.2.2.2.2.1
theorem dL_law_2075 : decode cL_law 2075 = .ok (.invokevirtual 348, 3) := dgL_48.2.2.2.2.2.2.2.2.2.1
theorem dL_law_2078 : decode cL_law 2078 = .ok (.pop, 1) := dgL_48.2.2.2.2.2.2.2.2.2.2.1
theorem dL_law_2079 : decode cL_law 2079 = .ok (.goto 393, 3) := dgL_48.2.2.2.2.2.2.2.2.2.2.2.1
theorem dL_law_2082 : decode cL_law 2082 = .ok (.aload_n 1, 1) := dgL_48.2.2.2.2.2.2.2.2.2.2.2.2.1
theorem dL_law_2083 : decode cL_law 2083 = .ok (.aload_n 0, 1) := dgL_48.2.2.2.2.2.2.2.2.2.2.2.2.2.1
theorem dL_law_2084 : decode cL_law 2084 = .ok (.iload 4, 2) := dgL_48.2.2.2.2.2.2.2.2.2.2.2.2.2.2.1
theorem dL_law_2086 : decode cL_law 2086 = .ok (.iconst 1, 1) := dgL_48.2.2.2.2.2.2.2.2.2.2.2.2.2.2.2.1
theorem dL_law_2087 : decode cL_law 2087 = .ok (.iadd, 1) := dgL_48.2.2.2.2.2.2.2.2.2.2.2.2.2.2.2.2.1
theorem dL_law_2088 : decode cL_law 2088 = .ok (.iaload, 1) := dgL_48.2.2.2.2.2.2.2.2.2.2.2.2.2.2.2.2.2.1
theorem dL_law_2089 : decode cL_law 2089 = .ok (.aload_n 0, 1) := dgL_48.2.2.2.2.2.2.2.2.2.2.2.2.2.2.2.2.2.2.1
theorem dL_law_2090 : decode cL_law 2090 = .ok (.iload 4, 2) := dgL_48.2.2.2.2.2.2.2.2.2.2.2.2.2.2.2.2.2.2.2.1
theorem dL_law_2092 : decode cL_law 2092 = .ok (.iconst 2, 1) := dgL_48.2.2.2.2.2.2.2.2.2.2.2.2.2.2.2.2.2.2.2.2.1
theorem dL_law_2093 : decode cL_law 2093 = .ok (.iadd, 1) := dgL_48.2.2.2.2.2.2.2.2.2.2.2.2.2.2.2.2.2.2.2.2.2.1
theorem dL_law_2094 : decode cL_law 2094 = .ok (.iaload, 1) := dgL_48.2.2.2.2.2.2.2.2.2.2.2.2.2.2.2.2.2.2.2.2.2.2.1
theorem dL_law_2095 : decode cL_law 2095 = .ok (.ifCond .eq 7, 3) := dgL_48.2.2.2.2.2.2.2.2.2.2.2.2.2.2.2.2.2.2.2.2.2.2.2.1
theorem dL_law_2098 : decode cL_law 2098 = .ok (.iconst 1, 1) := dgL_48.2.2.2.2.2.2.2.2.2.2.2.2.2.2.2.2.2.2.2.2.2.2.2.2.1
theorem dL_law_2099 : decode cL_law 2099 = .ok (.goto 4, 3) := dgL_48.2.2.2.2.2.2.2.2.2.2.2.2.2.2.2.2.2.2.2.2.2.2.2.2.2.1
theorem dL_law_2102 : decode cL_law 2102 = .ok (.iconst 0, 1) := dgL_48.2.2.2.2.2.2.2.2.2.2.2.2.2.2.2.2.2.2.2.2.2.2.2.2.2.2.1
theorem dL_law_2103 : decode cL_law 2103 = .ok (.aload_n 3, 1) := dgL_48.2.2.2.2.2.2.2.2.2.2.2.2.2.2.2.2.2.2.2.2.2.2.2.2.2.2.2.1
theorem dL_law_2104 : decode cL_law 2104 = .ok (.invokestatic 349, 3) := dgL_48.2.2.2.2.2.2.2.2.2.2.2.2.2.2.2.2.2.2.2.2.2.2.2.2.2.2.2.2.1
theorem dL_law_2107 : decode cL_law 2107 = .ok (.istore 5, 2) := dgL_48.2.2.2.2.2.2.2.2.2.2.2.2.2.2.2.2.2.2.2.2.2.2.2.2.2.2.2.2.2.1
theorem dL_law_2109 : decode cL_law 2109 = .ok (.aload_n 2, 1) := dgL_48.2.2.2.2.2.2.2.2.2.2.2.2.2.2.2.2.2.2.2.2.2.2.2.2.2.2.2.2.2.2.1
theorem dL_law_2110 : decode cL_law 2110 = .ok (.aload_n 0, 1) := dgL_48.2.2.2.2.2.2.2.2.2.2.2.2.2.2.2.2.2.2.2.2.2.2.2.2.2.2.2.2.2.2.2.1
theorem dL_law_2111 : decode cL_law 2111 = .ok (.iload 4, 2) := dgL_48.2.2.2.2.2.2.2.2.2.2.2.2.2.2.2.2.2.2.2.2.2.2.2.2.2.2.2.2.2.2.2.2.1
theorem dL_law_2113 : decode cL_law 2113 = .ok (.iconst 1, 1) := dgL_48.2.2.2.2.2.2.2.2.2.2.2.2.2.2.2.2.2.2.2.2.2.2.2.2.2.2.2.2.2.2.2.2.2.1
theorem dL_law_2114 : decode cL_law 2114 = .ok (.iadd, 1) := dgL_48.2.2.2.2.2.2.2.2.2.2.2.2.2.2.2.2.2.2.2.2.2.2.2.2.2.2.2.2.2.2.2.2.2.2.1
theorem dL_law_2115 : decode cL_law 2115 = .ok (.iaload, 1) := dgL_48.2.2.2.2.2.2.2.2.2.2.2.2.2.2.2.2.2.2.2.2.2.2.2.2.2.2.2.2.2.2.2.2.2.2.2.1
theorem dL_law_2116 : decode cL_law 2116 = .ok (.aload_n 0, 1) := dgL_48.2.2.2.2.2.2.2.2.2.2.2.2.2.2.2.2.2.2.2.2.2.2.2.2.2.2.2.2.2.2.2.2.2.2.2.2.1
theorem dL_law_2117 : decode cL_law 2117 = .ok (.iload 4, 2) := dgL_48.2.2.2.2.2.2.2.2.2.2.2.2.2.2.2.2.2.2.2.2.2.2.2.2.2.2.2.2.2.2.2.2.2.2.2.2.2.1
theorem dL_law_2119 : decode cL_law 2119 = .ok (.iconst 2, 1) := dgL_48.2.2.2.2.2.2.2.2.2.2.2.2.2.2.2.2.2.2.2.2.2.2.2.2.2.2.2.2.2.2.2.2.2.2.2.2.2.2.1
theorem dL_law_2120 : decode cL_law 2120 = .ok (.iadd, 1) := dgL_48.2.2.2.2.2.2.2.2.2.2.2.2.2.2.2.2.2.2.2.2.2.2.2.2.2.2.2.2.2.2.2.2.2.2.2.2.2.2.2
theorem dgL_49 : (decode cL_law 2121 = .ok (.iaload, 1)) ∧ (decode cL_law 2122 = .ok (.ifCond .eq 7, 3)) ∧ (decode cL_law 2125 = .ok (.iconst 1, 1)) ∧ (decode cL_law 2126 = .ok (.goto 4, 3)) ∧ (decode cL_law 2129 = .ok (.iconst 0, 1)) ∧ (decode cL_law 2130 = .ok (.invokevirtual 351, 3)) ∧ (decode cL_law 2133 = .ok (.istore 6, 2)) ∧ (decode cL_law 2135 = .ok (.goto 337, 3)) ∧ (decode cL_law 2138 = .ok (.aload_n 1, 1)) ∧ (decode cL_law 2139 = .ok (.aload_n 0, 1)) ∧ (decode cL_law 2140 = .ok (.iload 4, 2)) ∧ (decode cL_law 2142 = .ok (.iconst 1, 1)) ∧ (decode cL_law 2143 = .ok (.iadd, 1)) ∧ (decode cL_law 2144 = .ok (.iaload, 1)) ∧ (decode cL_law 2145 = .ok (.aload_n 0, 1)) ∧ (decode cL_law 2146 = .ok (.iload 4, 2)) ∧ (decode cL_law 2148 = .ok (.iconst 2, 1)) ∧ (decode cL_law 2149 = .ok (.iadd, 1)) ∧ (decode cL_law 2150 = .ok (.iaload, 1)) ∧ (decode cL_law 2151 = .ok (.aload_n 3, 1)) ∧ (decode cL_law 2152 = .ok (.invokestatic 352, 3)) ∧ (decode cL_law 2155 = .ok (.istore 5, 2)) ∧ (decode cL_law 2157 = .ok (.aload_n 2, 1)) ∧ (decode cL_law 2158 = .ok (.aload_n 0, 1)) ∧ (decode cL_law 2159 = .ok (.iload 4, 2)) ∧ (decode cL_law 2161 = .ok (.iconst 1, 1)) ∧ (decode cL_law 2162 = .ok (.iadd, 1)) ∧ (decode cL_law 2163 = .ok (.iaload, 1)) ∧ (decode cL_law 2164 = .ok (.aload_n 0, 1)) ∧ (decode cL_law 2165 = .ok (.iload 4, 2)) ∧ (decode cL_law 2167 = .ok (.iconst 2, 1)) ∧ (decode cL_law 2168 = .ok (.iadd, 1)) ∧ (decode cL_law 2169 = .ok (.iaload, 1)) ∧ (decode cL_law 2170 = .ok (.invokevirtual 354, 3)) ∧ (decode cL_law 2173 = .ok (.istore 6, 2)) ∧ (decode cL_law 2175 = .ok (.goto 297, 3)) ∧ (decode cL_law 2178 = .ok (.aload_n 1, 1)) ∧ (decode cL_law 2179 = .ok (.aload_n 0, 1)) ∧ (decode cL_law 2180 = .ok (.iload 4, 2)) ∧ (decode cL_law 2182 = .ok (.iconst 1, 1)) := by decide +kernel
theorem dL_law_2121 : decode cL_law 2121 = .ok (.iaload, 1) := dgL_49.1
theorem dL_law_2122 : decode cL_law 2122 = .ok (.ifCond .eq 7, 3) := dgL_49.2.1
theorem dL_law_2125 : decode cL_law 2125 = .ok (.iconst 1, 1) := dgL_49.2.2.1
theorem dL_law_2126 : decode cL_law 2126 = .ok (.goto 4, 3) := dgL_49.2.2.2.1
theorem dL_law_2129 : decode cL_law 2129 = .ok (.iconst 0, 1) := dgL_49.2.2.2.2.1
theorem dL_law_2130 : decode cL_law 2130 = .ok (.invokevirtual 351, 3) := dgL_49.2.2.2.2.2.1
theorem dL_law_2133 : decode cL_law 2133 = .ok (.istore 6, 2) := dgL_49.2.2.2.2.2.2.1
theorem dL_law_2135 : decode cL_law 2135 = .ok (.goto 337, 3) := dgL_49.2.2.2.2.2.2.2.1
theorem dL_law_2138 : decode cL_law 2138 = .ok (.aload_n 1, 1) := dgL_49.2.2.2.2.2.2.2.2.1
theorem dL_law_2139 : decode cL_law 2139 = .ok (.aload_n 0, 1) := dgL_49.2.2.2.2.2.2.2.2.2.1
theorem dL_law_2140 : decode cL_law 2140 = .ok (.iload 4, 2) := dgL_49.2.2.2.2.2.2.2.2.2.2.1
theorem dL_law_2142 : decode cL_law 2142 = .ok (.iconst 1, 1) := dgL_49.2.2.2.2.2.2.2.2.2.2.2.1
theorem dL_law_2143 : decode cL_law 2143 = .ok (.iadd, 1) := dgL_49.2.2.2.2.2.2.2.2.2.2.2.2.1
theorem dL_law_2144 : decode cL_law 2144 = .ok (.iaload, 1) := dgL_49.2.2.2.2.2.2.2.2.2.2.2.2.2.1
theorem dL_law_2145 : decode cL_law 2145 = .ok (.aload_n 0, 1) := dgL_49.2.2.2.2.2.2.2.2.2.2.2.2.2.2.1
theorem dL_law_2146 : decode cL_law 2146 = .ok (.iload 4, 2) := dgL_49.2.2.2.2.2.2.2.2.2.2.2.2.2.2.2.1
theorem dL_law_2148 : decode cL_law 2148 = .ok (.iconst 2, 1) := dgL_49.2.2.2.2.2.2.2.2.2.2.2.2.2.2.2.2.1
theorem dL_law_2149 : decode cL_law 2149 = .ok (.iadd, 1) := dgL_49.2.2.2.2.2.2.2.2.2.2.2.2.2.2.2.2.2.1
theorem dL_law_2150 : decode cL_law 2150 = .ok (.iaload, 1) := dgL_49.2.2.2.2.2.2.2.2.2.2.2.2.2.2.2.2.2.2.1
theorem dL_law_2151 : decode cL_law 2151 = .ok (.aload_n 3, 1) := dgL_49.2.2.2.2.2.2.2.2.2.2.2.2.2.2.2.2.2.2.2.1
theorem dL_law_2152 : decode cL_law 2152 = .ok (.invokestatic 352, 3) := dgL_49.2.2.2.2.2.2.2.2.2.2.2.2.2.2.2.2.2.2.2.2.1
theorem dL_law_2155 : decode cL_law 2155 = .ok (.istore 5, 2) := dgL_49.2.2.2.2.2.2.2.2.2.2.2.2.2.2.2.2.2.2.2.2.2.1
theorem dL_law_2157 : decode cL_law 2157 = .ok (.aload_n 2, 1) := dgL_49.2.2.2.2.2.2.2.2.2.2.2.2.2.2.2.2.2.2.2.2.2.2.1
theorem dL_law_2158 : decode cL_law 2158 = .ok (.aload_n 0, 1) := dgL_49.2.2.2.2.2.2.2.2.2.2.2.2.2.2.2.2.2.2.2.2.2.2.2.1
theorem dL_law_2159 : decode cL_law 2159 = .ok (.iload 4, 2) := dgL_49.2.2.2.2.2.2.2.2.2.2.2.2.2.2.2.2.2.2.2.2.2.2.2.2.1
theorem dL_law_2161 : decode cL_law 2161 = .ok (.iconst 1, 1) := dgL_49.2.2.2.2.2.2.2.2.2.2.2.2.2.2.2.2.2.2.2.2.2.2.2.2.2.1
theorem dL_law_2162 : decode cL_law 2162 = .ok (.iadd, 1) := dgL_49.2.2.2.2.2.2.2.2.2.2.2.2.2.2.2.2.2.2.2.2.2.2.2.2.2.2.1
theorem dL_law_2163 : decode cL_law 2163 = .ok (.iaload, 1) := dgL_49.2.2.2.2.2.2.2.2.2.2.2.2.2.2.2.2.2.2.2.2.2.2.2.2.2.2.2.1
theorem dL_law_2164 : decode cL_law 2164 = .ok (.aload_n 0, 1) := dgL_49.2.2.2.2.2.2.2.2.2.2.2.2.2.2.2.2.2.2.2.2.2.2.2.2.2.2.2.2.1
theorem dL_law_2165 : decode cL_law 2165 = .ok (.iload 4, 2) := dgL_49.2.2.2.2.2.2.2.2.2.2.2.2.2.2.2.2.2.2.2.2.2.2.2.2.2.2.2.2.2.1
theorem dL_law_2167 : decode cL_law 2167 = .ok (.iconst 2, 1) := dgL_49.2.2.2.2.2.2.2.2.2.2.2.2.2.2.2.2.2.2.2.2.2.2.2.2.2.2.2.2.2.2.1
theorem dL_law_2168 : decode cL_law 2168 = .ok (.iadd, 1) := dgL_49.2.2.2.2.2.2.2.2.2.2.2.2.2.2.2.2.2.2.2.2.2.2.2.2.2.2.2.2.2.2.2.1
theorem dL_law_2169 : decode cL_law 2169 = .ok (.iaload, 1) := dgL_49.2.2.2.2.2.2.2.2.2.2.2.2.2.2.2.2.2.2.2.2.2.2.2.2.2.2.2.2.2.2.2.2.1
theorem dL_law_2170 : decode cL_law 2170 = .ok (.invokevirtual 354, 3) := dgL_49.2.2.2.2.2.2.2.2.2.2.2.2.2.2.2.2.2.2.2.2.2.2.2.2.2.2.2.2.2.2.2.2.2.1
theorem dL_law_2173 : decode cL_law 2173 = .ok (.istore 6, 2) := dgL_49.2.2.2.2.2.2.2.2.2.2.2.2.2.2.2.2.2.2.2.2.2.2.2.2.2.2.2.2.2.2.2.2.2.2.1
theorem dL_law_2175 : decode cL_law 2175 = .ok (.goto 297, 3) := dgL_49.2.2.2.2.2.2.2.2.2.2.2.2.2.2.2.2.2.2.2.2.2.2.2.2.2.2.2.2.2.2.2.2.2.2.2.1
theorem dL_law_2178 : decode cL_law 2178 = .ok (.aload_n 1, 1) := dgL_49.2.2.2.2.2.2.2.2.2.2.2.2.2.2.2.2.2.2.2.2.2.2.2.2.2.2.2.2.2.2.2.2.2.2.2.2.1
theorem dL_law_2179 : decode cL_law 2179 = .ok (.aload_n 0, 1) := dgL_49.2.2.2.2.2.2.2.2.2.2.2.2.2.2.2.2.2.2.2.2.2.2.2.2.2.2.2.2.2.2.2.2.2.2.2.2.2.1
theorem dL_law_2180 : decode cL_law 2180 = .ok (.iload 4, 2) := dgL_49.2.2.2.2.2.2.2.2.2.2.2.2.2.2.2.2.2.2.2.2.2.2.2.2.2.2.2.2.2.2.2.2.2.2.2.2.2.2.1
theorem dL_law_2182 : decode cL_law 2182 = .ok (.iconst 1, 1) := dgL_49.2.2.2.2.2.2.2.2.2.2.2.2.2.2.2.2.2.2.2.2.2.2.2.2.2.2.2.2.2.2.2.2.2.2.2.2.2.2.2
theorem dgL_50 : (decode cL_law 2183 = .ok (.iadd, 1)) ∧ (decode cL_law 2184 = .ok (.iaload, 1)) ∧ (decode cL_law 2185 = .ok (.aload_n 0, 1)) ∧ (decode cL_law 2186 = .ok (.iload 4, 2)) ∧ (decode cL_law 2188 = .ok (.iconst 2, 1)) ∧ (decode cL_law 2189 = .ok (.iadd, 1)) ∧ (decode cL_law 2190 = .ok (.iaload, 1)) ∧ (decode cL_law 2191 = .ok (.aload_n 3, 1)) ∧ (decode cL_law 2192 = .ok (.invokestatic 355, 3)) ∧ (decode cL_law 2195 = .ok (.istore 5, 2)) ∧ (decode cL_law 2197 = .ok (.aload_n 2, 1)) ∧ (decode cL_law 2198 = .ok (.aload_n 0, 1)) ∧ (decode cL_law 2199 = .ok (.iload 4, 2)) ∧ (decode cL_law 2201 = .ok (.iconst 1, 1)) ∧ (decode cL_law 2202 = .ok (.iadd, 1)) ∧ (decode cL_law 2203 = .ok (.iaload, 1)) ∧ (decode cL_law 2204 = .ok (.aload_n 0, 1)) ∧ (decode cL_law 2205 = .ok (.iload 4, 2)) ∧ (decode cL_law 2207 = .ok (.iconst 2, 1)) ∧ (decode cL_law 2208 = .ok (.iadd, 1)) ∧ (decode cL_law 2209 = .ok (.iaload, 1)) ∧ (decode cL_law 2210 = .ok (.invokevirtual 357, 3)) ∧ (decode cL_law 2213 = .ok (.istore 6, 2)) ∧ (decode cL_law 2215 = .ok (.goto 257, 3)) ∧ (decode cL_law 2218 = .ok (.aload_n 1, 1)) ∧ (decode cL_law 2219 = .ok (.aload_n 0, 1)) ∧ (decode cL_law 2220 = .ok (.iload 4, 2)) ∧ (decode cL_law 2222 = .ok (.iconst 1, 1)) ∧ (decode cL_law 2223 = .ok (.iadd, 1)) ∧ (decode cL_law 2224 = .ok (.iaload, 1)) ∧ (decode cL_law 2225 = .ok (.aload_n 0, 1)) ∧ (decode cL_law 2226 = .ok (.iload 4, 2)) ∧ (decode cL_law 2228 = .ok (.iconst 2, 1)) ∧ (decode cL_law 2229 = .ok (.iadd, 1)) ∧ (decode cL_law 2230 = .ok (.iaload, 1)) ∧ (decode cL_law 2231 = .ok (.aload_n 3, 1)) ∧ (decode cL_law 2232 = .ok (.invokestatic 358, 3)) ∧ (decode cL_law 2235 = .ok (.istore 5, 2)) ∧ (decode cL_law 2237 = .ok (.aload_n 2, 1)) ∧ (decode cL_law 2238 = .ok (.aload_n 0, 1)) := by decide +kernel
theorem dL_law_2183 : decode cL_law 2183 = .ok (.iadd, 1) := dgL_50.1
theorem dL_law_2184 : decode cL_law 2184 = .ok (.iaload, 1) := dgL_50.2.1
theorem dL_law_2185 : decode cL_law 2185 = .ok (.aload_n 0, 1) := dgL_50.2.2.1
theorem dL_law_2186 : decode cL_law 2186 = .ok (.iload 4, 2) := dgL_50.2.2.2.1
theorem dL_law_2188 : decode cL_law 2188 = .ok (.iconst 2, 1) := dgL_50.2.2.2.2.1
theorem dL_law_2189 : decode cL_law 2189 = .ok (.iadd, 1) := dgL_50.2.2.2.2.2.1
theorem dL_law_2190 : decode cL_law 2190 = .ok (.iaload, 1) := dgL_50.2.2.2.2.2.2.1
theorem dL_law_2191 : decode cL_law 2191 = .ok (.aload_n 3, 1) := dgL_50.2.2.2.2.2.2.2.1
theorem dL_law_2192 : decode cL_law 2192 = .ok (.invokestatic 355, 3) := dgL_50.2.2.2.2.2.2.2.2.1
theorem dL_law_2195 : decode cL_law 2195 = .ok (.istore 5, 2) := dgL_50.2.2.2.2.2.2.2.2.2.1
theorem dL_law_2197 : decode cL_law 2197 = .ok (.aload_n 2, 1) := dgL_50.2.2.2.2.2.2.2.2.2.2.1
theorem dL_law_2198 : decode cL_law 2198 = .ok (.aload_n 0, 1) := dgL_50.2.2.2.2.2.2.2.2.2.2.2.1
theorem dL_law_2199 : decode cL_law 2199 = .ok (.iload 4, 2) := dgL_50.2.2.2.2.2.2.2.2.2.2.2.2.1
theorem dL_law_2201 : decode cL_law 2201 = .ok (.iconst 1, 1) := dgL_50.2.2.2.2.2.2.2.2.2.2.2.2.2.1
theorem dL_law_2202 : decode cL_law 2202 = .ok (.iadd, 1) := dgL_50.2.2.2.2.2.2.2.2.2.2.2.2.2.2.1
theorem dL_law_2203 : decode cL_law 2203 = .ok (.iaload, 1) := dgL_50.2.2.2.2.2.2.2.2.2.2.2.2.2.2.2.1
theorem dL_law_2204 : decode cL_law 2204 = .ok (.aload_n 0, 1) := dgL_50.2.2.2.2.2.2.2.2.2.2.2.2.2.2.2.2.1
theorem dL_law_2205 : decode cL_law 2205 = .ok (.iload 4, 2) := dgL_50.2.2.2.2.2.2.2.2.2.2.2.2.2.2.2.2.2.1
theorem dL_law_2207 : decode cL_law 2207 = .ok (.iconst 2, 1) := dgL_50.2.2.2.2.2.2.2.2.2.2.2.2.2.2.2.2.2.2.1
theorem dL_law_2208 : decode cL_law 2208 = .ok (.iadd, 1) := dgL_50.2.2.2.2.2.2.2.2.2.2.2.2.2.2.2.2.2.2.2.1
theorem dL_law_2209 : decode cL_law 2209 = .ok (.iaload, 1) := dgL_50.2.2.2.2.2.2.2.2.2.2.2.2.2.2.2.2.2.2.2.2.1
theorem dL_law_2210 : decode cL_law 2210 = .ok (.invokevirtual 357, 3) := dgL_50.2.2.2.2.2.2.2.2.2.2.2.2.2.2.2.2.2.2.2.2.2.1
theorem dL_law_2213 : decode cL_law 2213 = .ok (.istore 6, 2) := dgL_50.2.2.2.2.2.2.2.2.2.2.2.2.2.2.2.2.2.2.2.2.2.2.1
theorem dL_law_2215 : decode cL_law 2215 = .ok (.goto 257, 3) := dgL_50.2.2.2.2.2.2.2.2.2.2.2.2.2.2.2.2.2.2.2.2.2.2.2.1
theorem dL_law_2218 : decode cL_law 2218 = .ok (.aload_n 1, 1) := dgL_50.2.2.2.2.2.2.2.2.2.2.2.2.2.2.2.2.2.2.2.2.2.2.2.2.1
theorem dL_law_2219 : decode cL_law 2219 = .ok (.aload_n 0, 1) := dgL_50.2.2.2.2.2.2.2.2.2.2.2.2.2.2.2.2.2.2.2.2.2.2.2.2.2.1
theorem dL_law_2220 : decode cL_law 2220 = .ok (.iload 4, 2) := dgL_50.2.2.2.2.2.2.2.2.2.2.2.2.2.2.2.2.2.2.2.2.2.2.2.2.2.2.1
theorem dL_law_2222 : decode cL_law 2222 = .ok (.iconst 1, 1) := dgL_50.2.2.2.2.2.2.2.2.2.2.2.2.2.2.2.2.2.2.2.2.2.2.2.2.2.2.2.1
theorem dL_law_2223 : decode cL_law 2223 = .ok (.iadd, 1) := dgL_50.2.2.2.2.2.2.2.2.2.2.2.2.2.2.2.2.2.2.2.2.2.2.2.2.2.2.2.2.1
theorem dL_law_2224 : decode cL_law 2224 = .ok (.iaload, 1) := dgL_50.2.2.2.2.2.2.2.2.2.2.2.2.2.2.2.2.2.2.2.2.2.2.2.2.2.2.2.2.2.1
theorem dL_law_2225 : decode cL_law 2225 = .ok (.aload_n 0, 1) := dgL_50.2.2.2.2.2.2.2.2.2.2.2.2.2.2.2.2.2.2.2.2.2.2.2.2.2.2.2.2.2.2.1
theorem dL_law_2226 : decode cL_law 2226 = .ok (.iload 4, 2) := dgL_50.2.2.2.2.2.2.2.2.2.2.2.2.2.2.2.2.2.2.2.2.2.2.2.2.2.2.2.2.2.2.2.1
theorem dL_law_2228 : decode cL_law 2228 = .ok (.iconst 2, 1) := dgL_50.2.2.2.2.2.2.2.2.2.2.2.2.2.2.2.2.2.2.2.2.2.2.2.2.2.2.2.2.2.2.2.2.1
theorem dL_law_2229 : decode cL_law 2229 = .ok (.iadd, 1) := dgL_50.2.2.2.2.2.2.2.2.2.2.2.2.2.2.2.2.2.2.2.2.2.2.2.2.2.2.2.2.2.2.2.2.2.1
theorem dL_law_2230 : decode cL_law 2230 = .ok (.iaload, 1) := dgL_50.2.2.2.2.2.2.2.2.2.2.2.2.2.2.2.2.2.2.2.2.2.2.2.2.2.2.2.2.2.2.2.2.2.2.1
theorem dL_law_2231 : decode cL_law 2231 = .ok (.aload_n 3, 1) := dgL_50.2.2.2.2.2.2.2.2.2.2.2.2.2.2.2.2.2.2.2.2.2.2.2.2.2.2.2.2.2.2.2.2.2.2.2.1
theorem dL_law_2232 : decode cL_law 2232 = .ok (.invokestatic 358, 3) := dgL_50.2.2.2.2.2.2.2.2.2.2.2.2.2.2.2.2.2.2.2.2.2.2.2.2.2.2.2.2.2.2.2.2.2.2.2.2.1
theorem dL_law_2235 : decode cL_law 2235 = .ok (.istore 5, 2) := dgL_50.2.2.2.2.2.2.2.2.2.2.2.2.2.2.2.2.2.2.2.2.2.2.2.2.2.2.2.2.2.2.2.2.2.2.2.2.2.1
theorem dL_law_2237 : decode cL_law 2237 = .ok (.aload_n 2, 1) := dgL_50.2.2.2.2.2.2.2.2.2.2.2.2.2.2.2.2.2.2.2.2.2.2.2.2.2.2.2.2.2.2.2.2.2.2.2.2.2.2.1
theorem dL_law_2238 : decode cL_law 2238 = .ok (.aload_n 0, 1) := dgL_50.2.2.2.2.2.2.2.2.2.2.2.2.2.2.2.2.2.2.2.2.2.2.2.2.2.2.2.2.2.2.2.2.2.2.2.2.2.2.2
theorem dgL_51 : (decode cL_law 2239 = .ok (.iload 4, 2)) ∧ (decode cL_law 2241 = .ok (.iconst 1, 1)) ∧ (decode cL_law 2242 = .ok (.iadd, 1)) ∧ (decode cL_law 2243 = .ok (.iaload, 1)) ∧ (decode cL_law 2244 = .ok (.aload_n 0, 1)) ∧ (decode cL_law 2245 = .ok (.iload 4, 2)) ∧ (decode cL_law 2247 = .ok (.iconst 2, 1)) ∧ (decode cL_law 2248 = .ok (.iadd, 1)) ∧ (decode cL_law 2249 = .ok (.iaload, 1)) ∧ (decode cL_law 2250 = .ok (.invokevirtual 360, 3)) ∧ (decode cL_law 2253 = .ok (.istore 6, 2)) ∧ (decode cL_law 2255 = .ok (.goto 217, 3)) ∧ (decode cL_law 2258 = .ok (.aload_n 1, 1)) ∧ (decode cL_law 2259 = .ok (.aload_n 0, 1)) ∧ (decode cL_law 2260 = .ok (.iload 4, 2)) ∧ (decode cL_law 2262 = .ok (.iconst 1, 1)) ∧ (decode cL_law 2263 = .ok (.iadd, 1)) ∧ (decode cL_law 2264 = .ok (.iaload, 1)) ∧ (decode cL_law 2265 = .ok (.aload_n 0, 1)) ∧ (decode cL_law 2266 = .ok (.iload 4, 2)) ∧ (decode cL_law 2268 = .ok (.iconst 2, 1)) ∧ (decode cL_law 2269 = .ok (.iadd, 1)) ∧ (decode cL_law 2270 = .ok (.iaload, 1)) ∧ (decode cL_law 2271 = .ok (.aload_n 3, 1)) ∧ (decode cL_law 2272 = .ok (.invokestatic 361, 3)) ∧ (decode cL_law 2275 = .ok (.istore 5, 2)) ∧ (decode cL_law 2277 = .ok (.aload_n 2, 1)) ∧ (decode cL_law 2278 = .ok (.aload_n 0, 1)) ∧ (decode cL_law 2279 = .ok (.iload 4, 2)) ∧ (decode cL_law 2281 = .ok (.iconst 1, 1)) ∧ (decode cL_law 2282 = .ok (.iadd, 1)) ∧ (decode cL_law 2283 = .ok (.iaload, 1)) ∧ (decode cL_law 2284 = .ok (.aload_n 0, 1)) ∧ (decode cL_law 2285 = .ok (.iload 4, 2)) ∧ (decode cL_law 2287 = .ok (.iconst 2, 1)) ∧ (decode cL_law 2288 = .ok (.iadd, 1)) ∧ (decode cL_law 2289 = .ok (.iaload, 1)) ∧ (decode cL_law 2290 = .ok (.invokevirtual 363, 3)) ∧ (decode cL_law 2293 = .ok (.istore 6, 2)) ∧ (decode cL_law 2295 = .ok (.goto 177, 3)) := by decide +kernel
theorem dL_law_2239 : decode cL_law 2239 = .ok (.iload 4, 2) := dgL_51.1
theorem dL_law_2241 : decode cL_law 2241 = .ok (.iconst 1, 1) := dgL_51.2.1
theorem dL_law_2242 : decode cL_law 2242 = .ok (.iadd, 1) := dgL_51.2.2.1
theorem dL_law_2243 : decode cL_law 2243 = .ok (.iaload, 1) := dgL_51.2.2.2.1
theorem dL_law_2244 : decode cL_law 2244 = .ok (.aload_n 0, 1) := dgL_51.2.2.2.2.1
theorem dL_law_2245 : decode cL_law 2245 = .ok (.iload 4, 2) := dgL_51.2.2.2.2.2.1
theorem dL_law_2247 : decode cL_law 2247 = .ok (.iconst 2, 1) := dgL_51.2.2.2.2.2.2.1
theorem dL_law_2248 : decode cL_law 2248 = .ok (.iadd, 1) := dgL_51.2.2.2.2.2.2.2.1
theorem dL_law_2249 : decode cL_law 2249 = .ok (.iaload, 1) := dgL_51.2.2.2.2.2.2.2.2.1
theorem dL_law_2250 : decode cL_law 2250 = .ok (.invokevirtual 360, 3) := dgL_51.2.2.2.2.2.2.2.2.2.1
theorem dL_law_2253 : decode cL_law 2253 = .ok (.istore 6, 2) := dgL_51.2.2.2.2.2.2.2.2.2.2.1
theorem dL_law_2255 : decode cL_law 2255 = .ok (.goto 217, 3) := dgL_51.2.2.2.2.2.2.2.2.2.2.2.1
theorem dL_law_2258 : decode cL_law 2258 = .ok (.aload_n 1, 1) := dgL_51.2.2.2.2.2.2.2.2.2.2.2.2.1
theorem dL_law_2259 : decode cL_law 2259 = .ok (.aload_n 0, 1) := dgL_51.2.2.2.2.2.2.2.2.2.2.2.2.2.1
theorem dL_law_2260 : decode cL_law 2260 = .ok (.iload 4, 2) := dgL_51.2.2.2.2.2.2.2.2.2.2.2.2.2.2.1
theorem dL_law_2262 : decode cL_law 2262 = .ok (.iconst 1, 1) := dgL_51.2.2.2.2.2.2.2.2.2.2.2.2.2.2.2.1
theorem dL_law_2263 : decode cL_law 2263 = .ok (.iadd, 1) := dgL_51.2.2.2.2.2.2.2.2.2.2.2.2.2.2.2.2.1
theorem dL_law_2264 : decode cL_law 2264 = .ok (.iaload, 1) := dgL_51.2.2.2.2.2.2.2.2.2.2.2.2.2.2.2.2.2.1
theorem dL_law_2265 : decode cL_law 2265 = .ok (.aload_n 0, 1) := dgL_51.2.2.2.2.2.2.2.2.2.2.2.2.2.2.2.2.2.2.1
theorem dL_law_2266 : decode cL_law 2266 = .ok (.iload 4, 2) := dgL_51.2.2.2.2.2.2.2.2.2.2.2.2.2.2.2.2.2.2.2.1
theorem dL_law_2268 : decode cL_law 2268 = .ok (.iconst 2, 1) := dgL_51.2.2.2.2.2.2.2.2.2.2.2.2.2.2.2.2.2.2.2.2.1
theorem dL_law_2269 : decode cL_law 2269 = .ok (.iadd, 1) := dgL_51.2.2.2.2.2.2.2.2.2.2.2.2.2.2.2.2.2.2.2.2.2.1
theorem dL_law_2270 : decode cL_law 2270 = .ok (.iaload, 1) := dgL_51.2.2.2.2.2.2.2.2.2.2.2.2.2.2.2.2.2.2.2.2.2.2.1
theorem dL_law_2271 : decode cL_law 2271 = .ok (.aload_n 3, 1) := dgL_51.2.2.2.2.2.2.2.2.2.2.2.2.2.2.2.2.2.2.2.2.2.2.2.1
theorem dL_law_2272 : decode cL_law 2272 = .ok (.invokestatic 361, 3) := dgL_51.2.2.2.2.2.2.2.2.2.2.2.2.2.2.2.2.2.2.2.2.2.2.2.2.1
theorem dL_law_2275 : decode cL_law 2275 = .ok (.istore 5, 2) := dgL_51.2.2.2.2.2.2.2.2.2.2.2.2.2.2.2.2.2.2.2.2.2.2.2.2.2.1
theorem dL_law_2277 : decode cL_law 2277 = .ok (.aload_n 2, 1) := dgL_51.2.2.2.2.2.2.2.2.2.2.2.2.2.2.2.2.2.2.2.2.2.2.2.2.2.2.1
theorem dL_law_2278 : decode cL_law 2278 = .ok (.aload_n 0, 1) := dgL_51.2.2.2.2.2.2.2.2.2.2.2.2.2.2.2.2.2.2.2.2.2.2.2.2.2.2.2.1
theorem dL_law_2279 : decode cL_law 2279 = .ok (.iload 4, 2) := dgL_51.2.2.2.2.2.2.2.2.2.2.2.2.2.2.2.2.2.2.2.2.2.2.2.2.2.2.2.2.1
theorem dL_law_2281 : decode cL_law 2281 = .ok (.iconst 1, 1) := dgL_51.2.2.2.2.2.2.2.2.2.2.2.2.2.2.2.2.2.2.2.2.2.2.2.2.2.2.2.2.2.1
theorem dL_law_2282 : decode cL_law 2282 = .ok (.iadd, 1) := dgL_51.2.2.2.2.2.2.2.2.2.2.2.2.2.2.2.2.2.2.2.2.2.2.2.2.2.2.2.2.2.2.1
theorem dL_law_2283 : decode cL_law 2283 = .ok (.iaload, 1) := dgL_51.2.2.2.2.2.2.2.2.2.2.2.2.2.2.2.2.2.2.2.2.2.2.2.2.2.2.2.2.2.2.2.1
theorem dL_law_2284 : decode cL_law 2284 = .ok (.aload_n 0, 1) := dgL_51.2.2.2.2.2.2.2.2.2.2.2.2.2.2.2.2.2.2.2.2.2.2.2.2.2.2.2.2.2.2.2.2.1
theorem dL_law_2285 : decode cL_law 2285 = .ok (.iload 4, 2) := dgL_51.2.2.2.2.2.2.2.2.2.2.2.2.2.2.2.2.2.2.2.2.2.2.2.2.2.2.2.2.2.2.2.2.2.1
theorem dL_law_2287 : decode cL_law 2287 = .ok (.iconst 2, 1) := dgL_51.2.2.2.2.2.2.2.2.2.2.2.2.2.2.2.2.2.2.2.2.2.2.2.2.2.2.2.2.2.2.2.2.2.2.1
theorem dL_law_2288 : decode cL_law 2288 = .ok (.iadd, 1) := dgL_51.2.2.2.2.2.2.2.2.2.2.2.2.2.2.2.2.2.2.2.2.2.2.2.2.2.2.2.2.2.2.2.2.2.2.2.1
theorem dL_law_2289 : decode cL_law 2289 = .ok (.iaload, 1) := dgL_51.2.2.2.2.2.2.2.2.2.2.2.2.2.2.2.2.2.2.2.2.2.2.2.2.2.2.2.2.2.2.2.2.2.2.2.2.1
theorem dL_law_2290 : decode cL_law 2290 = .ok (.invokevirtual 363, 3) := dgL_51.2.2.2.2.2.2.2.2.2.2.2.2.2.2.2.2.2.2.2.2.2.2.2.2.2.2.2.2.2.2.2.2.2.2.2.2.2.1
theorem dL_law_2293 : decode cL_law 2293 = .ok (.istore 6, 2) := dgL_51.2.2.2.2.2.2.2.2.2.2.2.2.2.2.2.2.2.2.2.2.2.2.2.2.2.2.2.2.2.2.2.2.2.2.2.2.2.2.1
theorem dL_law_2295 : decode cL_law 2295 = .ok (.goto 177, 3) := dgL_51.2.2.2.2.2.2.2.2.2.2.2.2.2.2.2.2.2.2.2.2.2.2.2.2.2.2.2.2.2.2.2.2.2.2.2.2.2.2.2
theorem dgL_52 : (decode cL_law 2298 = .ok (.aload_n 1, 1)) ∧ (decode cL_law 2299 = .ok (.aload_n 0, 1)) ∧ (decode cL_law 2300 = .ok (.iload 4, 2)) ∧ (decode cL_law 2302 = .ok (.iconst 1, 1)) ∧ (decode cL_law 2303 = .ok (.iadd, 1)) ∧ (decode cL_law 2304 = .ok (.iaload, 1)) ∧ (decode cL_law 2305 = .ok (.aload_n 0, 1)) ∧ (decode cL_law 2306 = .ok (.iload 4, 2)) ∧ (decode cL_law 2308 = .ok (.iconst 2, 1)) ∧ (decode cL_law 2309 = .ok (.iadd, 1)) ∧ (decode cL_law 2310 = .ok (.iaload, 1)) ∧ (decode cL_law 2311 = .ok (.aload_n 3, 1)) ∧ (decode cL_law 2312 = .ok (.invokestatic 364, 3)) ∧ (decode cL_law 2315 = .ok (.istore 5, 2)) ∧ (decode cL_law 2317 = .ok (.aload_n 2, 1)) ∧ (decode cL_law 2318 = .ok (.aload_n 0, 1)) ∧ (decode cL_law 2319 = .ok (.iload 4, 2)) ∧ (decode cL_law 2321 = .ok (.iconst 1, 1)) ∧ (decode cL_law 2322 = .ok (.iadd, 1)) ∧ (decode cL_law 2323 = .ok (.iaload, 1)) ∧ (decode cL_law 2324 = .ok (.aload_n 0, 1)) ∧ (decode cL_law 2325 = .ok (.iload 4, 2)) ∧ (decode cL_law 2327 = .ok (.iconst 2, 1)) ∧ (decode cL_law 2328 = .ok (.iadd, 1)) ∧ (decode cL_law 2329 = .ok (.iaload, 1)) ∧ (decode cL_law 2330 = .ok (.invokevirtual 366, 3)) ∧ (decode cL_law 2333 = .ok (.istore 6, 2)) ∧ (decode cL_law 2335 = .ok (.goto 137, 3)) ∧ (decode cL_law 2338 = .ok (.aload_n 1, 1)) ∧ (decode cL_law 2339 = .ok (.aload_n 0, 1)) ∧ (decode cL_law 2340 = .ok (.iload 4, 2)) ∧ (decode cL_law 2342 = .ok (.iconst 1, 1)) ∧ (decode cL_law 2343 = .ok (.iadd, 1)) ∧ (decode cL_law 2344 = .ok (.iaload, 1)) ∧ (decode cL_law 2345 = .ok (.aload_n 0, 1)) ∧ (decode cL_law 2346 = .ok (.iload 4, 2)) ∧ (decode cL_law 2348 = .ok (.iconst 2, 1)) ∧ (decode cL_law 2349 = .ok (.iadd, 1)) ∧ (decode cL_law 2350 = .ok (.iaload, 1)) ∧ (decode cL_law 2351 = .ok (.aload_n 3, 1)) := by decide +kernel
theorem dL_law_2298 : decode cL_law 2298 = .ok (.aload_n 1, 1) := dgL_52.1
theorem dL_law_2299 : decode cL_law 2299 = .ok (.aload_n 0, 1) := dgL_52.2.1
theorem dL_law_2300 : decode cL_law 2300 = .ok (.iload 4, 2) := dgL_52.2.2.1
theorem dL_law_2302 : decode cL_law 2302 = .ok (.iconst 1, 1) := dgL_52.2.2.2.1
theorem dL_law_2303 : decode cL_law 2303 = .ok (.iadd, 1) := dgL_52.2.2.2.2.1
theorem dL_law_2304 : decode cL_law 2304 = .ok (.iaload, 1) := dgL_52.2.2.2.2.2.1
theorem dL_law_2305 : decode cL_law 2305 = .ok (.aload_n 0, 1) := dgL_52.2.2.2.2.2.2.1
theorem dL_law_2306 : decode cL_law 2306 = .ok (.iload 4, 2) := dgL_52.2.2.2.2.2.2.2.1
theorem dL_law_2308 : decode cL_law 2308 = .ok (.iconst 2, 1) := dgL_52.2.2.2.2.2.2.2.2.1
theorem dL_law_2309 : decode cL_law 2309 = .ok (.iadd, 1) := dgL_52.2.2.2.2.2.2.2.2.2.1
theorem dL_law_2310 : decode cL_law 2310 = .ok (.iaload, 1) := dgL_52.2.2.2.2.2.2.2.2.2.2.1
theorem dL_law_2311 : decode cL_law 2311 = .ok (.aload_n 3, 1) := dgL_52.2.2.2.2.2.2.2.2.2.2.2.1
theorem dL_law_2312 : decode cL_law 2312 = .ok (.invokestatic 364, 3) := dgL_52.2.2.2.2.2.2.2.2.2.2.2.2.1
theorem dL_law_2315 : decode cL_law 2315 = .ok (.istore 5, 2) := dgL_52.2.2.2.2.2.2.2.2.2.2.2.2.2.1
theorem dL_law_2317 : decode cL_law 2317 = .ok (.aload_n 2, 1) := dgL_52.2.2.2.2.2.2.2.2.2.2.2.2.2.2.1
theorem dL_law_2318 : decode cL_law 2318 = .ok (.aload_n 0, 1) := dgL_52.2.2.2.2.2.2.2.2.2.2.2.2.2.2.2.1
theorem dL_law_2319 : decode cL_law 2319 = .ok (.iload 4, 2) := dgL_52.2.2.2.2.2.2.2.2.2.2.2.2.2.2.2.2.1
theorem dL_law_2321 : decode cL_law 2321 = .ok (.iconst 1, 1) := dgL_52.2.2.2.2.2.2.2.2.2.2.2.2.2.2.2.2.2.1
theorem dL_law_2322 : decode cL_law 2322 = .ok (.iadd, 1) := dgL_52.2.2.2.2.2.2.2.2.2.2.2.2.2.2.2.2.2.2.1
theorem dL_law_2323 : decode cL_law 2323 = .ok (.iaload, 1) := dgL_52.2.2.2.2.2.2.2.2.2.2.2.2.2.2.2.2.2.2.2.1
theorem dL_law_2324 : decode cL_law 2324 = .ok (.aload_n 0, 1) := dgL_52.2.2.2.2.2.2.2.2.2.2.2.2.2.2.2.2.2.2.2.2.1
theorem dL_law_2325 : decode cL_law 2325 = .ok (.iload 4, 2) := dgL_52.2.2.2.2.2.2.2.2.2.2.2.2.2.2.2.2.2.2.2.2.2.1
theorem dL_law_2327 : decode cL_law 2327 = .ok (.iconst 2, 1) := dgL_52.2.2.2.2.2.2.2.2.2.2.2.2.2.2.2.2.2.2.2.2.2.2.1
theorem dL_law_2328 : decode cL_law 2328 = .ok (.iadd, 1) := dgL_52.2.2.2.2.2.2.2.2.2.2.2.2.2.2.2.2.2.2.2.2.2.2.2.1
theorem dL_law_2329 : decode cL_law 2329 = .ok (.iaload, 1) := dgL_52.2.2.2.2.2.2.2.2.2.2.2.2.2.2.2.2.2.2.2.2.2.2.2.2.1
theorem dL_law_2330 : decode cL_law 2330 = .ok (.invokevirtual 366, 3) := dgL_52.2.2.2.2.2.2.2.2.2.2.2.2.2.2.2.2.2.2.2.2.2.2.2.2.2.1
theorem dL_law_2333 : decode cL_law 2333 = .ok (.istore 6, 2) := dgL_52.2.2.2.2.2.2.2.2.2.2.2.2.2.2.2.2.2.2.2.2.2.2.2.2.2.2.1
theorem dL_law_2335 : decode cL_law 2335 = .ok (.goto 137, 3) := dgL_52.2.2.2.2.2.2.2.2.2.2.2.2.2.2.2.2.2.2.2.2.2.2.2.2.2.2.2.1
theorem dL_law_2338 : decode cL_law 2338 = .ok (.aload_n 1, 1) := dgL_52.2.2.2.2.2.2.2.2.2.2.2.2.2.2.2.2.2.2.2.2.2.2.2.2.2.2.2.2.1
theorem dL_law_2339 : decode cL_law 2339 = .ok (.aload_n 0, 1) := dgL_52.2.2.2.2.2.2.2.2.2.2.2.2.2.2.2.2.2.2.2.2.2.2.2.2.2.2.2.2.2.1
theorem dL_law_2340 : decode cL_law 2340 = .ok (.iload 4, 2) := dgL_52.2.2.2.2.2.2.2.2.2.2.2.2.2.2.2.2.2.2.2.2.2.2.2.2.2.2.2.2.2.2.1
theorem dL_law_2342 : decode cL_law 2342 = .ok (.iconst 1, 1) := dgL_52.2.2.2.2.2.2.2.2.2.2.2.2.2.2.2.2.2.2.2.2.2.2.2.2.2.2.2.2.2.2.2.1
theorem dL_law_2343 : decode cL_law 2343 = .ok (.iadd, 1) := dgL_52.2.2.2.2.2.2.2.2.2.2.2.2.2.2.2.2.2.2.2.2.2.2.2.2.2.2.2.2.2.2.2.2.1
theorem dL_law_2344 : decode cL_law 2344 = .ok (.iaload, 1) := dgL_52.2.2.2.2.2.2.2.2.2.2.2.2.2.2.2.2.2.2.2.2.2.2.2.2.2.2.2.2.2.2.2.2.2.1
theorem dL_law_2345 : decode cL_law 2345 = .ok (.aload_n 0, 1) := dgL_52.2.2.2.2.2.2.2.2.2.2.2.2.2.2.2.2.2.2.2.2.2.2.2.2.2.2.2.2.2.2.2.2.2.2.1
theorem dL_law_2346 : decode cL_law 2346 = .ok (.iload 4, 2) := dgL_52.2.2.2.2.2.2.2.2.2.2.2.2.2.2.2.2.2.2.2.2.2.2.2.2.2.2.2.2.2.2.2.2.2.2.2.1
theorem dL_law_2348 : decode cL_law 2348 = .ok (.iconst 2, 1) := dgL_52.2.2.2.2.2.2.2.2.2.2.2.2.2.2.2.2.2.2.2.2.2.2.2.2.2.2.2.2.2.2.2.2.2.2.2.2.1
theorem dL_law_2349 : decode cL_law 2349 = .ok (.iadd, 1) := dgL_52.2.2.2.2.2.2.2.2.2.2.2.2.2.2.2.2.2.2.2.2.2.2.2.2.2.2.2.2.2.2.2.2.2.2.2.2.2.1
theorem dL_law_2350 : decode cL_law 2350 = .ok (.iaload, 1) := dgL_52.2.2.2.2.2.2.2.2.2.2.2.2.2.2.2.2.2.2.2.2.2.2.2.2.2.2.2.2.2.2.2.2.2.2.2.2.2.2.1
theorem dL_law_2351 : decode cL_law 2351 = .ok (.aload_n 3, 1) := dgL_52.2.2.2.2.2.2.2.2.2.2.2.2.2.2.2.2.2.2.2.2.2.2.2.2.2.2.2.2.2.2.2.2.2.2.2.2.2.2.2
theorem dgL_53 : (decode cL_law 2352 = .ok (.invokestatic 367, 3)) ∧ (decode cL_law 2355 = .ok (.istore 5, 2)) ∧ (decode cL_law 2357 = .ok (.aload_n 2, 1)) ∧ (decode cL_law 2358 = .ok (.aload_n 0, 1)) ∧ (decode cL_law 2359 = .ok (.iload 4, 2)) ∧ (decode cL_law 2361 = .ok (.iconst 1, 1)) ∧ (decode cL_law 2362 = .ok (.iadd, 1)) ∧ (decode cL_law 2363 = .ok (.iaload, 1)) ∧ (decode cL_law 2364 = .ok (.aload_n 0, 1)) ∧ (decode cL_law 2365 = .ok (.iload 4, 2)) ∧ (decode cL_law 2367 = .ok (.iconst 2, 1)) ∧ (decode cL_law 2368 = .ok (.iadd, 1)) ∧ (decode cL_law 2369 = .ok (.iaload, 1)) ∧ (decode cL_law 2370 = .ok (.invokevirtual 369, 3)) ∧ (decode cL_law 2373 = .ok (.istore 6, 2)) ∧ (decode cL_law 2375 = .ok (.goto 97, 3)) ∧ (decode cL_law 2378 = .ok (.aload_n 1, 1)) ∧ (decode cL_law 2379 = .ok (.aload_n 0, 1)) ∧ (decode cL_law 2380 = .ok (.iload 4, 2)) ∧ (decode cL_law 2382 = .ok (.iconst 1, 1)) ∧ (decode cL_law 2383 = .ok (.iadd, 1)) ∧ (decode cL_law 2384 = .ok (.iaload, 1)) ∧ (decode cL_law 2385 = .ok (.aload_n 0, 1)) ∧ (decode cL_law 2386 = .ok (.iload 4, 2)) ∧ (decode cL_law 2388 = .ok (.iconst 2, 1)) ∧ (decode cL_law 2389 = .ok (.iadd, 1)) ∧ (decode cL_law 2390 = .ok (.iaload, 1)) ∧ (decode cL_law 2391 = .ok (.aload_n 3, 1)) ∧ (decode cL_law 2392 = .ok (.invokestatic 370, 3)) ∧ (decode cL_law 2395 = .ok (.istore 5, 2)) ∧ (decode cL_law 2397 = .ok (.aload_n 2, 1)) ∧ (decode cL_law 2398 = .ok (.aload_n 0, 1)) ∧ (decode cL_law 2399 = .ok (.iload 4, 2)) ∧ (decode cL_law 2401 = .ok (.iconst 1, 1)) ∧ (decode cL_law 2402 = .ok (.iadd, 1)) ∧ (decode cL_law 2403 = .ok (.iaload, 1)) ∧ (decode cL_law 2404 = .ok (.aload_n 0, 1)) ∧ (decode cL_law 2405 = .ok (.iload 4, 2)) ∧ (decode cL_law 2407 = .ok (.iconst 2, 1)) ∧ (decode cL_law 2408 = .ok (.iadd, 1)) := by decide +kernel
theorem dL_law_2352 : decode cL_law 2352 = .ok (.invokestatic 367, 3) := dgL_53.1
theorem dL_law_2355 : decode cL_law 2355 = .ok (.istore 5, 2) := dgL_53.2.1
theorem dL_law_2357 : decode cL_law 2357 = .ok (.aload_n 2, 1) := dgL_53.2.2.1
theorem dL_law_2358 : decode cL_law 2358 = .ok (.aload_n 0, 1) := dgL_53.2.2.2.1
theorem dL_law_2359 : decode cL_law 2359 = .ok (.iload 4, 2) := dgL_53.2.2.2.2.1
theorem dL_law_2361 : decode cL_law 2361 = .ok (.iconst 1, 1) := dgL_53.2.2.2.2.2.1
theorem dL_law_2362 : decode cL_law 2362 = .ok (.iadd, 1) := dgL_53.2.2.2.2.2.2.1
theorem dL_law_2363 : decode cL_law 2363 = .ok (.iaload, 1) := dgL_53.2.2.2.2.2.2.2.1
theorem dL_law_2364 : decode cL_law 2364 = .ok (.aload_n 0, 1) := dgL_53.2.2.2.2.2.2.2.2.1
theorem dL_law_2365 : decode cL_law 2365 = .ok (.iload 4, 2) := dgL_53.2.2.2.2.2.2.2.2.2.1
theorem dL_law_2367 : decode cL_law 2367 = .ok (.iconst 2, 1) := dgL_53.2.2.2.2.2.2.2.2.2.2.1
theorem dL_law_2368 : decode cL_law 2368 = .ok (.iadd, 1) := dgL_53.2.2.2.2.2.2.2.2.2.2.2.1
theorem dL_law_2369 : decode cL_law 2369 = .ok (.iaload, 1) := dgL_53.2.2.2.2.2.2.2.2.2.2.2.2.1
theorem dL_law_2370 : decode cL_law 2370 = .ok (.invokevirtual 369, 3) := dgL_53.2.2.2.2.2.2.2.2.2.2.2.2.2.1
theorem dL_law_2373 : decode cL_law 2373 = .ok (.istore 6, 2) := dgL_53.2.2.2.2.2.2.2.2.2.2.2.2.2.2.1
theorem dL_law_2375 : decode cL_law 2375 = .ok (.goto 97, 3) := dgL_53.2.2.2.2.2.2.2.2.2.2.2.2.2.2.2.1
theorem dL_law_2378 : decode cL_law 2378 = .ok (.aload_n 1, 1) := dgL_53.2.2.2.2.2.2.2.2.2.2.2.2.2.2.2.2.1
theorem dL_law_2379 : decode cL_law 2379 = .ok (.aload_n 0, 1) := dgL_53.2.2.2.2.2.2.2.2.2.2.2.2.2.2.2.2.2.1
theorem dL_law_2380 : decode cL_law 2380 = .ok (.iload 4, 2) := dgL_53.2.2.2.2.2.2.2.2.2.2.2.2.2.2.2.2.2.2.1
theorem dL_law_2382 : decode cL_law 2382 = .ok (.iconst 1, 1) := dgL_53.2.2.2.2.2.2.2.2.2.2.2.2.2.2.2.2.2.2.2.1
theorem dL_law_2383 : decode cL_law 2383 = .ok (.iadd, 1) := dgL_53.2.2.2.2.2.2.2.2.2.2.2.2.2.2.2.2.2.2.2.2.1
theorem dL_law_2384 : decode cL_law 2384 = .ok (.iaload, 1) := dgL_53.2.2.2.2.2.2.2.2.2.2.2.2.2.2.2.2.2.2.2.2.2.1
theorem dL_law_2385 : decode cL_law 2385 = .ok (.aload_n 0, 1) := dgL_53.2.2.2.2.2.2.2.2.2.2.2.2.2.2.2.2.2.2.2.2.2.2.1
theorem dL_law_2386 : decode cL_law 2386 = .ok (.iload 4, 2) := dgL_53.2.2.2.2.2.2.2.2.2.2.2.2.2.2.2.2.2.2.2.2.2.2.2.1
theorem dL_law_2388 : decode cL_law 2388 = .ok (.iconst 2, 1) := dgL_53.2.2.2.2.2.2.2.2.2.2.2.2.2.2.2.2.2.2.2.2.2.2.2.2.1
theorem dL_law_2389 : decode cL_law 2389 = .ok (.iadd, 1) := dgL_53.2.2.2.2.2.2.2.2.2.2.2.2.2.2.2.2.2.2.2.2.2.2.2.2.2.1
theorem dL_law_2390 : decode cL_law 2390 = .ok (.iaload, 1) := dgL_53.2.2.2.2.2.2.2.2.2.2.2.2.2.2.2.2.2.2.2.2.2.2.2.2.2.2.1
theorem dL_law_2391 : decode cL_law 2391 = .ok (.aload_n 3, 1) := dgL_53.2.2.2.2.2.2.2.2.2.2.2.2.2.2.2.2.2.2.2.2.2.2.2.2.2.2.2.1
theorem dL_law_2392 : decode cL_law 2392 = .ok (.invokestatic 370, 3) := dgL_53.2.2.2.2.2.2.2.2.2.2.2.2.2.2.2.2.2.2.2.2.2.2.2.2.2.2.2.2.1
theorem dL_law_2395 : decode cL_law 2395 = .ok (.istore 5, 2) := dgL_53.2.2.2.2.2.2.2.2.2.2.2.2.2.2.2.2.2.2.2.2.2.2.2.2.2.2.2.2.2.1
theorem dL_law_2397 : decode cL_law 2397 = .ok (.aload_n 2, 1) := dgL_53.2.2.2.2.2.2.2.2.2.2.2.2.2.2.2.2.2.2.2.2.2.2.2.2.2.2.2.2.2.2.1
theorem dL_law_2398 : decode cL_law 2398 = .ok (.aload_n 0, 1) := dgL_53.2.2.2.2.2.2.2.2.2.2.2.2.2.2.2.2.2.2.2.2.2.2.2.2.2.2.2.2.2.2.2.1
theorem dL_law_2399 : decode cL_law 2399 = .ok (.iload 4, 2) := dgL_53.2.2.2.2.2.2.2.2.2.2.2.2.2.2.2.2.2.2.2.2.2.2.2.2.2.2.2.2.2.2.2.2.1
theorem dL_law_2401 : decode cL_law 2401 = .ok (.iconst 1, 1) := dgL_53.2.2.2.2.2.2.2.2.2.2.2.2.2.2.2.2.2.2.2.2.2.2.2.2.2.2.2.2.2.2.2.2.2.1
theorem dL_law_2402 : decode cL_law 2402 = .ok (.iadd, 1) := dgL_53.2.2.2.2.2.2.2.2.2.2.2.2.2.2.2.2.2.2.2.2.2.2.2.2.2.2.2.2.2.2.2.2.2.2.1
theorem dL_law_2403 : decode cL_law 2403 = .ok (.iaload, 1) := dgL_53.2.2.2.2.2.2.2.2.2.2.2.2.2.2.2.2.2.2.2.2.2.2.2.2.2.2.2.2.2.2.2.2.2.2.2.1
theorem dL_law_2404 : decode cL_law 2404 = .ok (.aload_n 0, 1) := dgL_53.2.2.2.2.2.2.2.2.2.2.2.2.2.2.2.2.2.2.2.2.2.2.2.2.2.2.2.2.2.2.2.2.2.2.2.2.1
theorem dL_law_2405 : decode cL_law 2405 = .ok (.iload 4, 2) := dgL_53.2.2.2.2.2.2.2.2.2.2.2.2.2.2.2.2.2.2.2.2.2.2.2.2.2.2.2.2.2.2.2.2.2.2.2.2.2.1
theorem dL_law_2407 : decode cL_law 2407 = .ok (.iconst 2, 1) := dgL_53.2.2.2.2.2.2.2.2.2.2.2.2.2.2.2.2.2.2.2.2.2.2.2.2.2.2.2.2.2.2.2.2.2.2.2.2.2.2.1
theorem dL_law_2408 : decode cL_law 2408 = .ok (.iadd, 1) := dgL_53.2.2.2.2.2.2.2.2.2.2.2.2.2.2.2.2.2.2.2.2.2.2.2.2.2.2.2.2.2.2.2.2.2.2.2.2.2.2.2
theorem dgL_54 : (decode cL_law 2409 = .ok (.iaload, 1)) ∧ (decode cL_law 2410 = .ok (.invokevirtual 372, 3)) ∧ (decode cL_law 2413 = .ok (.istore 6, 2)) ∧ (decode cL_law 2415 = .ok (.goto 57, 3)) ∧ (decode cL_law 2418 = .ok (.aload_n 1, 1)) ∧ (decode cL_law 2419 = .ok (.aload_n 0, 1)) ∧ (decode cL_law 2420 = .ok (.iload 4, 2)) ∧ (decode cL_law 2422 = .ok (.iconst 1, 1)) ∧ (decode cL_law 2423 = .ok (.iadd, 1)) ∧ (decode cL_law 2424 = .ok (.iaload, 1)) ∧ (decode cL_law 2425 = .ok (.aload_n 3, 1)) ∧ (decode cL_law 2426 = .ok (.invokestatic 373, 3)) ∧ (decode cL_law 2429 = .ok (.istore 5, 2)) ∧ (decode cL_law 2431 = .ok (.aload_n 2, 1)) ∧ (decode cL_law 2432 = .ok (.aload_n 0, 1)) ∧ (decode cL_law 2433 = .ok (.iload 4, 2)) ∧ (decode cL_law 2435 = .ok (.iconst 1, 1)) ∧ (decode cL_law 2436 = .ok (.iadd, 1)) ∧ (decode cL_law 2437 = .ok (.iaload, 1)) ∧ (decode cL_law 2438 = .ok (.invokevirtual 375, 3)) ∧ (decode cL_law 2441 = .ok (.istore 6, 2)) ∧ (decode cL_law 2443 = .ok (.goto 29, 3)) ∧ (decode cL_law 2446 = .ok (.aload_n 1, 1)) ∧ (decode cL_law 2447 = .ok (.invokevirtual 376, 3)) ∧ (decode cL_law 2450 = .ok (.pop, 1)) ∧ (decode cL_law 2451 = .ok (.aload_n 2, 1)) ∧ (decode cL_law 2452 = .ok (.invokevirtual 380, 3)) ∧ (decode cL_law 2455 = .ok (.pop, 1)) ∧ (decode cL_law 2456 = .ok (.goto 16, 3)) ∧ (decode cL_law 2459 = .ok (.aload_n 1, 1)) ∧ (decode cL_law 2460 = .ok (.invokevirtual 381, 3)) ∧ (decode cL_law 2463 = .ok (.pop2, 1)) ∧ (decode cL_law 2464 = .ok (.aload_n 2, 1)) ∧ (decode cL_law 2465 = .ok (.invokevirtual 385, 3)) ∧ (decode cL_law 2468 = .ok (.pop2, 1)) ∧ (decode cL_law 2469 = .ok (.goto 3, 3)) ∧ (decode cL_law 2472 = .ok (.iinc 4 6, 3)) ∧ (decode cL_law 2475 = .ok (.goto (-2448), 3)) ∧ (decode cL_law 2478 = .ok (.iconst 1, 1)) ∧ (decode cL_law 2479 = .ok (.ireturn, 1)) := by decide +kernel
theorem dL_law_2409 : decode cL_law 2409 = .ok (.iaload, 1) := dgL_54.1
theorem dL_law_2410 : decode cL_law 2410 = .ok (.invokevirtual 372, 3) := dgL_54.2.1
theorem dL_law_2413 : decode cL_law 2413 = .ok (.istore 6, 2) := dgL_54.2.2.1
theorem dL_law_2415 : decode cL_law 2415 = .ok (.goto 57, 3) := dgL_54.2.2.2.1
theorem dL_law_2418 : decode cL_law 2418 = .ok (.aload_n 1, 1) := dgL_54.2.2.2.2.1
theorem dL_law_2419 : decode cL_law 2419 = .ok (.aload_n 0, 1) := dgL_54.2.2.2.2.2.1
theorem dL_law_2420 : decode cL_law 2420 = .ok (.iload 4, 2) := dgL_54.2.2.2.2.2.2.1
theorem dL_law_2422 : decode cL_law 2422 = .ok (.iconst 1, 1) := dgL_54.2.2.2.2.2.2.2.1
theorem dL_law_2423 : decode cL_law 2423 = .ok (.iadd, 1) := dgL_54.2.2.2.2.2.2.2.2.1
theorem dL_law_2424 : decode cL_law 2424 = .ok (.iaload, 1) := dgL_54.2.2.2.2.2.2.2.2.2.1
theorem dL_law_2425 : decode cL_law 2425 = .ok (.aload_n 3, 1) := dgL_54.2.2.2.2.2.2.2.2.2.2.1
theorem dL_law_2426 : decode cL_law 2426 = .ok (.invokestatic 373, 3) := dgL_54.2.2.2.2.2.2.2.2.2.2.2.1
theorem dL_law_2429 : decode cL_law 2429 = .ok (.istore 5, 2) := dgL_54.2.2.2.2.2.2.2.2.2.2.2.2.1
theorem dL_law_2431 : decode cL_law 2431 = .ok (.aload_n 2, 1) := dgL_54.2.2.2.2.2.2.2.2.2.2.2.2.2.1
theorem dL_law_2432 : decode cL_law 2432 = .ok (.aload_n 0, 1) := dgL_54.2.2.2.2.2.2.2.2.2.2.2.2.2.2.1
theorem dL_law_2433 : decode cL_law 2433 = .ok (.iload 4, 2) := dgL_54.2.2.2.2.2.2.2.2.2.2.2.2.2.2.2.1
theorem dL_law_2435 : decode cL_law 2435 = .ok (.iconst 1, 1) := dgL_54.2.2.2.2.2.2.2.2.2.2.2.2.2.2.2.2.1
theorem dL_law_2436 : decode cL_law 2436 = .ok (.iadd, 1) := dgL_54.2.2.2.2.2.2.2.2.2.2.2.2.2.2.2.2.2.1
theorem dL_law_2437 : decode cL_law 2437 = .ok (.iaload, 1) := dgL_54.2.2.2.2.2.2.2.2.2.2.2.2.2.2.2.2.2.2.1
theorem dL_law_2438 : decode cL_law 2438 = .ok (.invokevirtual 375, 3) := dgL_54.2.2.2.2.2.2.2.2.2.2.2.2.2.2.2.2.2.2.2.1
theorem dL_law_2441 : decode cL_law 2441 = .ok (.istore 6, 2) := dgL_54.2.2.2.2.2.2.2.2.2.2.2.2.2.2.2.2.2.2.2.2.1
theorem dL_law_2443 : decode cL_law 2443 = .ok (.goto 29, 3) := dgL_54.2.2.2.2.2.2.2.2.2.2.2.2.2.2.2.2.2.2.2.2.2.1
theorem dL_law_2446 : decode cL_law 2446 = .ok (.aload_n 1, 1) := dgL_54.2.2.2.2.2.2.2.2.2.2.2.2.2.2.2.2.2.2.2.2.2.2.1
theorem dL_law_2447 : decode cL_law 2447 = .ok (.invokevirtual 376, 3) := dgL_54.2.2.2.2.2.2.2.2.2.2.2.2.2.2.2.2.2.2.2.2.2.2.2.1
theorem dL_law_2450 : decode cL_law 2450 = .ok (.pop, 1) := dgL_54.2.2.2.2.2.2.2.2.2.2.2.2.2.2.2.2.2.2.2.2.2.2.2.2.1
theorem dL_law_2451 : decode cL_law 2451 = .ok (.aload_n 2, 1) := dgL_54.2.2.2.2.2.2.2.2.2.2.2.2.2.2.2.2.2.2.2.2.2.2.2.2.2.1
theorem dL_law_2452 : decode cL_law 2452 = .ok (.invokevirtual 380, 3) := dgL_54.2.2.2.2.2.2.2.2.2.2.2.2.2.2.2.2.2.2.2.2.2.2.2.2.2.2.1
theorem dL_law_2455 : decode cL_law 2455 = .ok (.pop, 1) := dgL_54.2.2.2.2.2.2.2.2.2.2.2.2.2.2.2.2.2.2.2.2.2.2.2.2.2.2.2.1
theorem dL_law_2456 : decode cL_law 2456 = .ok (.goto 16, 3) := dgL_54.2.2.2.2.2.2.2.2.2.2.2.2.2.2.2.2.2.2.2.2.2.2.2.2.2.2.2.2.1
theorem dL_law_2459 : decode cL_law 2459 = .ok (.aload_n 1, 1) := dgL_54.2.2.2.2.2.2.2.2.2.2.2.2.2.2.2.2.2.2.2.2.2.2.2.2.2.2.2.2.2.1
theorem dL_law_2460 : decode cL_law 2460 = .ok (.invokevirtual 381, 3) := dgL_54.2.2.2.2.2.2.2.2.2.2.2.2.2.2.2.2.2.2.2.2.2.2.2.2.2.2.2.2.2.2.1
theorem dL_law_2463 : decode cL_law 2463 = .ok (.pop2, 1) := dgL_54.2.2.2.2.2.2.2.2.2.2.2.2.2.2.2.2.2.2.2.2.2.2.2.2.2.2.2.2.2.2.2.1
theorem dL_law_2464 : decode cL_law 2464 = .ok (.aload_n 2, 1) := dgL_54.2.2.2.2.2.2.2.2.2.2.2.2.2.2.2.2.2.2.2.2.2.2.2.2.2.2.2.2.2.2.2.2.1
theorem dL_law_2465 : decode cL_law 2465 = .ok (.invokevirtual 385, 3) := dgL_54.2.2.2.2.2.2.2.2.2.2.2.2.2.2.2.2.2.2.2.2.2.2.2.2.2.2.2.2.2.2.2.2.2.1
theorem dL_law_2468 : decode cL_law 2468 = .ok (.pop2, 1) := dgL_54.2.2.2.2.2.2.2.2.2.2.2.2.2.2.2.2.2.2.2.2.2.2.2.2.2.2.2.2.2.2.2.2.2.2.1
theorem dL_law_2469 : decode cL_law 2469 = .ok (.goto 3, 3) := dgL_54.2.2.2.2.2.2.2.2.2.2.2.2.2.2.2.2.2.2.2.2.2.2.2.2.2.2.2.2.2.2.2.2.2.2.2.1
theorem dL_law_2472 : decode cL_law 2472 = .ok (.iinc 4 6, 3) := dgL_54.2.2.2.2.2.2.2.2.2.2.2.2.2.2.2.2.2.2.2.2.2.2.2.2.2.2.2.2.2.2.2.2.2.2.2.2.1
theorem dL_law_2475 : decode cL_law 2475 = .ok (.goto (-2448), 3) := dgL_54.2.2.2.2.2.2.2.2.2.2.2.2.2.2.2.2.2.2.2.2.2.2.2.2.2.2.2.2.2.2.2.2.2.2.2.2.2.1
theorem dL_law_2478 : decode cL_law 2478 = .ok (.iconst 1, 1) := dgL_54.2.2.2.2.2.2.2.2.2.2.2.2.2.2.2.2.2.2.2.2.2.2.2.2.2.2.2.2.2.2.2.2.2.2.2.2.2.2.1
theorem dL_law_2479 : decode cL_law 2479 = .ok (.ireturn, 1) := dgL_54.2.2.2.2.2.2.2.2.2.2.2.2.2.2.2.2.2.2.2.2.2.2.2.2.2.2.2.2.2.2.2.2.2.2.2.2.2.2.2
