theorem dX7_init_0 : decode cX7_init 0 = .ok (.aload_n 0, 1) := by decide +kernel
theorem dX7_init_1 : decode cX7_init 1 = .ok (.invokespecial 1, 3) := by decide +kernel
theorem dX7_init_4 : decode cX7_init 4 = .ok (.aload_n 0, 1) := by decide +kernel
theorem dX7_init_5 : decode cX7_init 5 = .ok (.bipush 6, 2) := by decide +kernel
theorem dX7_init_7 : decode cX7_init 7 = .ok (.anewarray 7, 3) := by decide +kernel
theorem dX7_init_10 : decode cX7_init 10 = .ok (.dup, 1) := by decide +kernel
theorem dX7_init_11 : decode cX7_init 11 = .ok (.iconst 0, 1) := by decide +kernel
theorem dX7_init_12 : decode cX7_init 12 = .ok (.iconst 0, 1) := by decide +kernel
theorem dX7_init_13 : decode cX7_init 13 = .ok (.newarray .int, 2) := by decide +kernel
theorem dX7_init_15 : decode cX7_init 15 = .ok (.aastore, 1) := by decide +kernel
theorem dX7_init_16 : decode cX7_init 16 = .ok (.dup, 1) := by decide +kernel
theorem dX7_init_17 : decode cX7_init 17 = .ok (.iconst 1, 1) := by decide +kernel
theorem dX7_init_18 : decode cX7_init 18 = .ok (.iconst 0, 1) := by decide +kernel
theorem dX7_init_19 : decode cX7_init 19 = .ok (.newarray .int, 2) := by decide +kernel
theorem dX7_init_21 : decode cX7_init 21 = .ok (.aastore, 1) := by decide +kernel
theorem dX7_init_22 : decode cX7_init 22 = .ok (.dup, 1) := by decide +kernel
theorem dX7_init_23 : decode cX7_init 23 = .ok (.iconst 2, 1) := by decide +kernel
theorem dX7_init_24 : decode cX7_init 24 = .ok (.iconst 0, 1) := by decide +kernel
theorem dX7_init_25 : decode cX7_init 25 = .ok (.newarray .int, 2) := by decide +kernel
theorem dX7_init_27 : decode cX7_init 27 = .ok (.aastore, 1) := by decide +kernel
theorem dX7_init_28 : decode cX7_init 28 = .ok (.dup, 1) := by decide +kernel
theorem dX7_init_29 : decode cX7_init 29 = .ok (.iconst 3, 1) := by decide +kernel
theorem dX7_init_30 : decode cX7_init 30 = .ok (.iconst 0, 1) := by decide +kernel
theorem dX7_init_31 : decode cX7_init 31 = .ok (.newarray .int, 2) := by decide +kernel
theorem dX7_init_33 : decode cX7_init 33 = .ok (.aastore, 1) := by decide +kernel
theorem dX7_init_34 : decode cX7_init 34 = .ok (.dup, 1) := by decide +kernel
theorem dX7_init_35 : decode cX7_init 35 = .ok (.iconst 4, 1) := by decide +kernel
theorem dX7_init_36 : decode cX7_init 36 = .ok (.iconst 0, 1) := by decide +kernel
theorem dX7_init_37 : decode cX7_init 37 = .ok (.newarray .int, 2) := by decide +kernel
theorem dX7_init_39 : decode cX7_init 39 = .ok (.aastore, 1) := by decide +kernel
theorem dX7_init_40 : decode cX7_init 40 = .ok (.dup, 1) := by decide +kernel
theorem dX7_init_41 : decode cX7_init 41 = .ok (.iconst 5, 1) := by decide +kernel
theorem dX7_init_42 : decode cX7_init 42 = .ok (.iconst 0, 1) := by decide +kernel
theorem dX7_init_43 : decode cX7_init 43 = .ok (.newarray .int, 2) := by decide +kernel
theorem dX7_init_45 : decode cX7_init 45 = .ok (.aastore, 1) := by decide +kernel
theorem dX7_init_46 : decode cX7_init 46 = .ok (.putfield 9, 3) := by decide +kernel
theorem dX7_init_49 : decode cX7_init 49 = .ok (.aload_n 0, 1) := by decide +kernel
theorem dX7_init_50 : decode cX7_init 50 = .ok (.new 15, 3) := by decide +kernel
theorem dX7_init_53 : decode cX7_init 53 = .ok (.dup, 1) := by decide +kernel
theorem dX7_init_54 : decode cX7_init 54 = .ok (.invokespecial 17, 3) := by decide +kernel
theorem dX7_init_57 : decode cX7_init 57 = .ok (.putfield 18, 3) := by decide +kernel
theorem dX7_init_60 : decode cX7_init 60 = .ok (.return_, 1) := by decide +kernel
theorem dX7_isOf_0 : decode cX7_isOf 0 = .ok (.iload_n 0, 1) := by decide +kernel
theorem dX7_isOf_1 : decode cX7_isOf 1 = .ok (.iload_n 1, 1) := by decide +kernel
theorem dX7_isOf_2 : decode cX7_isOf 2 = .ok (.if_icmp .lt 12, 3) := by decide +kernel
theorem dX7_isOf_5 : decode cX7_isOf 5 = .ok (.iload_n 0, 1) := by decide +kernel
theorem dX7_isOf_6 : decode cX7_isOf 6 = .ok (.iload_n 2, 1) := by decide +kernel
theorem dX7_isOf_7 : decode cX7_isOf 7 = .ok (.if_icmp .gt 7, 3) := by decide +kernel
theorem dX7_isOf_10 : decode cX7_isOf 10 = .ok (.iconst 1, 1) := by decide +kernel
theorem dX7_isOf_11 : decode cX7_isOf 11 = .ok (.goto 4, 3) := by decide +kernel
theorem dX7_isOf_14 : decode cX7_isOf 14 = .ok (.iconst 0, 1) := by decide +kernel
theorem dX7_isOf_15 : decode cX7_isOf 15 = .ok (.ireturn, 1) := by decide +kernel
theorem dX7_one_0 : decode cX7_one 0 = .ok (.iload_n 0, 1) := by decide +kernel
theorem dX7_one_1 : decode cX7_one 1 = .ok (.ifCond .eq 7, 3) := by decide +kernel
theorem dX7_one_4 : decode cX7_one 4 = .ok (.iconst 1, 1) := by decide +kernel
theorem dX7_one_5 : decode cX7_one 5 = .ok (.goto 4, 3) := by decide +kernel
theorem dX7_one_8 : decode cX7_one 8 = .ok (.iconst 0, 1) := by decide +kernel
theorem dX7_one_9 : decode cX7_one 9 = .ok (.ireturn, 1) := by decide +kernel
theorem dX7_isSign_0 : decode cX7_isSign 0 = .ok (.iload_n 0, 1) := by decide +kernel
theorem dX7_isSign_1 : decode cX7_isSign 1 = .ok (.iconst 0, 1) := by decide +kernel
theorem dX7_isSign_2 : decode cX7_isSign 2 = .ok (.sipush 255, 3) := by decide +kernel
theorem dX7_isSign_5 : decode cX7_isSign 5 = .ok (.invokestatic 22, 3) := by decide +kernel
theorem dX7_isSign_8 : decode cX7_isSign 8 = .ok (.ireturn, 1) := by decide +kernel
theorem dX7_isKind_0 : decode cX7_isKind 0 = .ok (.iload_n 1, 1) := by decide +kernel
theorem dX7_isKind_1 : decode cX7_isKind 1 = .ok (.iconst 2, 1) := by decide +kernel
theorem dX7_isKind_2 : decode cX7_isKind 2 = .ok (.if_icmp .ne 25, 3) := by decide +kernel
theorem dX7_isKind_5 : decode cX7_isKind 5 = .ok (.iload_n 0, 1) := by decide +kernel
theorem dX7_isKind_6 : decode cX7_isKind 6 = .ok (.iconst 0, 1) := by decide +kernel
theorem dX7_isKind_7 : decode cX7_isKind 7 = .ok (.invokestatic 26, 3) := by decide +kernel
theorem dX7_isKind_10 : decode cX7_isKind 10 = .ok (.ifCond .ne 11, 3) := by decide +kernel
theorem dX7_isKind_13 : decode cX7_isKind 13 = .ok (.iload_n 0, 1) := by decide +kernel
theorem dX7_isKind_14 : decode cX7_isKind 14 = .ok (.iconst 1, 1) := by decide +kernel
theorem dX7_isKind_15 : decode cX7_isKind 15 = .ok (.invokestatic 26, 3) := by decide +kernel
theorem dX7_isKind_18 : decode cX7_isKind 18 = .ok (.ifCond .eq 7, 3) := by decide +kernel
theorem dX7_isKind_21 : decode cX7_isKind 21 = .ok (.iconst 1, 1) := by decide +kernel
theorem dX7_isKind_22 : decode cX7_isKind 22 = .ok (.goto 4, 3) := by decide +kernel
theorem dX7_isKind_25 : decode cX7_isKind 25 = .ok (.iconst 0, 1) := by decide +kernel
theorem dX7_isKind_26 : decode cX7_isKind 26 = .ok (.ireturn, 1) := by decide +kernel
theorem dX7_isKind_27 : decode cX7_isKind 27 = .ok (.iconst 0, 1) := by decide +kernel
theorem dX7_isKind_28 : decode cX7_isKind 28 = .ok (.istore_n 2, 1) := by decide +kernel
theorem dX7_isKind_29 : decode cX7_isKind 29 = .ok (.iload_n 2, 1) := by decide +kernel
theorem dX7_isKind_30 : decode cX7_isKind 30 = .ok (.getstatic 30, 3) := by decide +kernel
theorem dX7_isKind_33 : decode cX7_isKind 33 = .ok (.iload_n 1, 1) := by decide +kernel
theorem dX7_isKind_34 : decode cX7_isKind 34 = .ok (.aaload, 1) := by decide +kernel
theorem dX7_isKind_35 : decode cX7_isKind 35 = .ok (.arraylength, 1) := by decide +kernel
theorem dX7_isKind_36 : decode cX7_isKind 36 = .ok (.if_icmp .ge 34, 3) := by decide +kernel
theorem dX7_isKind_39 : decode cX7_isKind 39 = .ok (.iload_n 0, 1) := by decide +kernel
theorem dX7_isKind_40 : decode cX7_isKind 40 = .ok (.getstatic 30, 3) := by decide +kernel
theorem dX7_isKind_43 : decode cX7_isKind 43 = .ok (.iload_n 1, 1) := by decide +kernel
theorem dX7_isKind_44 : decode cX7_isKind 44 = .ok (.aaload, 1) := by decide +kernel
theorem dX7_isKind_45 : decode cX7_isKind 45 = .ok (.iload_n 2, 1) := by decide +kernel
theorem dX7_isKind_46 : decode cX7_isKind 46 = .ok (.iaload, 1) := by decide +kernel
theorem dX7_isKind_47 : decode cX7_isKind 47 = .ok (.getstatic 30, 3) := by decide +kernel
theorem dX7_isKind_50 : decode cX7_isKind 50 = .ok (.iload_n 1, 1) := by decide +kernel
theorem dX7_isKind_51 : decode cX7_isKind 51 = .ok (.aaload, 1) := by decide +kernel
theorem dX7_isKind_52 : decode cX7_isKind 52 = .ok (.iload_n 2, 1) := by decide +kernel
theorem dX7_isKind_53 : decode cX7_isKind 53 = .ok (.iconst 1, 1) := by decide +kernel
theorem dX7_isKind_54 : decode cX7_isKind 54 = .ok (.iadd, 1) := by decide +kernel
theorem dX7_isKind_55 : decode cX7_isKind 55 = .ok (.iaload, 1) := by decide +kernel
theorem dX7_isKind_56 : decode cX7_isKind 56 = .ok (.invokestatic 22, 3) := by decide +kernel
theorem dX7_isKind_59 : decode cX7_isKind 59 = .ok (.ifCond .eq 5, 3) := by decide +kernel
theorem dX7_isKind_62 : decode cX7_isKind 62 = .ok (.iconst 1, 1) := by decide +kernel
theorem dX7_isKind_63 : decode cX7_isKind 63 = .ok (.ireturn, 1) := by decide +kernel
theorem dX7_isKind_64 : decode cX7_isKind 64 = .ok (.iinc 2 2, 3) := by decide +kernel
theorem dX7_isKind_67 : decode cX7_isKind 67 = .ok (.goto (-38), 3) := by decide +kernel
theorem dX7_isKind_70 : decode cX7_isKind 70 = .ok (.iconst 0, 1) := by decide +kernel
theorem dX7_isKind_71 : decode cX7_isKind 71 = .ok (.ireturn, 1) := by decide +kernel
theorem dX7_upperOf_0 : decode cX7_upperOf 0 = .ok (.iload_n 0, 1) := by decide +kernel
theorem dX7_upperOf_1 : decode cX7_upperOf 1 = .ok (.bipush 97, 2) := by decide +kernel
theorem dX7_upperOf_3 : decode cX7_upperOf 3 = .ok (.bipush 122, 2) := by decide +kernel
theorem dX7_upperOf_5 : decode cX7_upperOf 5 = .ok (.invokestatic 22, 3) := by decide +kernel
theorem dX7_upperOf_8 : decode cX7_upperOf 8 = .ok (.ifCond .ne 29, 3) := by decide +kernel
theorem dX7_upperOf_11 : decode cX7_upperOf 11 = .ok (.iload_n 0, 1) := by decide +kernel
theorem dX7_upperOf_12 : decode cX7_upperOf 12 = .ok (.sipush 224, 3) := by decide +kernel
theorem dX7_upperOf_15 : decode cX7_upperOf 15 = .ok (.sipush 246, 3) := by decide +kernel
theorem dX7_upperOf_18 : decode cX7_upperOf 18 = .ok (.invokestatic 22, 3) := by decide +kernel
theorem dX7_upperOf_21 : decode cX7_upperOf 21 = .ok (.ifCond .ne 16, 3) := by decide +kernel
theorem dX7_upperOf_24 : decode cX7_upperOf 24 = .ok (.iload_n 0, 1) := by decide +kernel
theorem dX7_upperOf_25 : decode cX7_upperOf 25 = .ok (.sipush 248, 3) := by decide +kernel
theorem dX7_upperOf_28 : decode cX7_upperOf 28 = .ok (.sipush 254, 3) := by decide +kernel
theorem dX7_upperOf_31 : decode cX7_upperOf 31 = .ok (.invokestatic 22, 3) := by decide +kernel
theorem dX7_upperOf_34 : decode cX7_upperOf 34 = .ok (.ifCond .eq 8, 3) := by decide +kernel
theorem dX7_upperOf_37 : decode cX7_upperOf 37 = .ok (.iload_n 0, 1) := by decide +kernel
theorem dX7_upperOf_38 : decode cX7_upperOf 38 = .ok (.bipush 32, 2) := by decide +kernel
theorem dX7_upperOf_40 : decode cX7_upperOf 40 = .ok (.isub, 1) := by decide +kernel
theorem dX7_upperOf_41 : decode cX7_upperOf 41 = .ok (.ireturn, 1) := by decide +kernel
theorem dX7_upperOf_42 : decode cX7_upperOf 42 = .ok (.iload_n 0, 1) := by decide +kernel
theorem dX7_upperOf_43 : decode cX7_upperOf 43 = .ok (.sipush 181, 3) := by decide +kernel
theorem dX7_upperOf_46 : decode cX7_upperOf 46 = .ok (.if_icmp .ne 9, 3) := by decide +kernel
theorem dX7_upperOf_49 : decode cX7_upperOf 49 = .ok (.sipush 924, 3) := by decide +kernel
theorem dX7_upperOf_52 : decode cX7_upperOf 52 = .ok (.goto 17, 3) := by decide +kernel
theorem dX7_upperOf_55 : decode cX7_upperOf 55 = .ok (.iload_n 0, 1) := by decide +kernel
theorem dX7_upperOf_56 : decode cX7_upperOf 56 = .ok (.sipush 255, 3) := by decide +kernel
theorem dX7_upperOf_59 : decode cX7_upperOf 59 = .ok (.if_icmp .ne 9, 3) := by decide +kernel
theorem dX7_upperOf_62 : decode cX7_upperOf 62 = .ok (.sipush 376, 3) := by decide +kernel
theorem dX7_upperOf_65 : decode cX7_upperOf 65 = .ok (.goto 4, 3) := by decide +kernel
theorem dX7_upperOf_68 : decode cX7_upperOf 68 = .ok (.iload_n 0, 1) := by decide +kernel
theorem dX7_upperOf_69 : decode cX7_upperOf 69 = .ok (.ireturn, 1) := by decide +kernel
theorem dX7_lowerOf_0 : decode cX7_lowerOf 0 = .ok (.iload_n 0, 1) := by decide +kernel
theorem dX7_lowerOf_1 : decode cX7_lowerOf 1 = .ok (.iconst 4, 1) := by decide +kernel
theorem dX7_lowerOf_2 : decode cX7_lowerOf 2 = .ok (.invokestatic 26, 3) := by decide +kernel
theorem dX7_lowerOf_5 : decode cX7_lowerOf 5 = .ok (.ifCond .eq 10, 3) := by decide +kernel
theorem dX7_lowerOf_8 : decode cX7_lowerOf 8 = .ok (.iload_n 0, 1) := by decide +kernel
theorem dX7_lowerOf_9 : decode cX7_lowerOf 9 = .ok (.bipush 32, 2) := by decide +kernel
theorem dX7_lowerOf_11 : decode cX7_lowerOf 11 = .ok (.iadd, 1) := by decide +kernel
theorem dX7_lowerOf_12 : decode cX7_lowerOf 12 = .ok (.goto 4, 3) := by decide +kernel
theorem dX7_lowerOf_15 : decode cX7_lowerOf 15 = .ok (.iload_n 0, 1) := by decide +kernel
theorem dX7_lowerOf_16 : decode cX7_lowerOf 16 = .ok (.ireturn, 1) := by decide +kernel
theorem dX7_valueOf_0 : decode cX7_valueOf 0 = .ok (.iload_n 0, 1) := by decide +kernel
theorem dX7_valueOf_1 : decode cX7_valueOf 1 = .ok (.bipush 48, 2) := by decide +kernel
theorem dX7_valueOf_3 : decode cX7_valueOf 3 = .ok (.bipush 57, 2) := by decide +kernel
theorem dX7_valueOf_5 : decode cX7_valueOf 5 = .ok (.invokestatic 22, 3) := by decide +kernel
theorem dX7_valueOf_8 : decode cX7_valueOf 8 = .ok (.ifCond .eq 8, 3) := by decide +kernel
theorem dX7_valueOf_11 : decode cX7_valueOf 11 = .ok (.iload_n 0, 1) := by decide +kernel
theorem dX7_valueOf_12 : decode cX7_valueOf 12 = .ok (.bipush 48, 2) := by decide +kernel
theorem dX7_valueOf_14 : decode cX7_valueOf 14 = .ok (.isub, 1) := by decide +kernel
theorem dX7_valueOf_15 : decode cX7_valueOf 15 = .ok (.ireturn, 1) := by decide +kernel
theorem dX7_valueOf_16 : decode cX7_valueOf 16 = .ok (.iload_n 0, 1) := by decide +kernel
theorem dX7_valueOf_17 : decode cX7_valueOf 17 = .ok (.bipush 65, 2) := by decide +kernel
theorem dX7_valueOf_19 : decode cX7_valueOf 19 = .ok (.bipush 90, 2) := by decide +kernel
theorem dX7_valueOf_21 : decode cX7_valueOf 21 = .ok (.invokestatic 22, 3) := by decide +kernel
theorem dX7_valueOf_24 : decode cX7_valueOf 24 = .ok (.ifCond .eq 8, 3) := by decide +kernel
theorem dX7_valueOf_27 : decode cX7_valueOf 27 = .ok (.iload_n 0, 1) := by decide +kernel
theorem dX7_valueOf_28 : decode cX7_valueOf 28 = .ok (.bipush 55, 2) := by decide +kernel
theorem dX7_valueOf_30 : decode cX7_valueOf 30 = .ok (.isub, 1) := by decide +kernel
theorem dX7_valueOf_31 : decode cX7_valueOf 31 = .ok (.ireturn, 1) := by decide +kernel
theorem dX7_valueOf_32 : decode cX7_valueOf 32 = .ok (.iload_n 0, 1) := by decide +kernel
theorem dX7_valueOf_33 : decode cX7_valueOf 33 = .ok (.bipush 97, 2) := by decide +kernel
theorem dX7_valueOf_35 : decode cX7_valueOf 35 = .ok (.bipush 122, 2) := by decide +kernel
theorem dX7_valueOf_37 : decode cX7_valueOf 37 = .ok (.invokestatic 22, 3) := by decide +kernel
theorem dX7_valueOf_40 : decode cX7_valueOf 40 = .ok (.ifCond .eq 8, 3) := by decide +kernel
theorem dX7_valueOf_43 : decode cX7_valueOf 43 = .ok (.iload_n 0, 1) := by decide +kernel
theorem dX7_valueOf_44 : decode cX7_valueOf 44 = .ok (.bipush 87, 2) := by decide +kernel
theorem dX7_valueOf_46 : decode cX7_valueOf 46 = .ok (.isub, 1) := by decide +kernel
theorem dX7_valueOf_47 : decode cX7_valueOf 47 = .ok (.ireturn, 1) := by decide +kernel
theorem dX7_valueOf_48 : decode cX7_valueOf 48 = .ok (.iload_n 0, 1) := by decide +kernel
theorem dX7_valueOf_49 : decode cX7_valueOf 49 = .ok (.sipush 178, 3) := by decide +kernel
theorem dX7_valueOf_52 : decode cX7_valueOf 52 = .ok (.sipush 179, 3) := by decide +kernel
theorem dX7_valueOf_55 : decode cX7_valueOf 55 = .ok (.invokestatic 22, 3) := by decide +kernel
theorem dX7_valueOf_58 : decode cX7_valueOf 58 = .ok (.ifCond .eq 9, 3) := by decide +kernel
theorem dX7_valueOf_61 : decode cX7_valueOf 61 = .ok (.iload_n 0, 1) := by decide +kernel
theorem dX7_valueOf_62 : decode cX7_valueOf 62 = .ok (.sipush 176, 3) := by decide +kernel
theorem dX7_valueOf_65 : decode cX7_valueOf 65 = .ok (.isub, 1) := by decide +kernel
theorem dX7_valueOf_66 : decode cX7_valueOf 66 = .ok (.ireturn, 1) := by decide +kernel
theorem dX7_valueOf_67 : decode cX7_valueOf 67 = .ok (.iload_n 0, 1) := by decide +kernel
theorem dX7_valueOf_68 : decode cX7_valueOf 68 = .ok (.sipush 185, 3) := by decide +kernel
theorem dX7_valueOf_71 : decode cX7_valueOf 71 = .ok (.if_icmp .ne 7, 3) := by decide +kernel
theorem dX7_valueOf_74 : decode cX7_valueOf 74 = .ok (.iconst 1, 1) := by decide +kernel
theorem dX7_valueOf_75 : decode cX7_valueOf 75 = .ok (.goto 22, 3) := by decide +kernel
theorem dX7_valueOf_78 : decode cX7_valueOf 78 = .ok (.iload_n 0, 1) := by decide +kernel
theorem dX7_valueOf_79 : decode cX7_valueOf 79 = .ok (.sipush 188, 3) := by decide +kernel
theorem dX7_valueOf_82 : decode cX7_valueOf 82 = .ok (.sipush 190, 3) := by decide +kernel
theorem dX7_valueOf_85 : decode cX7_valueOf 85 = .ok (.invokestatic 22, 3) := by decide +kernel
theorem dX7_valueOf_88 : decode cX7_valueOf 88 = .ok (.ifCond .eq 8, 3) := by decide +kernel
theorem dX7_valueOf_91 : decode cX7_valueOf 91 = .ok (.bipush (-2), 2) := by decide +kernel
theorem dX7_valueOf_93 : decode cX7_valueOf 93 = .ok (.goto 4, 3) := by decide +kernel
theorem dX7_valueOf_96 : decode cX7_valueOf 96 = .ok (.iconst (-1), 1) := by decide +kernel
theorem dX7_valueOf_97 : decode cX7_valueOf 97 = .ok (.ireturn, 1) := by decide +kernel
theorem dX7_isRadix_0 : decode cX7_isRadix 0 = .ok (.iload_n 0, 1) := by decide +kernel
theorem dX7_isRadix_1 : decode cX7_isRadix 1 = .ok (.iconst 2, 1) := by decide +kernel
theorem dX7_isRadix_2 : decode cX7_isRadix 2 = .ok (.bipush 36, 2) := by decide +kernel
theorem dX7_isRadix_4 : decode cX7_isRadix 4 = .ok (.invokestatic 22, 3) := by decide +kernel
theorem dX7_isRadix_7 : decode cX7_isRadix 7 = .ok (.ireturn, 1) := by decide +kernel
theorem dX7_numberOf_0 : decode cX7_numberOf 0 = .ok (.iload_n 0, 1) := by decide +kernel
theorem dX7_numberOf_1 : decode cX7_numberOf 1 = .ok (.sipush 128, 3) := by decide +kernel
theorem dX7_numberOf_4 : decode cX7_numberOf 4 = .ok (.if_icmp .ge 10, 3) := by decide +kernel
theorem dX7_numberOf_7 : decode cX7_numberOf 7 = .ok (.iload_n 0, 1) := by decide +kernel
theorem dX7_numberOf_8 : decode cX7_numberOf 8 = .ok (.invokestatic 33, 3) := by decide +kernel
theorem dX7_numberOf_11 : decode cX7_numberOf 11 = .ok (.goto 4, 3) := by decide +kernel
theorem dX7_numberOf_14 : decode cX7_numberOf 14 = .ok (.iconst (-1), 1) := by decide +kernel
theorem dX7_numberOf_15 : decode cX7_numberOf 15 = .ok (.istore_n 2, 1) := by decide +kernel
theorem dX7_numberOf_16 : decode cX7_numberOf 16 = .ok (.iload_n 1, 1) := by decide +kernel
theorem dX7_numberOf_17 : decode cX7_numberOf 17 = .ok (.invokestatic 37, 3) := by decide +kernel
theorem dX7_numberOf_20 : decode cX7_numberOf 20 = .ok (.ifCond .eq 12, 3) := by decide +kernel
theorem dX7_numberOf_23 : decode cX7_numberOf 23 = .ok (.iload_n 2, 1) := by decide +kernel
theorem dX7_numberOf_24 : decode cX7_numberOf 24 = .ok (.iload_n 1, 1) := by decide +kernel
theorem dX7_numberOf_25 : decode cX7_numberOf 25 = .ok (.if_icmp .ge 7, 3) := by decide +kernel
theorem dX7_numberOf_28 : decode cX7_numberOf 28 = .ok (.iload_n 2, 1) := by decide +kernel
theorem dX7_numberOf_29 : decode cX7_numberOf 29 = .ok (.goto 4, 3) := by decide +kernel
theorem dX7_numberOf_32 : decode cX7_numberOf 32 = .ok (.iconst (-1), 1) := by decide +kernel
theorem dX7_numberOf_33 : decode cX7_numberOf 33 = .ok (.ireturn, 1) := by decide +kernel
theorem dX7_digitOf_0 : decode cX7_digitOf 0 = .ok (.iload_n 1, 1) := by decide +kernel
theorem dX7_digitOf_1 : decode cX7_digitOf 1 = .ok (.invokestatic 37, 3) := by decide +kernel
theorem dX7_digitOf_4 : decode cX7_digitOf 4 = .ok (.ifCond .eq 14, 3) := by decide +kernel
theorem dX7_digitOf_7 : decode cX7_digitOf 7 = .ok (.iload_n 0, 1) := by decide +kernel
theorem dX7_digitOf_8 : decode cX7_digitOf 8 = .ok (.iconst 0, 1) := by decide +kernel
theorem dX7_digitOf_9 : decode cX7_digitOf 9 = .ok (.iload_n 1, 1) := by decide +kernel
theorem dX7_digitOf_10 : decode cX7_digitOf 10 = .ok (.iconst 1, 1) := by decide +kernel
theorem dX7_digitOf_11 : decode cX7_digitOf 11 = .ok (.isub, 1) := by decide +kernel
theorem dX7_digitOf_12 : decode cX7_digitOf 12 = .ok (.invokestatic 22, 3) := by decide +kernel
theorem dX7_digitOf_15 : decode cX7_digitOf 15 = .ok (.ifCond .ne 7, 3) := by decide +kernel
theorem dX7_digitOf_18 : decode cX7_digitOf 18 = .ok (.iconst 0, 1) := by decide +kernel
theorem dX7_digitOf_19 : decode cX7_digitOf 19 = .ok (.goto 18, 3) := by decide +kernel
theorem dX7_digitOf_22 : decode cX7_digitOf 22 = .ok (.iload_n 0, 1) := by decide +kernel
theorem dX7_digitOf_23 : decode cX7_digitOf 23 = .ok (.iload_n 0, 1) := by decide +kernel
theorem dX7_digitOf_24 : decode cX7_digitOf 24 = .ok (.bipush 10, 2) := by decide +kernel
theorem dX7_digitOf_26 : decode cX7_digitOf 26 = .ok (.if_icmp .ge 8, 3) := by decide +kernel
theorem dX7_digitOf_29 : decode cX7_digitOf 29 = .ok (.bipush 48, 2) := by decide +kernel
theorem dX7_digitOf_31 : decode cX7_digitOf 31 = .ok (.goto 5, 3) := by decide +kernel
theorem dX7_digitOf_34 : decode cX7_digitOf 34 = .ok (.bipush 87, 2) := by decide +kernel
theorem dX7_digitOf_36 : decode cX7_digitOf 36 = .ok (.iadd, 1) := by decide +kernel
theorem dX7_digitOf_37 : decode cX7_digitOf 37 = .ok (.ireturn, 1) := by decide +kernel
theorem dX7_thrown_0 : decode cX7_thrown 0 = .ok (.aload_n 0, 1) := by decide +kernel
theorem dX7_thrown_1 : decode cX7_thrown 1 = .ok (.getfield 41, 3) := by decide +kernel
theorem dX7_thrown_4 : decode cX7_thrown 4 = .ok (.ireturn, 1) := by decide +kernel
theorem dX7_refuse_0 : decode cX7_refuse 0 = .ok (.iload_n 1, 1) := by decide +kernel
theorem dX7_refuse_1 : decode cX7_refuse 1 = .ok (.ifCond .eq 15, 3) := by decide +kernel
theorem dX7_refuse_4 : decode cX7_refuse 4 = .ok (.aload_n 0, 1) := by decide +kernel
theorem dX7_refuse_5 : decode cX7_refuse 5 = .ok (.getfield 41, 3) := by decide +kernel
theorem dX7_refuse_8 : decode cX7_refuse 8 = .ok (.ifCond .ne 8, 3) := by decide +kernel
theorem dX7_refuse_11 : decode cX7_refuse 11 = .ok (.aload_n 0, 1) := by decide +kernel
theorem dX7_refuse_12 : decode cX7_refuse 12 = .ok (.iload_n 2, 1) := by decide +kernel
theorem dX7_refuse_13 : decode cX7_refuse 13 = .ok (.putfield 41, 3) := by decide +kernel
theorem dX7_refuse_16 : decode cX7_refuse 16 = .ok (.aload_n 0, 1) := by decide +kernel
theorem dX7_refuse_17 : decode cX7_refuse 17 = .ok (.getfield 41, 3) := by decide +kernel
theorem dX7_refuse_20 : decode cX7_refuse 20 = .ok (.ifCond .le 7, 3) := by decide +kernel
theorem dX7_refuse_23 : decode cX7_refuse 23 = .ok (.iconst 1, 1) := by decide +kernel
theorem dX7_refuse_24 : decode cX7_refuse 24 = .ok (.goto 4, 3) := by decide +kernel
theorem dX7_refuse_27 : decode cX7_refuse 27 = .ok (.iconst 0, 1) := by decide +kernel
theorem dX7_refuse_28 : decode cX7_refuse 28 = .ok (.ireturn, 1) := by decide +kernel
theorem dX7_start_0 : decode cX7_start 0 = .ok (.aload_n 0, 1) := by decide +kernel
theorem dX7_start_1 : decode cX7_start 1 = .ok (.iconst 0, 1) := by decide +kernel
theorem dX7_start_2 : decode cX7_start 2 = .ok (.putfield 41, 3) := by decide +kernel
theorem dX7_start_5 : decode cX7_start 5 = .ok (.aload_n 0, 1) := by decide +kernel
theorem dX7_start_6 : decode cX7_start 6 = .ok (.iload_n 1, 1) := by decide +kernel
theorem dX7_start_7 : decode cX7_start 7 = .ok (.iload_n 2, 1) := by decide +kernel
theorem dX7_start_8 : decode cX7_start 8 = .ok (.invokevirtual 45, 3) := by decide +kernel
theorem dX7_start_11 : decode cX7_start 11 = .ok (.ireturn, 1) := by decide +kernel
theorem dX7_isNoRow_0 : decode cX7_isNoRow 0 = .ok (.iload_n 0, 1) := by decide +kernel
theorem dX7_isNoRow_1 : decode cX7_isNoRow 1 = .ok (.iconst 0, 1) := by decide +kernel
theorem dX7_isNoRow_2 : decode cX7_isNoRow 2 = .ok (.iconst 3, 1) := by decide +kernel
theorem dX7_isNoRow_3 : decode cX7_isNoRow 3 = .ok (.invokestatic 22, 3) := by decide +kernel
theorem dX7_isNoRow_6 : decode cX7_isNoRow 6 = .ok (.ifCond .ne 7, 3) := by decide +kernel
theorem dX7_isNoRow_9 : decode cX7_isNoRow 9 = .ok (.iconst 1, 1) := by decide +kernel
theorem dX7_isNoRow_10 : decode cX7_isNoRow 10 = .ok (.goto 4, 3) := by decide +kernel
theorem dX7_isNoRow_13 : decode cX7_isNoRow 13 = .ok (.iconst 0, 1) := by decide +kernel
theorem dX7_isNoRow_14 : decode cX7_isNoRow 14 = .ok (.ireturn, 1) := by decide +kernel
theorem dX7_isNoTrack_0 : decode cX7_isNoTrack 0 = .ok (.iload_n 0, 1) := by decide +kernel
theorem dX7_isNoTrack_1 : decode cX7_isNoTrack 1 = .ok (.iconst 0, 1) := by decide +kernel
theorem dX7_isNoTrack_2 : decode cX7_isNoTrack 2 = .ok (.iconst 1, 1) := by decide +kernel
theorem dX7_isNoTrack_3 : decode cX7_isNoTrack 3 = .ok (.invokestatic 22, 3) := by decide +kernel
theorem dX7_isNoTrack_6 : decode cX7_isNoTrack 6 = .ok (.ifCond .ne 7, 3) := by decide +kernel
theorem dX7_isNoTrack_9 : decode cX7_isNoTrack 9 = .ok (.iconst 1, 1) := by decide +kernel
theorem dX7_isNoTrack_10 : decode cX7_isNoTrack 10 = .ok (.goto 4, 3) := by decide +kernel
theorem dX7_isNoTrack_13 : decode cX7_isNoTrack 13 = .ok (.iconst 0, 1) := by decide +kernel
theorem dX7_isNoTrack_14 : decode cX7_isNoTrack 14 = .ok (.ireturn, 1) := by decide +kernel
theorem dX7_isNoKind_0 : decode cX7_isNoKind 0 = .ok (.iload_n 0, 1) := by decide +kernel
theorem dX7_isNoKind_1 : decode cX7_isNoKind 1 = .ok (.iconst 0, 1) := by decide +kernel
theorem dX7_isNoKind_2 : decode cX7_isNoKind 2 = .ok (.iconst 4, 1) := by decide +kernel
theorem dX7_isNoKind_3 : decode cX7_isNoKind 3 = .ok (.invokestatic 22, 3) := by decide +kernel
theorem dX7_isNoKind_6 : decode cX7_isNoKind 6 = .ok (.ifCond .ne 7, 3) := by decide +kernel
theorem dX7_isNoKind_9 : decode cX7_isNoKind 9 = .ok (.iconst 1, 1) := by decide +kernel
theorem dX7_isNoKind_10 : decode cX7_isNoKind 10 = .ok (.goto 4, 3) := by decide +kernel
theorem dX7_isNoKind_13 : decode cX7_isNoKind 13 = .ok (.iconst 0, 1) := by decide +kernel
theorem dX7_isNoKind_14 : decode cX7_isNoKind 14 = .ok (.ireturn, 1) := by decide +kernel
theorem dX7_set_0 : decode cX7_set 0 = .ok (.aload_n 0, 1) := by decide +kernel
theorem dX7_set_1 : decode cX7_set 1 = .ok (.getfield 18, 3) := by decide +kernel
theorem dX7_set_4 : decode cX7_set 4 = .ok (.aload_n 0, 1) := by decide +kernel
theorem dX7_set_5 : decode cX7_set 5 = .ok (.getfield 9, 3) := by decide +kernel
theorem dX7_set_8 : decode cX7_set 8 = .ok (.invokevirtual 49, 3) := by decide +kernel
theorem dX7_set_11 : decode cX7_set 11 = .ok (.pop, 1) := by decide +kernel
theorem dX7_set_12 : decode cX7_set 12 = .ok (.aload_n 0, 1) := by decide +kernel
theorem dX7_set_13 : decode cX7_set 13 = .ok (.getfield 18, 3) := by decide +kernel
theorem dX7_set_16 : decode cX7_set 16 = .ok (.invokevirtual 53, 3) := by decide +kernel
theorem dX7_set_19 : decode cX7_set 19 = .ok (.bipush 6, 2) := by decide +kernel
theorem dX7_set_21 : decode cX7_set 21 = .ok (.if_icmp .le 12, 3) := by decide +kernel
theorem dX7_set_24 : decode cX7_set 24 = .ok (.aload_n 0, 1) := by decide +kernel
theorem dX7_set_25 : decode cX7_set 25 = .ok (.getfield 18, 3) := by decide +kernel
theorem dX7_set_28 : decode cX7_set 28 = .ok (.iconst 0, 1) := by decide +kernel
theorem dX7_set_29 : decode cX7_set 29 = .ok (.invokevirtual 57, 3) := by decide +kernel
theorem dX7_set_32 : decode cX7_set 32 = .ok (.pop, 1) := by decide +kernel
theorem dX7_set_33 : decode cX7_set 33 = .ok (.bipush 6, 2) := by decide +kernel
theorem dX7_set_35 : decode cX7_set 35 = .ok (.anewarray 7, 3) := by decide +kernel
theorem dX7_set_38 : decode cX7_set 38 = .ok (.astore_n 3, 1) := by decide +kernel
theorem dX7_set_39 : decode cX7_set 39 = .ok (.iconst 0, 1) := by decide +kernel
theorem dX7_set_40 : decode cX7_set 40 = .ok (.istore 4, 2) := by decide +kernel
theorem dX7_set_42 : decode cX7_set 42 = .ok (.iload 4, 2) := by decide +kernel
theorem dX7_set_44 : decode cX7_set 44 = .ok (.bipush 6, 2) := by decide +kernel
theorem dX7_set_46 : decode cX7_set 46 = .ok (.if_icmp .ge 30, 3) := by decide +kernel
theorem dX7_set_49 : decode cX7_set 49 = .ok (.aload_n 3, 1) := by decide +kernel
theorem dX7_set_50 : decode cX7_set 50 = .ok (.iload 4, 2) := by decide +kernel
theorem dX7_set_52 : decode cX7_set 52 = .ok (.iload 4, 2) := by decide +kernel
theorem dX7_set_54 : decode cX7_set 54 = .ok (.iload_n 1, 1) := by decide +kernel
theorem dX7_set_55 : decode cX7_set 55 = .ok (.if_icmp .ne 7, 3) := by decide +kernel
theorem dX7_set_58 : decode cX7_set 58 = .ok (.aload_n 2, 1) := by decide +kernel
theorem dX7_set_59 : decode cX7_set 59 = .ok (.goto 10, 3) := by decide +kernel
theorem dX7_set_62 : decode cX7_set 62 = .ok (.aload_n 0, 1) := by decide +kernel
theorem dX7_set_63 : decode cX7_set 63 = .ok (.getfield 9, 3) := by decide +kernel
theorem dX7_set_66 : decode cX7_set 66 = .ok (.iload 4, 2) := by decide +kernel
theorem dX7_set_68 : decode cX7_set 68 = .ok (.aaload, 1) := by decide +kernel
theorem dX7_set_69 : decode cX7_set 69 = .ok (.aastore, 1) := by decide +kernel
theorem dX7_set_70 : decode cX7_set 70 = .ok (.iinc 4 1, 3) := by decide +kernel
theorem dX7_set_73 : decode cX7_set 73 = .ok (.goto (-31), 3) := by decide +kernel
theorem dX7_set_76 : decode cX7_set 76 = .ok (.aload_n 0, 1) := by decide +kernel
theorem dX7_set_77 : decode cX7_set 77 = .ok (.aload_n 3, 1) := by decide +kernel
theorem dX7_set_78 : decode cX7_set 78 = .ok (.putfield 9, 3) := by decide +kernel
theorem dX7_set_81 : decode cX7_set 81 = .ok (.aload_n 2, 1) := by decide +kernel
theorem dX7_set_82 : decode cX7_set 82 = .ok (.arraylength, 1) := by decide +kernel
theorem dX7_set_83 : decode cX7_set 83 = .ok (.ireturn, 1) := by decide +kernel
theorem dX7_part_0 : decode cX7_part 0 = .ok (.iload_n 2, 1) := by decide +kernel
theorem dX7_part_1 : decode cX7_part 1 = .ok (.iload_n 1, 1) := by decide +kernel
theorem dX7_part_2 : decode cX7_part 2 = .ok (.isub, 1) := by decide +kernel
theorem dX7_part_3 : decode cX7_part 3 = .ok (.newarray .int, 2) := by decide +kernel
theorem dX7_part_5 : decode cX7_part 5 = .ok (.astore_n 3, 1) := by decide +kernel
theorem dX7_part_6 : decode cX7_part 6 = .ok (.iload_n 1, 1) := by decide +kernel
theorem dX7_part_7 : decode cX7_part 7 = .ok (.istore 4, 2) := by decide +kernel
theorem dX7_part_9 : decode cX7_part 9 = .ok (.iload 4, 2) := by decide +kernel
theorem dX7_part_11 : decode cX7_part 11 = .ok (.iload_n 2, 1) := by decide +kernel
theorem dX7_part_12 : decode cX7_part 12 = .ok (.if_icmp .ge 19, 3) := by decide +kernel
theorem dX7_part_15 : decode cX7_part 15 = .ok (.aload_n 3, 1) := by decide +kernel
theorem dX7_part_16 : decode cX7_part 16 = .ok (.iload 4, 2) := by decide +kernel
theorem dX7_part_18 : decode cX7_part 18 = .ok (.iload_n 1, 1) := by decide +kernel
theorem dX7_part_19 : decode cX7_part 19 = .ok (.isub, 1) := by decide +kernel
theorem dX7_part_20 : decode cX7_part 20 = .ok (.aload_n 0, 1) := by decide +kernel
theorem dX7_part_21 : decode cX7_part 21 = .ok (.iload 4, 2) := by decide +kernel
theorem dX7_part_23 : decode cX7_part 23 = .ok (.iaload, 1) := by decide +kernel
theorem dX7_part_24 : decode cX7_part 24 = .ok (.iastore, 1) := by decide +kernel
theorem dX7_part_25 : decode cX7_part 25 = .ok (.iinc 4 1, 3) := by decide +kernel
theorem dX7_part_28 : decode cX7_part 28 = .ok (.goto (-19), 3) := by decide +kernel
theorem dX7_part_31 : decode cX7_part 31 = .ok (.aload_n 3, 1) := by decide +kernel
theorem dX7_part_32 : decode cX7_part 32 = .ok (.areturn, 1) := by decide +kernel
theorem dX7_joined_0 : decode cX7_joined 0 = .ok (.aload_n 0, 1) := by decide +kernel
theorem dX7_joined_1 : decode cX7_joined 1 = .ok (.arraylength, 1) := by decide +kernel
theorem dX7_joined_2 : decode cX7_joined 2 = .ok (.aload_n 1, 1) := by decide +kernel
theorem dX7_joined_3 : decode cX7_joined 3 = .ok (.arraylength, 1) := by decide +kernel
theorem dX7_joined_4 : decode cX7_joined 4 = .ok (.iadd, 1) := by decide +kernel
theorem dX7_joined_5 : decode cX7_joined 5 = .ok (.newarray .int, 2) := by decide +kernel
theorem dX7_joined_7 : decode cX7_joined 7 = .ok (.astore_n 2, 1) := by decide +kernel
theorem dX7_joined_8 : decode cX7_joined 8 = .ok (.iconst 0, 1) := by decide +kernel
theorem dX7_joined_9 : decode cX7_joined 9 = .ok (.istore_n 3, 1) := by decide +kernel
theorem dX7_joined_10 : decode cX7_joined 10 = .ok (.iload_n 3, 1) := by decide +kernel
theorem dX7_joined_11 : decode cX7_joined 11 = .ok (.aload_n 2, 1) := by decide +kernel
theorem dX7_joined_12 : decode cX7_joined 12 = .ok (.arraylength, 1) := by decide +kernel
theorem dX7_joined_13 : decode cX7_joined 13 = .ok (.if_icmp .ge 30, 3) := by decide +kernel
theorem dX7_joined_16 : decode cX7_joined 16 = .ok (.aload_n 2, 1) := by decide +kernel
theorem dX7_joined_17 : decode cX7_joined 17 = .ok (.iload_n 3, 1) := by decide +kernel
theorem dX7_joined_18 : decode cX7_joined 18 = .ok (.iload_n 3, 1) := by decide +kernel
theorem dX7_joined_19 : decode cX7_joined 19 = .ok (.aload_n 0, 1) := by decide +kernel
theorem dX7_joined_20 : decode cX7_joined 20 = .ok (.arraylength, 1) := by decide +kernel
theorem dX7_joined_21 : decode cX7_joined 21 = .ok (.if_icmp .ge 9, 3) := by decide +kernel
theorem dX7_joined_24 : decode cX7_joined 24 = .ok (.aload_n 0, 1) := by decide +kernel
theorem dX7_joined_25 : decode cX7_joined 25 = .ok (.iload_n 3, 1) := by decide +kernel
theorem dX7_joined_26 : decode cX7_joined 26 = .ok (.iaload, 1) := by decide +kernel
theorem dX7_joined_27 : decode cX7_joined 27 = .ok (.goto 9, 3) := by decide +kernel
theorem dX7_joined_30 : decode cX7_joined 30 = .ok (.aload_n 1, 1) := by decide +kernel
theorem dX7_joined_31 : decode cX7_joined 31 = .ok (.iload_n 3, 1) := by decide +kernel
theorem dX7_joined_32 : decode cX7_joined 32 = .ok (.aload_n 0, 1) := by decide +kernel
theorem dX7_joined_33 : decode cX7_joined 33 = .ok (.arraylength, 1) := by decide +kernel
theorem dX7_joined_34 : decode cX7_joined 34 = .ok (.isub, 1) := by decide +kernel
theorem dX7_joined_35 : decode cX7_joined 35 = .ok (.iaload, 1) := by decide +kernel
theorem dX7_joined_36 : decode cX7_joined 36 = .ok (.iastore, 1) := by decide +kernel
theorem dX7_joined_37 : decode cX7_joined 37 = .ok (.iinc 3 1, 3) := by decide +kernel
theorem dX7_joined_40 : decode cX7_joined 40 = .ok (.goto (-30), 3) := by decide +kernel
theorem dX7_joined_43 : decode cX7_joined 43 = .ok (.aload_n 2, 1) := by decide +kernel
theorem dX7_joined_44 : decode cX7_joined 44 = .ok (.areturn, 1) := by decide +kernel
theorem dX7_only_0 : decode cX7_only 0 = .ok (.iconst 0, 1) := by decide +kernel
theorem dX7_only_1 : decode cX7_only 1 = .ok (.newarray .int, 2) := by decide +kernel
theorem dX7_only_3 : decode cX7_only 3 = .ok (.astore_n 2, 1) := by decide +kernel
theorem dX7_only_4 : decode cX7_only 4 = .ok (.iconst 0, 1) := by decide +kernel
theorem dX7_only_5 : decode cX7_only 5 = .ok (.istore_n 3, 1) := by decide +kernel
theorem dX7_only_6 : decode cX7_only 6 = .ok (.iload_n 3, 1) := by decide +kernel
theorem dX7_only_7 : decode cX7_only 7 = .ok (.aload_n 0, 1) := by decide +kernel
theorem dX7_only_8 : decode cX7_only 8 = .ok (.arraylength, 1) := by decide +kernel
theorem dX7_only_9 : decode cX7_only 9 = .ok (.if_icmp .ge 29, 3) := by decide +kernel
theorem dX7_only_12 : decode cX7_only 12 = .ok (.aload_n 1, 1) := by decide +kernel
theorem dX7_only_13 : decode cX7_only 13 = .ok (.iload_n 3, 1) := by decide +kernel
theorem dX7_only_14 : decode cX7_only 14 = .ok (.baload, 1) := by decide +kernel
theorem dX7_only_15 : decode cX7_only 15 = .ok (.ifCond .eq 17, 3) := by decide +kernel
theorem dX7_only_18 : decode cX7_only 18 = .ok (.aload_n 2, 1) := by decide +kernel
theorem dX7_only_19 : decode cX7_only 19 = .ok (.iconst 1, 1) := by decide +kernel
theorem dX7_only_20 : decode cX7_only 20 = .ok (.newarray .int, 2) := by decide +kernel
theorem dX7_only_22 : decode cX7_only 22 = .ok (.dup, 1) := by decide +kernel
theorem dX7_only_23 : decode cX7_only 23 = .ok (.iconst 0, 1) := by decide +kernel
theorem dX7_only_24 : decode cX7_only 24 = .ok (.aload_n 0, 1) := by decide +kernel
theorem dX7_only_25 : decode cX7_only 25 = .ok (.iload_n 3, 1) := by decide +kernel
theorem dX7_only_26 : decode cX7_only 26 = .ok (.iaload, 1) := by decide +kernel
theorem dX7_only_27 : decode cX7_only 27 = .ok (.iastore, 1) := by decide +kernel
theorem dX7_only_28 : decode cX7_only 28 = .ok (.invokestatic 61, 3) := by decide +kernel
theorem dX7_only_31 : decode cX7_only 31 = .ok (.astore_n 2, 1) := by decide +kernel
theorem dX7_only_32 : decode cX7_only 32 = .ok (.iinc 3 1, 3) := by decide +kernel
theorem dX7_only_35 : decode cX7_only 35 = .ok (.goto (-29), 3) := by decide +kernel
theorem dX7_only_38 : decode cX7_only 38 = .ok (.aload_n 2, 1) := by decide +kernel
theorem dX7_only_39 : decode cX7_only 39 = .ok (.areturn, 1) := by decide +kernel
theorem dX7_turned_0 : decode cX7_turned 0 = .ok (.aload_n 0, 1) := by decide +kernel
theorem dX7_turned_1 : decode cX7_turned 1 = .ok (.arraylength, 1) := by decide +kernel
theorem dX7_turned_2 : decode cX7_turned 2 = .ok (.newarray .int, 2) := by decide +kernel
theorem dX7_turned_4 : decode cX7_turned 4 = .ok (.astore_n 1, 1) := by decide +kernel
theorem dX7_turned_5 : decode cX7_turned 5 = .ok (.iconst 0, 1) := by decide +kernel
theorem dX7_turned_6 : decode cX7_turned 6 = .ok (.istore_n 2, 1) := by decide +kernel
theorem dX7_turned_7 : decode cX7_turned 7 = .ok (.iload_n 2, 1) := by decide +kernel
theorem dX7_turned_8 : decode cX7_turned 8 = .ok (.aload_n 1, 1) := by decide +kernel
theorem dX7_turned_9 : decode cX7_turned 9 = .ok (.arraylength, 1) := by decide +kernel
theorem dX7_turned_10 : decode cX7_turned 10 = .ok (.if_icmp .ge 20, 3) := by decide +kernel
theorem dX7_turned_13 : decode cX7_turned 13 = .ok (.aload_n 1, 1) := by decide +kernel
theorem dX7_turned_14 : decode cX7_turned 14 = .ok (.iload_n 2, 1) := by decide +kernel
theorem dX7_turned_15 : decode cX7_turned 15 = .ok (.aload_n 0, 1) := by decide +kernel
theorem dX7_turned_16 : decode cX7_turned 16 = .ok (.aload_n 0, 1) := by decide +kernel
theorem dX7_turned_17 : decode cX7_turned 17 = .ok (.arraylength, 1) := by decide +kernel
theorem dX7_turned_18 : decode cX7_turned 18 = .ok (.iconst 1, 1) := by decide +kernel
theorem dX7_turned_19 : decode cX7_turned 19 = .ok (.isub, 1) := by decide +kernel
theorem dX7_turned_20 : decode cX7_turned 20 = .ok (.iload_n 2, 1) := by decide +kernel
theorem dX7_turned_21 : decode cX7_turned 21 = .ok (.isub, 1) := by decide +kernel
theorem dX7_turned_22 : decode cX7_turned 22 = .ok (.iaload, 1) := by decide +kernel
theorem dX7_turned_23 : decode cX7_turned 23 = .ok (.iastore, 1) := by decide +kernel
theorem dX7_turned_24 : decode cX7_turned 24 = .ok (.iinc 2 1, 3) := by decide +kernel
theorem dX7_turned_27 : decode cX7_turned 27 = .ok (.goto (-20), 3) := by decide +kernel
theorem dX7_turned_30 : decode cX7_turned 30 = .ok (.aload_n 1, 1) := by decide +kernel
theorem dX7_turned_31 : decode cX7_turned 31 = .ok (.areturn, 1) := by decide +kernel
theorem dX7_lay_0 : decode cX7_lay 0 = .ok (.iconst 4, 1) := by decide +kernel
theorem dX7_lay_1 : decode cX7_lay 1 = .ok (.newarray .int, 2) := by decide +kernel
theorem dX7_lay_3 : decode cX7_lay 3 = .ok (.dup, 1) := by decide +kernel
theorem dX7_lay_4 : decode cX7_lay 4 = .ok (.iconst 0, 1) := by decide +kernel
theorem dX7_lay_5 : decode cX7_lay 5 = .ok (.iload_n 2, 1) := by decide +kernel
theorem dX7_lay_6 : decode cX7_lay 6 = .ok (.iastore, 1) := by decide +kernel
theorem dX7_lay_7 : decode cX7_lay 7 = .ok (.dup, 1) := by decide +kernel
theorem dX7_lay_8 : decode cX7_lay 8 = .ok (.iconst 1, 1) := by decide +kernel
theorem dX7_lay_9 : decode cX7_lay 9 = .ok (.iload_n 3, 1) := by decide +kernel
theorem dX7_lay_10 : decode cX7_lay 10 = .ok (.iastore, 1) := by decide +kernel
theorem dX7_lay_11 : decode cX7_lay 11 = .ok (.dup, 1) := by decide +kernel
theorem dX7_lay_12 : decode cX7_lay 12 = .ok (.iconst 2, 1) := by decide +kernel
theorem dX7_lay_13 : decode cX7_lay 13 = .ok (.iload 4, 2) := by decide +kernel
theorem dX7_lay_15 : decode cX7_lay 15 = .ok (.iastore, 1) := by decide +kernel
theorem dX7_lay_16 : decode cX7_lay 16 = .ok (.dup, 1) := by decide +kernel
theorem dX7_lay_17 : decode cX7_lay 17 = .ok (.iconst 3, 1) := by decide +kernel
theorem dX7_lay_18 : decode cX7_lay 18 = .ok (.iload 5, 2) := by decide +kernel
theorem dX7_lay_20 : decode cX7_lay 20 = .ok (.iastore, 1) := by decide +kernel
theorem dX7_lay_21 : decode cX7_lay 21 = .ok (.astore 6, 2) := by decide +kernel
theorem dX7_lay_23 : decode cX7_lay 23 = .ok (.iconst 0, 1) := by decide +kernel
theorem dX7_lay_24 : decode cX7_lay 24 = .ok (.istore 7, 2) := by decide +kernel
theorem dX7_lay_26 : decode cX7_lay 26 = .ok (.aload 6, 2) := by decide +kernel
theorem dX7_lay_28 : decode cX7_lay 28 = .ok (.astore 8, 2) := by decide +kernel
theorem dX7_lay_30 : decode cX7_lay 30 = .ok (.aload 8, 2) := by decide +kernel
theorem dX7_lay_32 : decode cX7_lay 32 = .ok (.arraylength, 1) := by decide +kernel
theorem dX7_lay_33 : decode cX7_lay 33 = .ok (.istore 9, 2) := by decide +kernel
theorem dX7_lay_35 : decode cX7_lay 35 = .ok (.iconst 0, 1) := by decide +kernel
theorem dX7_lay_36 : decode cX7_lay 36 = .ok (.istore 10, 2) := by decide +kernel
theorem dX7_lay_38 : decode cX7_lay 38 = .ok (.iload 10, 2) := by decide +kernel
theorem dX7_lay_40 : decode cX7_lay 40 = .ok (.iload 9, 2) := by decide +kernel
theorem dX7_lay_42 : decode cX7_lay 42 = .ok (.if_icmp .ge 40, 3) := by decide +kernel
theorem dX7_lay_45 : decode cX7_lay 45 = .ok (.aload 8, 2) := by decide +kernel
theorem dX7_lay_47 : decode cX7_lay 47 = .ok (.iload 10, 2) := by decide +kernel
theorem dX7_lay_49 : decode cX7_lay 49 = .ok (.iaload, 1) := by decide +kernel
theorem dX7_lay_50 : decode cX7_lay 50 = .ok (.istore 11, 2) := by decide +kernel
theorem dX7_lay_52 : decode cX7_lay 52 = .ok (.iload 7, 2) := by decide +kernel
theorem dX7_lay_54 : decode cX7_lay 54 = .ok (.iload 11, 2) := by decide +kernel
theorem dX7_lay_56 : decode cX7_lay 56 = .ok (.iconst (-1), 1) := by decide +kernel
theorem dX7_lay_57 : decode cX7_lay 57 = .ok (.if_icmp .eq 15, 3) := by decide +kernel
theorem dX7_lay_60 : decode cX7_lay 60 = .ok (.iload 11, 2) := by decide +kernel
theorem dX7_lay_62 : decode cX7_lay 62 = .ok (.invokestatic 65, 3) := by decide +kernel
theorem dX7_lay_65 : decode cX7_lay 65 = .ok (.ifCond .ne 7, 3) := by decide +kernel
theorem dX7_lay_68 : decode cX7_lay 68 = .ok (.iconst 1, 1) := by decide +kernel
theorem dX7_lay_69 : decode cX7_lay 69 = .ok (.goto 4, 3) := by decide +kernel
theorem dX7_lay_72 : decode cX7_lay 72 = .ok (.iconst 0, 1) := by decide +kernel
theorem dX7_lay_73 : decode cX7_lay 73 = .ok (.ior, 1) := by decide +kernel
theorem dX7_lay_74 : decode cX7_lay 74 = .ok (.istore 7, 2) := by decide +kernel
theorem dX7_lay_76 : decode cX7_lay 76 = .ok (.iinc 10 1, 3) := by decide +kernel
theorem dX7_lay_79 : decode cX7_lay 79 = .ok (.goto (-41), 3) := by decide +kernel
theorem dX7_lay_82 : decode cX7_lay 82 = .ok (.aload_n 0, 1) := by decide +kernel
theorem dX7_lay_83 : decode cX7_lay 83 = .ok (.iload_n 1, 1) := by decide +kernel
theorem dX7_lay_84 : decode cX7_lay 84 = .ok (.invokestatic 68, 3) := by decide +kernel
theorem dX7_lay_87 : decode cX7_lay 87 = .ok (.iconst 1, 1) := by decide +kernel
theorem dX7_lay_88 : decode cX7_lay 88 = .ok (.invokevirtual 71, 3) := by decide +kernel
theorem dX7_lay_91 : decode cX7_lay 91 = .ok (.ifCond .ne 13, 3) := by decide +kernel
theorem dX7_lay_94 : decode cX7_lay 94 = .ok (.aload_n 0, 1) := by decide +kernel
theorem dX7_lay_95 : decode cX7_lay 95 = .ok (.iload 7, 2) := by decide +kernel
theorem dX7_lay_97 : decode cX7_lay 97 = .ok (.iconst 2, 1) := by decide +kernel
theorem dX7_lay_98 : decode cX7_lay 98 = .ok (.invokevirtual 45, 3) := by decide +kernel
theorem dX7_lay_101 : decode cX7_lay 101 = .ok (.ifCond .eq 5, 3) := by decide +kernel
theorem dX7_lay_104 : decode cX7_lay 104 = .ok (.iconst 0, 1) := by decide +kernel
theorem dX7_lay_105 : decode cX7_lay 105 = .ok (.ireturn, 1) := by decide +kernel
theorem dX7_lay_106 : decode cX7_lay 106 = .ok (.iconst 4, 1) := by decide +kernel
theorem dX7_lay_107 : decode cX7_lay 107 = .ok (.newarray .boolean, 2) := by decide +kernel
theorem dX7_lay_109 : decode cX7_lay 109 = .ok (.dup, 1) := by decide +kernel
theorem dX7_lay_110 : decode cX7_lay 110 = .ok (.iconst 0, 1) := by decide +kernel
theorem dX7_lay_111 : decode cX7_lay 111 = .ok (.iload_n 2, 1) := by decide +kernel
theorem dX7_lay_112 : decode cX7_lay 112 = .ok (.iconst (-1), 1) := by decide +kernel
theorem dX7_lay_113 : decode cX7_lay 113 = .ok (.if_icmp .eq 7, 3) := by decide +kernel
theorem dX7_lay_116 : decode cX7_lay 116 = .ok (.iconst 1, 1) := by decide +kernel
theorem dX7_lay_117 : decode cX7_lay 117 = .ok (.goto 4, 3) := by decide +kernel
theorem dX7_lay_120 : decode cX7_lay 120 = .ok (.iconst 0, 1) := by decide +kernel
theorem dX7_lay_121 : decode cX7_lay 121 = .ok (.bastore, 1) := by decide +kernel
theorem dX7_lay_122 : decode cX7_lay 122 = .ok (.dup, 1) := by decide +kernel
theorem dX7_lay_123 : decode cX7_lay 123 = .ok (.iconst 1, 1) := by decide +kernel
theorem dX7_lay_124 : decode cX7_lay 124 = .ok (.iload_n 3, 1) := by decide +kernel
theorem dX7_lay_125 : decode cX7_lay 125 = .ok (.iconst (-1), 1) := by decide +kernel
theorem dX7_lay_126 : decode cX7_lay 126 = .ok (.if_icmp .eq 7, 3) := by decide +kernel
theorem dX7_lay_129 : decode cX7_lay 129 = .ok (.iconst 1, 1) := by decide +kernel
theorem dX7_lay_130 : decode cX7_lay 130 = .ok (.goto 4, 3) := by decide +kernel
theorem dX7_lay_133 : decode cX7_lay 133 = .ok (.iconst 0, 1) := by decide +kernel
theorem dX7_lay_134 : decode cX7_lay 134 = .ok (.bastore, 1) := by decide +kernel
theorem dX7_lay_135 : decode cX7_lay 135 = .ok (.dup, 1) := by decide +kernel
theorem dX7_lay_136 : decode cX7_lay 136 = .ok (.iconst 2, 1) := by decide +kernel
theorem dX7_lay_137 : decode cX7_lay 137 = .ok (.iload 4, 2) := by decide +kernel
theorem dX7_lay_139 : decode cX7_lay 139 = .ok (.iconst (-1), 1) := by decide +kernel
theorem dX7_lay_140 : decode cX7_lay 140 = .ok (.if_icmp .eq 7, 3) := by decide +kernel
theorem dX7_lay_143 : decode cX7_lay 143 = .ok (.iconst 1, 1) := by decide +kernel
theorem dX7_lay_144 : decode cX7_lay 144 = .ok (.goto 4, 3) := by decide +kernel
theorem dX7_lay_147 : decode cX7_lay 147 = .ok (.iconst 0, 1) := by decide +kernel
theorem dX7_lay_148 : decode cX7_lay 148 = .ok (.bastore, 1) := by decide +kernel
theorem dX7_lay_149 : decode cX7_lay 149 = .ok (.dup, 1) := by decide +kernel
theorem dX7_lay_150 : decode cX7_lay 150 = .ok (.iconst 3, 1) := by decide +kernel
theorem dX7_lay_151 : decode cX7_lay 151 = .ok (.iload 5, 2) := by decide +kernel
theorem dX7_lay_153 : decode cX7_lay 153 = .ok (.iconst (-1), 1) := by decide +kernel
theorem dX7_lay_154 : decode cX7_lay 154 = .ok (.if_icmp .eq 7, 3) := by decide +kernel
theorem dX7_lay_157 : decode cX7_lay 157 = .ok (.iconst 1, 1) := by decide +kernel
theorem dX7_lay_158 : decode cX7_lay 158 = .ok (.goto 4, 3) := by decide +kernel
theorem dX7_lay_161 : decode cX7_lay 161 = .ok (.iconst 0, 1) := by decide +kernel
theorem dX7_lay_162 : decode cX7_lay 162 = .ok (.bastore, 1) := by decide +kernel
theorem dX7_lay_163 : decode cX7_lay 163 = .ok (.astore 8, 2) := by decide +kernel
theorem dX7_lay_165 : decode cX7_lay 165 = .ok (.aload_n 0, 1) := by decide +kernel
theorem dX7_lay_166 : decode cX7_lay 166 = .ok (.getfield 9, 3) := by decide +kernel
theorem dX7_lay_169 : decode cX7_lay 169 = .ok (.iload_n 1, 1) := by decide +kernel
theorem dX7_lay_170 : decode cX7_lay 170 = .ok (.aaload, 1) := by decide +kernel
theorem dX7_lay_171 : decode cX7_lay 171 = .ok (.aload 6, 2) := by decide +kernel
theorem dX7_lay_173 : decode cX7_lay 173 = .ok (.aload 8, 2) := by decide +kernel
theorem dX7_lay_175 : decode cX7_lay 175 = .ok (.invokestatic 74, 3) := by decide +kernel
theorem dX7_lay_178 : decode cX7_lay 178 = .ok (.invokestatic 61, 3) := by decide +kernel
theorem dX7_lay_181 : decode cX7_lay 181 = .ok (.astore 9, 2) := by decide +kernel
theorem dX7_lay_183 : decode cX7_lay 183 = .ok (.aload_n 0, 1) := by decide +kernel
theorem dX7_lay_184 : decode cX7_lay 184 = .ok (.aload 9, 2) := by decide +kernel
theorem dX7_lay_186 : decode cX7_lay 186 = .ok (.arraylength, 1) := by decide +kernel
theorem dX7_lay_187 : decode cX7_lay 187 = .ok (.bipush 40, 2) := by decide +kernel
theorem dX7_lay_189 : decode cX7_lay 189 = .ok (.if_icmp .le 7, 3) := by decide +kernel
theorem dX7_lay_192 : decode cX7_lay 192 = .ok (.iconst 1, 1) := by decide +kernel
theorem dX7_lay_193 : decode cX7_lay 193 = .ok (.goto 4, 3) := by decide +kernel
theorem dX7_lay_196 : decode cX7_lay 196 = .ok (.iconst 0, 1) := by decide +kernel
theorem dX7_lay_197 : decode cX7_lay 197 = .ok (.iconst 3, 1) := by decide +kernel
theorem dX7_lay_198 : decode cX7_lay 198 = .ok (.invokevirtual 45, 3) := by decide +kernel
theorem dX7_lay_201 : decode cX7_lay 201 = .ok (.ifCond .eq 7, 3) := by decide +kernel
theorem dX7_lay_204 : decode cX7_lay 204 = .ok (.iconst 0, 1) := by decide +kernel
theorem dX7_lay_205 : decode cX7_lay 205 = .ok (.goto 10, 3) := by decide +kernel
theorem dX7_lay_208 : decode cX7_lay 208 = .ok (.aload_n 0, 1) := by decide +kernel
theorem dX7_lay_209 : decode cX7_lay 209 = .ok (.iload_n 1, 1) := by decide +kernel
theorem dX7_lay_210 : decode cX7_lay 210 = .ok (.aload 9, 2) := by decide +kernel
theorem dX7_lay_212 : decode cX7_lay 212 = .ok (.invokevirtual 78, 3) := by decide +kernel
theorem dX7_lay_215 : decode cX7_lay 215 = .ok (.ireturn, 1) := by decide +kernel
theorem dX7_drop_0 : decode cX7_drop 0 = .ok (.aload_n 0, 1) := by decide +kernel
theorem dX7_drop_1 : decode cX7_drop 1 = .ok (.iload_n 1, 1) := by decide +kernel
theorem dX7_drop_2 : decode cX7_drop 2 = .ok (.invokestatic 68, 3) := by decide +kernel
theorem dX7_drop_5 : decode cX7_drop 5 = .ok (.iconst 1, 1) := by decide +kernel
theorem dX7_drop_6 : decode cX7_drop 6 = .ok (.invokevirtual 71, 3) := by decide +kernel
theorem dX7_drop_9 : decode cX7_drop 9 = .ok (.ifCond .ne 31, 3) := by decide +kernel
theorem dX7_drop_12 : decode cX7_drop 12 = .ok (.aload_n 0, 1) := by decide +kernel
theorem dX7_drop_13 : decode cX7_drop 13 = .ok (.iload_n 2, 1) := by decide +kernel
theorem dX7_drop_14 : decode cX7_drop 14 = .ok (.iconst 0, 1) := by decide +kernel
theorem dX7_drop_15 : decode cX7_drop 15 = .ok (.aload_n 0, 1) := by decide +kernel
theorem dX7_drop_16 : decode cX7_drop 16 = .ok (.getfield 9, 3) := by decide +kernel
theorem dX7_drop_19 : decode cX7_drop 19 = .ok (.iload_n 1, 1) := by decide +kernel
theorem dX7_drop_20 : decode cX7_drop 20 = .ok (.aaload, 1) := by decide +kernel
theorem dX7_drop_21 : decode cX7_drop 21 = .ok (.arraylength, 1) := by decide +kernel
theorem dX7_drop_22 : decode cX7_drop 22 = .ok (.invokestatic 22, 3) := by decide +kernel
theorem dX7_drop_25 : decode cX7_drop 25 = .ok (.ifCond .ne 7, 3) := by decide +kernel
theorem dX7_drop_28 : decode cX7_drop 28 = .ok (.iconst 1, 1) := by decide +kernel
theorem dX7_drop_29 : decode cX7_drop 29 = .ok (.goto 4, 3) := by decide +kernel
theorem dX7_drop_32 : decode cX7_drop 32 = .ok (.iconst 0, 1) := by decide +kernel
theorem dX7_drop_33 : decode cX7_drop 33 = .ok (.iconst 2, 1) := by decide +kernel
theorem dX7_drop_34 : decode cX7_drop 34 = .ok (.invokevirtual 45, 3) := by decide +kernel
theorem dX7_drop_37 : decode cX7_drop 37 = .ok (.ifCond .eq 7, 3) := by decide +kernel
theorem dX7_drop_40 : decode cX7_drop 40 = .ok (.iconst 0, 1) := by decide +kernel
theorem dX7_drop_41 : decode cX7_drop 41 = .ok (.goto 27, 3) := by decide +kernel
theorem dX7_drop_44 : decode cX7_drop 44 = .ok (.aload_n 0, 1) := by decide +kernel
theorem dX7_drop_45 : decode cX7_drop 45 = .ok (.iload_n 1, 1) := by decide +kernel
theorem dX7_drop_46 : decode cX7_drop 46 = .ok (.aload_n 0, 1) := by decide +kernel
theorem dX7_drop_47 : decode cX7_drop 47 = .ok (.getfield 9, 3) := by decide +kernel
theorem dX7_drop_50 : decode cX7_drop 50 = .ok (.iload_n 1, 1) := by decide +kernel
theorem dX7_drop_51 : decode cX7_drop 51 = .ok (.aaload, 1) := by decide +kernel
theorem dX7_drop_52 : decode cX7_drop 52 = .ok (.iconst 0, 1) := by decide +kernel
theorem dX7_drop_53 : decode cX7_drop 53 = .ok (.aload_n 0, 1) := by decide +kernel
theorem dX7_drop_54 : decode cX7_drop 54 = .ok (.getfield 9, 3) := by decide +kernel
theorem dX7_drop_57 : decode cX7_drop 57 = .ok (.iload_n 1, 1) := by decide +kernel
theorem dX7_drop_58 : decode cX7_drop 58 = .ok (.aaload, 1) := by decide +kernel
theorem dX7_drop_59 : decode cX7_drop 59 = .ok (.arraylength, 1) := by decide +kernel
theorem dX7_drop_60 : decode cX7_drop 60 = .ok (.iload_n 2, 1) := by decide +kernel
theorem dX7_drop_61 : decode cX7_drop 61 = .ok (.isub, 1) := by decide +kernel
theorem dX7_drop_62 : decode cX7_drop 62 = .ok (.invokestatic 82, 3) := by decide +kernel
theorem dX7_drop_65 : decode cX7_drop 65 = .ok (.invokevirtual 78, 3) := by decide +kernel
theorem dX7_drop_68 : decode cX7_drop 68 = .ok (.ireturn, 1) := by decide +kernel
theorem dX7_copy_0 : decode cX7_copy 0 = .ok (.aload_n 0, 1) := by decide +kernel
theorem dX7_copy_1 : decode cX7_copy 1 = .ok (.iload_n 1, 1) := by decide +kernel
theorem dX7_copy_2 : decode cX7_copy 2 = .ok (.invokestatic 68, 3) := by decide +kernel
theorem dX7_copy_5 : decode cX7_copy 5 = .ok (.ifCond .ne 10, 3) := by decide +kernel
theorem dX7_copy_8 : decode cX7_copy 8 = .ok (.iload_n 2, 1) := by decide +kernel
theorem dX7_copy_9 : decode cX7_copy 9 = .ok (.invokestatic 68, 3) := by decide +kernel
theorem dX7_copy_12 : decode cX7_copy 12 = .ok (.ifCond .eq 7, 3) := by decide +kernel
theorem dX7_copy_15 : decode cX7_copy 15 = .ok (.iconst 1, 1) := by decide +kernel
theorem dX7_copy_16 : decode cX7_copy 16 = .ok (.goto 4, 3) := by decide +kernel
theorem dX7_copy_19 : decode cX7_copy 19 = .ok (.iconst 0, 1) := by decide +kernel
theorem dX7_copy_20 : decode cX7_copy 20 = .ok (.iconst 1, 1) := by decide +kernel
theorem dX7_copy_21 : decode cX7_copy 21 = .ok (.invokevirtual 71, 3) := by decide +kernel
theorem dX7_copy_24 : decode cX7_copy 24 = .ok (.ifCond .eq 5, 3) := by decide +kernel
theorem dX7_copy_27 : decode cX7_copy 27 = .ok (.iconst 0, 1) := by decide +kernel
theorem dX7_copy_28 : decode cX7_copy 28 = .ok (.ireturn, 1) := by decide +kernel
theorem dX7_copy_29 : decode cX7_copy 29 = .ok (.aload_n 0, 1) := by decide +kernel
theorem dX7_copy_30 : decode cX7_copy 30 = .ok (.getfield 9, 3) := by decide +kernel
theorem dX7_copy_33 : decode cX7_copy 33 = .ok (.iload_n 2, 1) := by decide +kernel
theorem dX7_copy_34 : decode cX7_copy 34 = .ok (.aaload, 1) := by decide +kernel
theorem dX7_copy_35 : decode cX7_copy 35 = .ok (.arraylength, 1) := by decide +kernel
theorem dX7_copy_36 : decode cX7_copy 36 = .ok (.istore_n 3, 1) := by decide +kernel
theorem dX7_copy_37 : decode cX7_copy 37 = .ok (.aload_n 0, 1) := by decide +kernel
theorem dX7_copy_38 : decode cX7_copy 38 = .ok (.iload_n 2, 1) := by decide +kernel
theorem dX7_copy_39 : decode cX7_copy 39 = .ok (.aload_n 0, 1) := by decide +kernel
theorem dX7_copy_40 : decode cX7_copy 40 = .ok (.getfield 9, 3) := by decide +kernel
theorem dX7_copy_43 : decode cX7_copy 43 = .ok (.iload_n 1, 1) := by decide +kernel
theorem dX7_copy_44 : decode cX7_copy 44 = .ok (.aaload, 1) := by decide +kernel
theorem dX7_copy_45 : decode cX7_copy 45 = .ok (.invokevirtual 78, 3) := by decide +kernel
theorem dX7_copy_48 : decode cX7_copy 48 = .ok (.pop, 1) := by decide +kernel
theorem dX7_copy_49 : decode cX7_copy 49 = .ok (.iload_n 3, 1) := by decide +kernel
theorem dX7_copy_50 : decode cX7_copy 50 = .ok (.ireturn, 1) := by decide +kernel
theorem dX7_cased_0 : decode cX7_cased 0 = .ok (.aload_n 0, 1) := by decide +kernel
theorem dX7_cased_1 : decode cX7_cased 1 = .ok (.getfield 9, 3) := by decide +kernel
theorem dX7_cased_4 : decode cX7_cased 4 = .ok (.iload_n 1, 1) := by decide +kernel
theorem dX7_cased_5 : decode cX7_cased 5 = .ok (.aaload, 1) := by decide +kernel
theorem dX7_cased_6 : decode cX7_cased 6 = .ok (.arraylength, 1) := by decide +kernel
theorem dX7_cased_7 : decode cX7_cased 7 = .ok (.newarray .int, 2) := by decide +kernel
theorem dX7_cased_9 : decode cX7_cased 9 = .ok (.astore_n 3, 1) := by decide +kernel
theorem dX7_cased_10 : decode cX7_cased 10 = .ok (.iconst 0, 1) := by decide +kernel
theorem dX7_cased_11 : decode cX7_cased 11 = .ok (.istore 4, 2) := by decide +kernel
theorem dX7_cased_13 : decode cX7_cased 13 = .ok (.iconst 0, 1) := by decide +kernel
theorem dX7_cased_14 : decode cX7_cased 14 = .ok (.istore 5, 2) := by decide +kernel
theorem dX7_cased_16 : decode cX7_cased 16 = .ok (.iload 5, 2) := by decide +kernel
theorem dX7_cased_18 : decode cX7_cased 18 = .ok (.aload_n 3, 1) := by decide +kernel
theorem dX7_cased_19 : decode cX7_cased 19 = .ok (.arraylength, 1) := by decide +kernel
theorem dX7_cased_20 : decode cX7_cased 20 = .ok (.if_icmp .ge 80, 3) := by decide +kernel
theorem dX7_cased_23 : decode cX7_cased 23 = .ok (.aload_n 0, 1) := by decide +kernel
theorem dX7_cased_24 : decode cX7_cased 24 = .ok (.getfield 9, 3) := by decide +kernel
theorem dX7_cased_27 : decode cX7_cased 27 = .ok (.iload_n 1, 1) := by decide +kernel
theorem dX7_cased_28 : decode cX7_cased 28 = .ok (.aaload, 1) := by decide +kernel
theorem dX7_cased_29 : decode cX7_cased 29 = .ok (.iload 5, 2) := by decide +kernel
theorem dX7_cased_31 : decode cX7_cased 31 = .ok (.iaload, 1) := by decide +kernel
theorem dX7_cased_32 : decode cX7_cased 32 = .ok (.istore 6, 2) := by decide +kernel
theorem dX7_cased_34 : decode cX7_cased 34 = .ok (.iload_n 2, 1) := by decide +kernel
theorem dX7_cased_35 : decode cX7_cased 35 = .ok (.ifCond .eq 11, 3) := by decide +kernel
theorem dX7_cased_38 : decode cX7_cased 38 = .ok (.iload 6, 2) := by decide +kernel
theorem dX7_cased_40 : decode cX7_cased 40 = .ok (.invokestatic 86, 3) := by decide +kernel
theorem dX7_cased_43 : decode cX7_cased 43 = .ok (.goto 8, 3) := by decide +kernel
theorem dX7_cased_46 : decode cX7_cased 46 = .ok (.iload 6, 2) := by decide +kernel
theorem dX7_cased_48 : decode cX7_cased 48 = .ok (.invokestatic 89, 3) := by decide +kernel
theorem dX7_cased_51 : decode cX7_cased 51 = .ok (.istore 7, 2) := by decide +kernel
theorem dX7_cased_53 : decode cX7_cased 53 = .ok (.aload_n 3, 1) := by decide +kernel
theorem dX7_cased_54 : decode cX7_cased 54 = .ok (.iload 5, 2) := by decide +kernel
theorem dX7_cased_56 : decode cX7_cased 56 = .ok (.iload 7, 2) := by decide +kernel
theorem dX7_cased_58 : decode cX7_cased 58 = .ok (.invokestatic 65, 3) := by decide +kernel
theorem dX7_cased_61 : decode cX7_cased 61 = .ok (.ifCond .eq 8, 3) := by decide +kernel
theorem dX7_cased_64 : decode cX7_cased 64 = .ok (.iload 7, 2) := by decide +kernel
theorem dX7_cased_66 : decode cX7_cased 66 = .ok (.goto 5, 3) := by decide +kernel
theorem dX7_cased_69 : decode cX7_cased 69 = .ok (.iload 6, 2) := by decide +kernel
theorem dX7_cased_71 : decode cX7_cased 71 = .ok (.iastore, 1) := by decide +kernel
theorem dX7_cased_72 : decode cX7_cased 72 = .ok (.iload 4, 2) := by decide +kernel
theorem dX7_cased_74 : decode cX7_cased 74 = .ok (.aload_n 3, 1) := by decide +kernel
theorem dX7_cased_75 : decode cX7_cased 75 = .ok (.iload 5, 2) := by decide +kernel
theorem dX7_cased_77 : decode cX7_cased 77 = .ok (.iaload, 1) := by decide +kernel
theorem dX7_cased_78 : decode cX7_cased 78 = .ok (.iload 6, 2) := by decide +kernel
theorem dX7_cased_80 : decode cX7_cased 80 = .ok (.if_icmp .eq 7, 3) := by decide +kernel
theorem dX7_cased_83 : decode cX7_cased 83 = .ok (.iconst 1, 1) := by decide +kernel
theorem dX7_cased_84 : decode cX7_cased 84 = .ok (.goto 4, 3) := by decide +kernel
theorem dX7_cased_87 : decode cX7_cased 87 = .ok (.iconst 0, 1) := by decide +kernel
theorem dX7_cased_88 : decode cX7_cased 88 = .ok (.invokestatic 92, 3) := by decide +kernel
theorem dX7_cased_91 : decode cX7_cased 91 = .ok (.iadd, 1) := by decide +kernel
theorem dX7_cased_92 : decode cX7_cased 92 = .ok (.istore 4, 2) := by decide +kernel
theorem dX7_cased_94 : decode cX7_cased 94 = .ok (.iinc 5 1, 3) := by decide +kernel
theorem dX7_cased_97 : decode cX7_cased 97 = .ok (.goto (-81), 3) := by decide +kernel
theorem dX7_cased_100 : decode cX7_cased 100 = .ok (.aload_n 0, 1) := by decide +kernel
theorem dX7_cased_101 : decode cX7_cased 101 = .ok (.iload_n 1, 1) := by decide +kernel
theorem dX7_cased_102 : decode cX7_cased 102 = .ok (.aload_n 3, 1) := by decide +kernel
theorem dX7_cased_103 : decode cX7_cased 103 = .ok (.invokevirtual 78, 3) := by decide +kernel
theorem dX7_cased_106 : decode cX7_cased 106 = .ok (.pop, 1) := by decide +kernel
theorem dX7_cased_107 : decode cX7_cased 107 = .ok (.iload 4, 2) := by decide +kernel
theorem dX7_cased_109 : decode cX7_cased 109 = .ok (.ireturn, 1) := by decide +kernel
theorem dX7_raise_0 : decode cX7_raise 0 = .ok (.aload_n 0, 1) := by decide +kernel
theorem dX7_raise_1 : decode cX7_raise 1 = .ok (.iload_n 1, 1) := by decide +kernel
theorem dX7_raise_2 : decode cX7_raise 2 = .ok (.invokestatic 68, 3) := by decide +kernel
theorem dX7_raise_5 : decode cX7_raise 5 = .ok (.iconst 1, 1) := by decide +kernel
theorem dX7_raise_6 : decode cX7_raise 6 = .ok (.invokevirtual 71, 3) := by decide +kernel
theorem dX7_raise_9 : decode cX7_raise 9 = .ok (.ifCond .eq 7, 3) := by decide +kernel
theorem dX7_raise_12 : decode cX7_raise 12 = .ok (.iconst 0, 1) := by decide +kernel
theorem dX7_raise_13 : decode cX7_raise 13 = .ok (.goto 9, 3) := by decide +kernel
theorem dX7_raise_16 : decode cX7_raise 16 = .ok (.aload_n 0, 1) := by decide +kernel
theorem dX7_raise_17 : decode cX7_raise 17 = .ok (.iload_n 1, 1) := by decide +kernel
theorem dX7_raise_18 : decode cX7_raise 18 = .ok (.iconst 1, 1) := by decide +kernel
theorem dX7_raise_19 : decode cX7_raise 19 = .ok (.invokevirtual 96, 3) := by decide +kernel
theorem dX7_raise_22 : decode cX7_raise 22 = .ok (.ireturn, 1) := by decide +kernel
theorem dX7_sink_0 : decode cX7_sink 0 = .ok (.aload_n 0, 1) := by decide +kernel
theorem dX7_sink_1 : decode cX7_sink 1 = .ok (.iload_n 1, 1) := by decide +kernel
theorem dX7_sink_2 : decode cX7_sink 2 = .ok (.invokestatic 68, 3) := by decide +kernel
theorem dX7_sink_5 : decode cX7_sink 5 = .ok (.iconst 1, 1) := by decide +kernel
theorem dX7_sink_6 : decode cX7_sink 6 = .ok (.invokevirtual 71, 3) := by decide +kernel
theorem dX7_sink_9 : decode cX7_sink 9 = .ok (.ifCond .eq 7, 3) := by decide +kernel
theorem dX7_sink_12 : decode cX7_sink 12 = .ok (.iconst 0, 1) := by decide +kernel
theorem dX7_sink_13 : decode cX7_sink 13 = .ok (.goto 9, 3) := by decide +kernel
theorem dX7_sink_16 : decode cX7_sink 16 = .ok (.aload_n 0, 1) := by decide +kernel
theorem dX7_sink_17 : decode cX7_sink 17 = .ok (.iload_n 1, 1) := by decide +kernel
theorem dX7_sink_18 : decode cX7_sink 18 = .ok (.iconst 0, 1) := by decide +kernel
theorem dX7_sink_19 : decode cX7_sink 19 = .ok (.invokevirtual 96, 3) := by decide +kernel
theorem dX7_sink_22 : decode cX7_sink 22 = .ok (.ireturn, 1) := by decide +kernel
theorem dX7_sieve_0 : decode cX7_sieve 0 = .ok (.aload_n 0, 1) := by decide +kernel
theorem dX7_sieve_1 : decode cX7_sieve 1 = .ok (.iload_n 1, 1) := by decide +kernel
theorem dX7_sieve_2 : decode cX7_sieve 2 = .ok (.invokestatic 68, 3) := by decide +kernel
theorem dX7_sieve_5 : decode cX7_sieve 5 = .ok (.iconst 1, 1) := by decide +kernel
theorem dX7_sieve_6 : decode cX7_sieve 6 = .ok (.invokevirtual 71, 3) := by decide +kernel
theorem dX7_sieve_9 : decode cX7_sieve 9 = .ok (.ifCond .ne 15, 3) := by decide +kernel
theorem dX7_sieve_12 : decode cX7_sieve 12 = .ok (.aload_n 0, 1) := by decide +kernel
theorem dX7_sieve_13 : decode cX7_sieve 13 = .ok (.iload_n 2, 1) := by decide +kernel
theorem dX7_sieve_14 : decode cX7_sieve 14 = .ok (.invokestatic 100, 3) := by decide +kernel
theorem dX7_sieve_17 : decode cX7_sieve 17 = .ok (.iconst 2, 1) := by decide +kernel
theorem dX7_sieve_18 : decode cX7_sieve 18 = .ok (.invokevirtual 45, 3) := by decide +kernel
theorem dX7_sieve_21 : decode cX7_sieve 21 = .ok (.ifCond .eq 5, 3) := by decide +kernel
theorem dX7_sieve_24 : decode cX7_sieve 24 = .ok (.iconst 0, 1) := by decide +kernel
theorem dX7_sieve_25 : decode cX7_sieve 25 = .ok (.ireturn, 1) := by decide +kernel
theorem dX7_sieve_26 : decode cX7_sieve 26 = .ok (.aload_n 0, 1) := by decide +kernel
theorem dX7_sieve_27 : decode cX7_sieve 27 = .ok (.getfield 9, 3) := by decide +kernel
theorem dX7_sieve_30 : decode cX7_sieve 30 = .ok (.iload_n 1, 1) := by decide +kernel
theorem dX7_sieve_31 : decode cX7_sieve 31 = .ok (.aaload, 1) := by decide +kernel
theorem dX7_sieve_32 : decode cX7_sieve 32 = .ok (.arraylength, 1) := by decide +kernel
theorem dX7_sieve_33 : decode cX7_sieve 33 = .ok (.newarray .boolean, 2) := by decide +kernel
theorem dX7_sieve_35 : decode cX7_sieve 35 = .ok (.astore 4, 2) := by decide +kernel
theorem dX7_sieve_37 : decode cX7_sieve 37 = .ok (.iconst 0, 1) := by decide +kernel
theorem dX7_sieve_38 : decode cX7_sieve 38 = .ok (.istore 5, 2) := by decide +kernel
theorem dX7_sieve_40 : decode cX7_sieve 40 = .ok (.iload 5, 2) := by decide +kernel
theorem dX7_sieve_42 : decode cX7_sieve 42 = .ok (.aload 4, 2) := by decide +kernel
theorem dX7_sieve_44 : decode cX7_sieve 44 = .ok (.arraylength, 1) := by decide +kernel
theorem dX7_sieve_45 : decode cX7_sieve 45 = .ok (.if_icmp .ge 36, 3) := by decide +kernel
theorem dX7_sieve_48 : decode cX7_sieve 48 = .ok (.aload 4, 2) := by decide +kernel
theorem dX7_sieve_50 : decode cX7_sieve 50 = .ok (.iload 5, 2) := by decide +kernel
theorem dX7_sieve_52 : decode cX7_sieve 52 = .ok (.aload_n 0, 1) := by decide +kernel
theorem dX7_sieve_53 : decode cX7_sieve 53 = .ok (.getfield 9, 3) := by decide +kernel
theorem dX7_sieve_56 : decode cX7_sieve 56 = .ok (.iload_n 1, 1) := by decide +kernel
theorem dX7_sieve_57 : decode cX7_sieve 57 = .ok (.aaload, 1) := by decide +kernel
theorem dX7_sieve_58 : decode cX7_sieve 58 = .ok (.iload 5, 2) := by decide +kernel
theorem dX7_sieve_60 : decode cX7_sieve 60 = .ok (.iaload, 1) := by decide +kernel
theorem dX7_sieve_61 : decode cX7_sieve 61 = .ok (.iload_n 2, 1) := by decide +kernel
theorem dX7_sieve_62 : decode cX7_sieve 62 = .ok (.invokestatic 26, 3) := by decide +kernel
theorem dX7_sieve_65 : decode cX7_sieve 65 = .ok (.iload_n 3, 1) := by decide +kernel
theorem dX7_sieve_66 : decode cX7_sieve 66 = .ok (.if_icmp .ne 7, 3) := by decide +kernel
theorem dX7_sieve_69 : decode cX7_sieve 69 = .ok (.iconst 1, 1) := by decide +kernel
theorem dX7_sieve_70 : decode cX7_sieve 70 = .ok (.goto 4, 3) := by decide +kernel
theorem dX7_sieve_73 : decode cX7_sieve 73 = .ok (.iconst 0, 1) := by decide +kernel
theorem dX7_sieve_74 : decode cX7_sieve 74 = .ok (.bastore, 1) := by decide +kernel
theorem dX7_sieve_75 : decode cX7_sieve 75 = .ok (.iinc 5 1, 3) := by decide +kernel
theorem dX7_sieve_78 : decode cX7_sieve 78 = .ok (.goto (-38), 3) := by decide +kernel
theorem dX7_sieve_81 : decode cX7_sieve 81 = .ok (.aload 4, 2) := by decide +kernel
theorem dX7_sieve_83 : decode cX7_sieve 83 = .ok (.arraylength, 1) := by decide +kernel
theorem dX7_sieve_84 : decode cX7_sieve 84 = .ok (.istore 5, 2) := by decide +kernel
theorem dX7_sieve_86 : decode cX7_sieve 86 = .ok (.iload 5, 2) := by decide +kernel
theorem dX7_sieve_88 : decode cX7_sieve 88 = .ok (.aload_n 0, 1) := by decide +kernel
theorem dX7_sieve_89 : decode cX7_sieve 89 = .ok (.iload_n 1, 1) := by decide +kernel
theorem dX7_sieve_90 : decode cX7_sieve 90 = .ok (.aload_n 0, 1) := by decide +kernel
theorem dX7_sieve_91 : decode cX7_sieve 91 = .ok (.getfield 9, 3) := by decide +kernel
theorem dX7_sieve_94 : decode cX7_sieve 94 = .ok (.iload_n 1, 1) := by decide +kernel
theorem dX7_sieve_95 : decode cX7_sieve 95 = .ok (.aaload, 1) := by decide +kernel
theorem dX7_sieve_96 : decode cX7_sieve 96 = .ok (.aload 4, 2) := by decide +kernel
theorem dX7_sieve_98 : decode cX7_sieve 98 = .ok (.invokestatic 74, 3) := by decide +kernel
theorem dX7_sieve_101 : decode cX7_sieve 101 = .ok (.invokevirtual 78, 3) := by decide +kernel
theorem dX7_sieve_104 : decode cX7_sieve 104 = .ok (.isub, 1) := by decide +kernel
theorem dX7_sieve_105 : decode cX7_sieve 105 = .ok (.ireturn, 1) := by decide +kernel
theorem dX7_strip_0 : decode cX7_strip 0 = .ok (.aload_n 0, 1) := by decide +kernel
theorem dX7_strip_1 : decode cX7_strip 1 = .ok (.iload_n 1, 1) := by decide +kernel
theorem dX7_strip_2 : decode cX7_strip 2 = .ok (.invokestatic 68, 3) := by decide +kernel
theorem dX7_strip_5 : decode cX7_strip 5 = .ok (.iconst 1, 1) := by decide +kernel
theorem dX7_strip_6 : decode cX7_strip 6 = .ok (.invokevirtual 71, 3) := by decide +kernel
theorem dX7_strip_9 : decode cX7_strip 9 = .ok (.ifCond .eq 5, 3) := by decide +kernel
theorem dX7_strip_12 : decode cX7_strip 12 = .ok (.iconst 0, 1) := by decide +kernel
theorem dX7_strip_13 : decode cX7_strip 13 = .ok (.ireturn, 1) := by decide +kernel
theorem dX7_strip_14 : decode cX7_strip 14 = .ok (.iconst 0, 1) := by decide +kernel
theorem dX7_strip_15 : decode cX7_strip 15 = .ok (.istore_n 2, 1) := by decide +kernel
theorem dX7_strip_16 : decode cX7_strip 16 = .ok (.aload_n 0, 1) := by decide +kernel
theorem dX7_strip_17 : decode cX7_strip 17 = .ok (.getfield 9, 3) := by decide +kernel
theorem dX7_strip_20 : decode cX7_strip 20 = .ok (.iload_n 1, 1) := by decide +kernel
theorem dX7_strip_21 : decode cX7_strip 21 = .ok (.aaload, 1) := by decide +kernel
theorem dX7_strip_22 : decode cX7_strip 22 = .ok (.arraylength, 1) := by decide +kernel
theorem dX7_strip_23 : decode cX7_strip 23 = .ok (.istore_n 3, 1) := by decide +kernel
theorem dX7_strip_24 : decode cX7_strip 24 = .ok (.iload_n 2, 1) := by decide +kernel
theorem dX7_strip_25 : decode cX7_strip 25 = .ok (.iload_n 3, 1) := by decide +kernel
theorem dX7_strip_26 : decode cX7_strip 26 = .ok (.if_icmp .ge 24, 3) := by decide +kernel
theorem dX7_strip_29 : decode cX7_strip 29 = .ok (.aload_n 0, 1) := by decide +kernel
theorem dX7_strip_30 : decode cX7_strip 30 = .ok (.getfield 9, 3) := by decide +kernel
theorem dX7_strip_33 : decode cX7_strip 33 = .ok (.iload_n 1, 1) := by decide +kernel
theorem dX7_strip_34 : decode cX7_strip 34 = .ok (.aaload, 1) := by decide +kernel
theorem dX7_strip_35 : decode cX7_strip 35 = .ok (.iload_n 2, 1) := by decide +kernel
theorem dX7_strip_36 : decode cX7_strip 36 = .ok (.iaload, 1) := by decide +kernel
theorem dX7_strip_37 : decode cX7_strip 37 = .ok (.iconst 3, 1) := by decide +kernel
theorem dX7_strip_38 : decode cX7_strip 38 = .ok (.invokestatic 26, 3) := by decide +kernel
theorem dX7_strip_41 : decode cX7_strip 41 = .ok (.ifCond .eq 9, 3) := by decide +kernel
theorem dX7_strip_44 : decode cX7_strip 44 = .ok (.iinc 2 1, 3) := by decide +kernel
theorem dX7_strip_47 : decode cX7_strip 47 = .ok (.goto (-23), 3) := by decide +kernel
theorem dX7_strip_50 : decode cX7_strip 50 = .ok (.iload_n 2, 1) := by decide +kernel
theorem dX7_strip_51 : decode cX7_strip 51 = .ok (.iload_n 3, 1) := by decide +kernel
theorem dX7_strip_52 : decode cX7_strip 52 = .ok (.if_icmp .ge 26, 3) := by decide +kernel
theorem dX7_strip_55 : decode cX7_strip 55 = .ok (.aload_n 0, 1) := by decide +kernel
theorem dX7_strip_56 : decode cX7_strip 56 = .ok (.getfield 9, 3) := by decide +kernel
theorem dX7_strip_59 : decode cX7_strip 59 = .ok (.iload_n 1, 1) := by decide +kernel
theorem dX7_strip_60 : decode cX7_strip 60 = .ok (.aaload, 1) := by decide +kernel
theorem dX7_strip_61 : decode cX7_strip 61 = .ok (.iload_n 3, 1) := by decide +kernel
theorem dX7_strip_62 : decode cX7_strip 62 = .ok (.iconst 1, 1) := by decide +kernel
theorem dX7_strip_63 : decode cX7_strip 63 = .ok (.isub, 1) := by decide +kernel
theorem dX7_strip_64 : decode cX7_strip 64 = .ok (.iaload, 1) := by decide +kernel
theorem dX7_strip_65 : decode cX7_strip 65 = .ok (.iconst 3, 1) := by decide +kernel
theorem dX7_strip_66 : decode cX7_strip 66 = .ok (.invokestatic 26, 3) := by decide +kernel
theorem dX7_strip_69 : decode cX7_strip 69 = .ok (.ifCond .eq 9, 3) := by decide +kernel
theorem dX7_strip_72 : decode cX7_strip 72 = .ok (.iinc 3 (-1), 3) := by decide +kernel
theorem dX7_strip_75 : decode cX7_strip 75 = .ok (.goto (-25), 3) := by decide +kernel
theorem dX7_strip_78 : decode cX7_strip 78 = .ok (.aload_n 0, 1) := by decide +kernel
theorem dX7_strip_79 : decode cX7_strip 79 = .ok (.getfield 9, 3) := by decide +kernel
theorem dX7_strip_82 : decode cX7_strip 82 = .ok (.iload_n 1, 1) := by decide +kernel
theorem dX7_strip_83 : decode cX7_strip 83 = .ok (.aaload, 1) := by decide +kernel
theorem dX7_strip_84 : decode cX7_strip 84 = .ok (.arraylength, 1) := by decide +kernel
theorem dX7_strip_85 : decode cX7_strip 85 = .ok (.istore 4, 2) := by decide +kernel
theorem dX7_strip_87 : decode cX7_strip 87 = .ok (.iload 4, 2) := by decide +kernel
theorem dX7_strip_89 : decode cX7_strip 89 = .ok (.aload_n 0, 1) := by decide +kernel
theorem dX7_strip_90 : decode cX7_strip 90 = .ok (.iload_n 1, 1) := by decide +kernel
theorem dX7_strip_91 : decode cX7_strip 91 = .ok (.aload_n 0, 1) := by decide +kernel
theorem dX7_strip_92 : decode cX7_strip 92 = .ok (.getfield 9, 3) := by decide +kernel
theorem dX7_strip_95 : decode cX7_strip 95 = .ok (.iload_n 1, 1) := by decide +kernel
theorem dX7_strip_96 : decode cX7_strip 96 = .ok (.aaload, 1) := by decide +kernel
theorem dX7_strip_97 : decode cX7_strip 97 = .ok (.iload_n 2, 1) := by decide +kernel
theorem dX7_strip_98 : decode cX7_strip 98 = .ok (.iload_n 3, 1) := by decide +kernel
theorem dX7_strip_99 : decode cX7_strip 99 = .ok (.invokestatic 82, 3) := by decide +kernel
theorem dX7_strip_102 : decode cX7_strip 102 = .ok (.invokevirtual 78, 3) := by decide +kernel
theorem dX7_strip_105 : decode cX7_strip 105 = .ok (.isub, 1) := by decide +kernel
theorem dX7_strip_106 : decode cX7_strip 106 = .ok (.ireturn, 1) := by decide +kernel
theorem dX7_turn_0 : decode cX7_turn 0 = .ok (.aload_n 0, 1) := by decide +kernel
theorem dX7_turn_1 : decode cX7_turn 1 = .ok (.iload_n 1, 1) := by decide +kernel
theorem dX7_turn_2 : decode cX7_turn 2 = .ok (.invokestatic 68, 3) := by decide +kernel
theorem dX7_turn_5 : decode cX7_turn 5 = .ok (.iconst 1, 1) := by decide +kernel
theorem dX7_turn_6 : decode cX7_turn 6 = .ok (.invokevirtual 71, 3) := by decide +kernel
theorem dX7_turn_9 : decode cX7_turn 9 = .ok (.ifCond .eq 7, 3) := by decide +kernel
theorem dX7_turn_12 : decode cX7_turn 12 = .ok (.iconst 0, 1) := by decide +kernel
theorem dX7_turn_13 : decode cX7_turn 13 = .ok (.goto 17, 3) := by decide +kernel
theorem dX7_turn_16 : decode cX7_turn 16 = .ok (.aload_n 0, 1) := by decide +kernel
theorem dX7_turn_17 : decode cX7_turn 17 = .ok (.iload_n 1, 1) := by decide +kernel
theorem dX7_turn_18 : decode cX7_turn 18 = .ok (.aload_n 0, 1) := by decide +kernel
theorem dX7_turn_19 : decode cX7_turn 19 = .ok (.getfield 9, 3) := by decide +kernel
theorem dX7_turn_22 : decode cX7_turn 22 = .ok (.iload_n 1, 1) := by decide +kernel
theorem dX7_turn_23 : decode cX7_turn 23 = .ok (.aaload, 1) := by decide +kernel
theorem dX7_turn_24 : decode cX7_turn 24 = .ok (.invokestatic 103, 3) := by decide +kernel
theorem dX7_turn_27 : decode cX7_turn 27 = .ok (.invokevirtual 78, 3) := by decide +kernel
theorem dX7_turn_30 : decode cX7_turn 30 = .ok (.ireturn, 1) := by decide +kernel
theorem dX7_write_0 : decode cX7_write 0 = .ok (.aload_n 0, 1) := by decide +kernel
theorem dX7_write_1 : decode cX7_write 1 = .ok (.iload_n 1, 1) := by decide +kernel
theorem dX7_write_2 : decode cX7_write 2 = .ok (.invokestatic 68, 3) := by decide +kernel
theorem dX7_write_5 : decode cX7_write 5 = .ok (.iconst 1, 1) := by decide +kernel
theorem dX7_write_6 : decode cX7_write 6 = .ok (.invokevirtual 71, 3) := by decide +kernel
theorem dX7_write_9 : decode cX7_write 9 = .ok (.ifCond .ne 33, 3) := by decide +kernel
theorem dX7_write_12 : decode cX7_write 12 = .ok (.aload_n 0, 1) := by decide +kernel
theorem dX7_write_13 : decode cX7_write 13 = .ok (.iload_n 2, 1) := by decide +kernel
theorem dX7_write_14 : decode cX7_write 14 = .ok (.iconst 0, 1) := by decide +kernel
theorem dX7_write_15 : decode cX7_write 15 = .ok (.ldc 107, 2) := by decide +kernel
theorem dX7_write_17 : decode cX7_write 17 = .ok (.invokestatic 22, 3) := by decide +kernel
theorem dX7_write_20 : decode cX7_write 20 = .ok (.ifCond .eq 10, 3) := by decide +kernel
theorem dX7_write_23 : decode cX7_write 23 = .ok (.iload_n 3, 1) := by decide +kernel
theorem dX7_write_24 : decode cX7_write 24 = .ok (.invokestatic 37, 3) := by decide +kernel
theorem dX7_write_27 : decode cX7_write 27 = .ok (.ifCond .ne 7, 3) := by decide +kernel
theorem dX7_write_30 : decode cX7_write 30 = .ok (.iconst 1, 1) := by decide +kernel
theorem dX7_write_31 : decode cX7_write 31 = .ok (.goto 4, 3) := by decide +kernel
theorem dX7_write_34 : decode cX7_write 34 = .ok (.iconst 0, 1) := by decide +kernel
theorem dX7_write_35 : decode cX7_write 35 = .ok (.iconst 2, 1) := by decide +kernel
theorem dX7_write_36 : decode cX7_write 36 = .ok (.invokevirtual 45, 3) := by decide +kernel
theorem dX7_write_39 : decode cX7_write 39 = .ok (.ifCond .eq 5, 3) := by decide +kernel
theorem dX7_write_42 : decode cX7_write 42 = .ok (.iconst 0, 1) := by decide +kernel
theorem dX7_write_43 : decode cX7_write 43 = .ok (.ireturn, 1) := by decide +kernel
theorem dX7_write_44 : decode cX7_write 44 = .ok (.iconst 1, 1) := by decide +kernel
theorem dX7_write_45 : decode cX7_write 45 = .ok (.newarray .int, 2) := by decide +kernel
theorem dX7_write_47 : decode cX7_write 47 = .ok (.dup, 1) := by decide +kernel
theorem dX7_write_48 : decode cX7_write 48 = .ok (.iconst 0, 1) := by decide +kernel
theorem dX7_write_49 : decode cX7_write 49 = .ok (.iload_n 2, 1) := by decide +kernel
theorem dX7_write_50 : decode cX7_write 50 = .ok (.iload_n 3, 1) := by decide +kernel
theorem dX7_write_51 : decode cX7_write 51 = .ok (.irem, 1) := by decide +kernel
theorem dX7_write_52 : decode cX7_write 52 = .ok (.iload_n 3, 1) := by decide +kernel
theorem dX7_write_53 : decode cX7_write 53 = .ok (.invokestatic 108, 3) := by decide +kernel
theorem dX7_write_56 : decode cX7_write 56 = .ok (.iastore, 1) := by decide +kernel
theorem dX7_write_57 : decode cX7_write 57 = .ok (.astore 4, 2) := by decide +kernel
theorem dX7_write_59 : decode cX7_write 59 = .ok (.iload_n 2, 1) := by decide +kernel
theorem dX7_write_60 : decode cX7_write 60 = .ok (.iload_n 3, 1) := by decide +kernel
theorem dX7_write_61 : decode cX7_write 61 = .ok (.idiv, 1) := by decide +kernel
theorem dX7_write_62 : decode cX7_write 62 = .ok (.istore 5, 2) := by decide +kernel
theorem dX7_write_64 : decode cX7_write 64 = .ok (.iload 5, 2) := by decide +kernel
theorem dX7_write_66 : decode cX7_write 66 = .ok (.ifCond .le 33, 3) := by decide +kernel
theorem dX7_write_69 : decode cX7_write 69 = .ok (.iconst 1, 1) := by decide +kernel
theorem dX7_write_70 : decode cX7_write 70 = .ok (.newarray .int, 2) := by decide +kernel
theorem dX7_write_72 : decode cX7_write 72 = .ok (.dup, 1) := by decide +kernel
theorem dX7_write_73 : decode cX7_write 73 = .ok (.iconst 0, 1) := by decide +kernel
theorem dX7_write_74 : decode cX7_write 74 = .ok (.iload 5, 2) := by decide +kernel
theorem dX7_write_76 : decode cX7_write 76 = .ok (.iload_n 3, 1) := by decide +kernel
theorem dX7_write_77 : decode cX7_write 77 = .ok (.irem, 1) := by decide +kernel
theorem dX7_write_78 : decode cX7_write 78 = .ok (.iload_n 3, 1) := by decide +kernel
theorem dX7_write_79 : decode cX7_write 79 = .ok (.invokestatic 108, 3) := by decide +kernel
theorem dX7_write_82 : decode cX7_write 82 = .ok (.iastore, 1) := by decide +kernel
theorem dX7_write_83 : decode cX7_write 83 = .ok (.aload 4, 2) := by decide +kernel
theorem dX7_write_85 : decode cX7_write 85 = .ok (.invokestatic 61, 3) := by decide +kernel
theorem dX7_write_88 : decode cX7_write 88 = .ok (.astore 4, 2) := by decide +kernel
theorem dX7_write_90 : decode cX7_write 90 = .ok (.iload 5, 2) := by decide +kernel
theorem dX7_write_92 : decode cX7_write 92 = .ok (.iload_n 3, 1) := by decide +kernel
theorem dX7_write_93 : decode cX7_write 93 = .ok (.idiv, 1) := by decide +kernel
theorem dX7_write_94 : decode cX7_write 94 = .ok (.istore 5, 2) := by decide +kernel
theorem dX7_write_96 : decode cX7_write 96 = .ok (.goto (-32), 3) := by decide +kernel
theorem dX7_write_99 : decode cX7_write 99 = .ok (.aload_n 0, 1) := by decide +kernel
theorem dX7_write_100 : decode cX7_write 100 = .ok (.getfield 9, 3) := by decide +kernel
theorem dX7_write_103 : decode cX7_write 103 = .ok (.iload_n 1, 1) := by decide +kernel
theorem dX7_write_104 : decode cX7_write 104 = .ok (.aaload, 1) := by decide +kernel
theorem dX7_write_105 : decode cX7_write 105 = .ok (.arraylength, 1) := by decide +kernel
theorem dX7_write_106 : decode cX7_write 106 = .ok (.aload 4, 2) := by decide +kernel
theorem dX7_write_108 : decode cX7_write 108 = .ok (.arraylength, 1) := by decide +kernel
theorem dX7_write_109 : decode cX7_write 109 = .ok (.iadd, 1) := by decide +kernel
theorem dX7_write_110 : decode cX7_write 110 = .ok (.bipush 40, 2) := by decide +kernel
theorem dX7_write_112 : decode cX7_write 112 = .ok (.if_icmp .le 6, 3) := by decide +kernel
theorem dX7_write_115 : decode cX7_write 115 = .ok (.bipush (-9), 2) := by decide +kernel
theorem dX7_write_117 : decode cX7_write 117 = .ok (.ireturn, 1) := by decide +kernel
theorem dX7_write_118 : decode cX7_write 118 = .ok (.aload_n 0, 1) := by decide +kernel
theorem dX7_write_119 : decode cX7_write 119 = .ok (.iload_n 1, 1) := by decide +kernel
theorem dX7_write_120 : decode cX7_write 120 = .ok (.aload_n 0, 1) := by decide +kernel
theorem dX7_write_121 : decode cX7_write 121 = .ok (.getfield 9, 3) := by decide +kernel
theorem dX7_write_124 : decode cX7_write 124 = .ok (.iload_n 1, 1) := by decide +kernel
theorem dX7_write_125 : decode cX7_write 125 = .ok (.aaload, 1) := by decide +kernel
theorem dX7_write_126 : decode cX7_write 126 = .ok (.aload 4, 2) := by decide +kernel
theorem dX7_write_128 : decode cX7_write 128 = .ok (.invokestatic 61, 3) := by decide +kernel
theorem dX7_write_131 : decode cX7_write 131 = .ok (.invokevirtual 78, 3) := by decide +kernel
theorem dX7_write_134 : decode cX7_write 134 = .ok (.pop, 1) := by decide +kernel
theorem dX7_write_135 : decode cX7_write 135 = .ok (.aload 4, 2) := by decide +kernel
theorem dX7_write_137 : decode cX7_write 137 = .ok (.arraylength, 1) := by decide +kernel
theorem dX7_write_138 : decode cX7_write 138 = .ok (.ireturn, 1) := by decide +kernel
theorem dX7_spelledOf_0 : decode cX7_spelledOf 0 = .ok (.iconst 2, 1) := by decide +kernel
theorem dX7_spelledOf_1 : decode cX7_spelledOf 1 = .ok (.aload_n 0, 1) := by decide +kernel
theorem dX7_spelledOf_2 : decode cX7_spelledOf 2 = .ok (.arraylength, 1) := by decide +kernel
theorem dX7_spelledOf_3 : decode cX7_spelledOf 3 = .ok (.imul, 1) := by decide +kernel
theorem dX7_spelledOf_4 : decode cX7_spelledOf 4 = .ok (.newarray .int, 2) := by decide +kernel
theorem dX7_spelledOf_6 : decode cX7_spelledOf 6 = .ok (.astore_n 1, 1) := by decide +kernel
theorem dX7_spelledOf_7 : decode cX7_spelledOf 7 = .ok (.iconst 0, 1) := by decide +kernel
theorem dX7_spelledOf_8 : decode cX7_spelledOf 8 = .ok (.istore_n 2, 1) := by decide +kernel
theorem dX7_spelledOf_9 : decode cX7_spelledOf 9 = .ok (.iload_n 2, 1) := by decide +kernel
theorem dX7_spelledOf_10 : decode cX7_spelledOf 10 = .ok (.aload_n 1, 1) := by decide +kernel
theorem dX7_spelledOf_11 : decode cX7_spelledOf 11 = .ok (.arraylength, 1) := by decide +kernel
theorem dX7_spelledOf_12 : decode cX7_spelledOf 12 = .ok (.if_icmp .ge 42, 3) := by decide +kernel
theorem dX7_spelledOf_15 : decode cX7_spelledOf 15 = .ok (.aload_n 1, 1) := by decide +kernel
theorem dX7_spelledOf_16 : decode cX7_spelledOf 16 = .ok (.iload_n 2, 1) := by decide +kernel
theorem dX7_spelledOf_17 : decode cX7_spelledOf 17 = .ok (.iload_n 2, 1) := by decide +kernel
theorem dX7_spelledOf_18 : decode cX7_spelledOf 18 = .ok (.iconst 2, 1) := by decide +kernel
theorem dX7_spelledOf_19 : decode cX7_spelledOf 19 = .ok (.irem, 1) := by decide +kernel
theorem dX7_spelledOf_20 : decode cX7_spelledOf 20 = .ok (.ifCond .ne 14, 3) := by decide +kernel
theorem dX7_spelledOf_23 : decode cX7_spelledOf 23 = .ok (.aload_n 0, 1) := by decide +kernel
theorem dX7_spelledOf_24 : decode cX7_spelledOf 24 = .ok (.iload_n 2, 1) := by decide +kernel
theorem dX7_spelledOf_25 : decode cX7_spelledOf 25 = .ok (.iconst 2, 1) := by decide +kernel
theorem dX7_spelledOf_26 : decode cX7_spelledOf 26 = .ok (.idiv, 1) := by decide +kernel
theorem dX7_spelledOf_27 : decode cX7_spelledOf 27 = .ok (.iaload, 1) := by decide +kernel
theorem dX7_spelledOf_28 : decode cX7_spelledOf 28 = .ok (.bipush 16, 2) := by decide +kernel
theorem dX7_spelledOf_30 : decode cX7_spelledOf 30 = .ok (.idiv, 1) := by decide +kernel
theorem dX7_spelledOf_31 : decode cX7_spelledOf 31 = .ok (.goto 11, 3) := by decide +kernel
theorem dX7_spelledOf_34 : decode cX7_spelledOf 34 = .ok (.aload_n 0, 1) := by decide +kernel
theorem dX7_spelledOf_35 : decode cX7_spelledOf 35 = .ok (.iload_n 2, 1) := by decide +kernel
theorem dX7_spelledOf_36 : decode cX7_spelledOf 36 = .ok (.iconst 2, 1) := by decide +kernel
theorem dX7_spelledOf_37 : decode cX7_spelledOf 37 = .ok (.idiv, 1) := by decide +kernel
theorem dX7_spelledOf_38 : decode cX7_spelledOf 38 = .ok (.iaload, 1) := by decide +kernel
theorem dX7_spelledOf_39 : decode cX7_spelledOf 39 = .ok (.bipush 16, 2) := by decide +kernel
theorem dX7_spelledOf_41 : decode cX7_spelledOf 41 = .ok (.irem, 1) := by decide +kernel
theorem dX7_spelledOf_42 : decode cX7_spelledOf 42 = .ok (.bipush 16, 2) := by decide +kernel
theorem dX7_spelledOf_44 : decode cX7_spelledOf 44 = .ok (.invokestatic 108, 3) := by decide +kernel
theorem dX7_spelledOf_47 : decode cX7_spelledOf 47 = .ok (.iastore, 1) := by decide +kernel
theorem dX7_spelledOf_48 : decode cX7_spelledOf 48 = .ok (.iinc 2 1, 3) := by decide +kernel
theorem dX7_spelledOf_51 : decode cX7_spelledOf 51 = .ok (.goto (-42), 3) := by decide +kernel
theorem dX7_spelledOf_54 : decode cX7_spelledOf 54 = .ok (.aload_n 1, 1) := by decide +kernel
theorem dX7_spelledOf_55 : decode cX7_spelledOf 55 = .ok (.areturn, 1) := by decide +kernel
theorem dX7_spell_0 : decode cX7_spell 0 = .ok (.aload_n 0, 1) := by decide +kernel
theorem dX7_spell_1 : decode cX7_spell 1 = .ok (.iload_n 1, 1) := by decide +kernel
theorem dX7_spell_2 : decode cX7_spell 2 = .ok (.invokestatic 68, 3) := by decide +kernel
theorem dX7_spell_5 : decode cX7_spell 5 = .ok (.ifCond .ne 10, 3) := by decide +kernel
theorem dX7_spell_8 : decode cX7_spell 8 = .ok (.iload_n 2, 1) := by decide +kernel
theorem dX7_spell_9 : decode cX7_spell 9 = .ok (.invokestatic 68, 3) := by decide +kernel
theorem dX7_spell_12 : decode cX7_spell 12 = .ok (.ifCond .eq 7, 3) := by decide +kernel
theorem dX7_spell_15 : decode cX7_spell 15 = .ok (.iconst 1, 1) := by decide +kernel
theorem dX7_spell_16 : decode cX7_spell 16 = .ok (.goto 4, 3) := by decide +kernel
theorem dX7_spell_19 : decode cX7_spell 19 = .ok (.iconst 0, 1) := by decide +kernel
theorem dX7_spell_20 : decode cX7_spell 20 = .ok (.iconst 1, 1) := by decide +kernel
theorem dX7_spell_21 : decode cX7_spell 21 = .ok (.invokevirtual 71, 3) := by decide +kernel
theorem dX7_spell_24 : decode cX7_spell 24 = .ok (.ifCond .ne 21, 3) := by decide +kernel
theorem dX7_spell_27 : decode cX7_spell 27 = .ok (.aload_n 0, 1) := by decide +kernel
theorem dX7_spell_28 : decode cX7_spell 28 = .ok (.iload_n 1, 1) := by decide +kernel
theorem dX7_spell_29 : decode cX7_spell 29 = .ok (.iload_n 2, 1) := by decide +kernel
theorem dX7_spell_30 : decode cX7_spell 30 = .ok (.if_icmp .ne 7, 3) := by decide +kernel
theorem dX7_spell_33 : decode cX7_spell 33 = .ok (.iconst 1, 1) := by decide +kernel
theorem dX7_spell_34 : decode cX7_spell 34 = .ok (.goto 4, 3) := by decide +kernel
theorem dX7_spell_37 : decode cX7_spell 37 = .ok (.iconst 0, 1) := by decide +kernel
theorem dX7_spell_38 : decode cX7_spell 38 = .ok (.iconst 2, 1) := by decide +kernel
theorem dX7_spell_39 : decode cX7_spell 39 = .ok (.invokevirtual 45, 3) := by decide +kernel
theorem dX7_spell_42 : decode cX7_spell 42 = .ok (.ifCond .eq 5, 3) := by decide +kernel
theorem dX7_spell_45 : decode cX7_spell 45 = .ok (.iconst 0, 1) := by decide +kernel
theorem dX7_spell_46 : decode cX7_spell 46 = .ok (.ireturn, 1) := by decide +kernel
theorem dX7_spell_47 : decode cX7_spell 47 = .ok (.iconst 2, 1) := by decide +kernel
theorem dX7_spell_48 : decode cX7_spell 48 = .ok (.aload_n 0, 1) := by decide +kernel
theorem dX7_spell_49 : decode cX7_spell 49 = .ok (.getfield 9, 3) := by decide +kernel
theorem dX7_spell_52 : decode cX7_spell 52 = .ok (.iload_n 1, 1) := by decide +kernel
theorem dX7_spell_53 : decode cX7_spell 53 = .ok (.aaload, 1) := by decide +kernel
theorem dX7_spell_54 : decode cX7_spell 54 = .ok (.arraylength, 1) := by decide +kernel
theorem dX7_spell_55 : decode cX7_spell 55 = .ok (.imul, 1) := by decide +kernel
theorem dX7_spell_56 : decode cX7_spell 56 = .ok (.bipush 40, 2) := by decide +kernel
theorem dX7_spell_58 : decode cX7_spell 58 = .ok (.if_icmp .le 8, 3) := by decide +kernel
theorem dX7_spell_61 : decode cX7_spell 61 = .ok (.bipush (-9), 2) := by decide +kernel
theorem dX7_spell_63 : decode cX7_spell 63 = .ok (.goto 17, 3) := by decide +kernel
theorem dX7_spell_66 : decode cX7_spell 66 = .ok (.aload_n 0, 1) := by decide +kernel
theorem dX7_spell_67 : decode cX7_spell 67 = .ok (.iload_n 2, 1) := by decide +kernel
theorem dX7_spell_68 : decode cX7_spell 68 = .ok (.aload_n 0, 1) := by decide +kernel
theorem dX7_spell_69 : decode cX7_spell 69 = .ok (.getfield 9, 3) := by decide +kernel
theorem dX7_spell_72 : decode cX7_spell 72 = .ok (.iload_n 1, 1) := by decide +kernel
theorem dX7_spell_73 : decode cX7_spell 73 = .ok (.aaload, 1) := by decide +kernel
theorem dX7_spell_74 : decode cX7_spell 74 = .ok (.invokestatic 112, 3) := by decide +kernel
theorem dX7_spell_77 : decode cX7_spell 77 = .ok (.invokevirtual 78, 3) := by decide +kernel
theorem dX7_spell_80 : decode cX7_spell 80 = .ok (.ireturn, 1) := by decide +kernel
theorem dX7_read_0 : decode cX7_read 0 = .ok (.aload_n 0, 1) := by decide +kernel
theorem dX7_read_1 : decode cX7_read 1 = .ok (.iload_n 1, 1) := by decide +kernel
theorem dX7_read_2 : decode cX7_read 2 = .ok (.invokestatic 68, 3) := by decide +kernel
theorem dX7_read_5 : decode cX7_read 5 = .ok (.ifCond .ne 10, 3) := by decide +kernel
theorem dX7_read_8 : decode cX7_read 8 = .ok (.iload_n 2, 1) := by decide +kernel
theorem dX7_read_9 : decode cX7_read 9 = .ok (.invokestatic 68, 3) := by decide +kernel
theorem dX7_read_12 : decode cX7_read 12 = .ok (.ifCond .eq 7, 3) := by decide +kernel
theorem dX7_read_15 : decode cX7_read 15 = .ok (.iconst 1, 1) := by decide +kernel
theorem dX7_read_16 : decode cX7_read 16 = .ok (.goto 4, 3) := by decide +kernel
theorem dX7_read_19 : decode cX7_read 19 = .ok (.iconst 0, 1) := by decide +kernel
theorem dX7_read_20 : decode cX7_read 20 = .ok (.iconst 1, 1) := by decide +kernel
theorem dX7_read_21 : decode cX7_read 21 = .ok (.invokevirtual 71, 3) := by decide +kernel
theorem dX7_read_24 : decode cX7_read 24 = .ok (.ifCond .ne 21, 3) := by decide +kernel
theorem dX7_read_27 : decode cX7_read 27 = .ok (.aload_n 0, 1) := by decide +kernel
theorem dX7_read_28 : decode cX7_read 28 = .ok (.iload_n 1, 1) := by decide +kernel
theorem dX7_read_29 : decode cX7_read 29 = .ok (.iload_n 2, 1) := by decide +kernel
theorem dX7_read_30 : decode cX7_read 30 = .ok (.if_icmp .ne 7, 3) := by decide +kernel
theorem dX7_read_33 : decode cX7_read 33 = .ok (.iconst 1, 1) := by decide +kernel
theorem dX7_read_34 : decode cX7_read 34 = .ok (.goto 4, 3) := by decide +kernel
theorem dX7_read_37 : decode cX7_read 37 = .ok (.iconst 0, 1) := by decide +kernel
theorem dX7_read_38 : decode cX7_read 38 = .ok (.iconst 2, 1) := by decide +kernel
theorem dX7_read_39 : decode cX7_read 39 = .ok (.invokevirtual 45, 3) := by decide +kernel
theorem dX7_read_42 : decode cX7_read 42 = .ok (.ifCond .eq 5, 3) := by decide +kernel
theorem dX7_read_45 : decode cX7_read 45 = .ok (.iconst 0, 1) := by decide +kernel
theorem dX7_read_46 : decode cX7_read 46 = .ok (.ireturn, 1) := by decide +kernel
theorem dX7_read_47 : decode cX7_read 47 = .ok (.aload_n 0, 1) := by decide +kernel
theorem dX7_read_48 : decode cX7_read 48 = .ok (.getfield 9, 3) := by decide +kernel
theorem dX7_read_51 : decode cX7_read 51 = .ok (.iload_n 1, 1) := by decide +kernel
theorem dX7_read_52 : decode cX7_read 52 = .ok (.aaload, 1) := by decide +kernel
theorem dX7_read_53 : decode cX7_read 53 = .ok (.astore_n 3, 1) := by decide +kernel
theorem dX7_read_54 : decode cX7_read 54 = .ok (.aload_n 3, 1) := by decide +kernel
theorem dX7_read_55 : decode cX7_read 55 = .ok (.astore 4, 2) := by decide +kernel
theorem dX7_read_57 : decode cX7_read 57 = .ok (.aload 4, 2) := by decide +kernel
theorem dX7_read_59 : decode cX7_read 59 = .ok (.arraylength, 1) := by decide +kernel
theorem dX7_read_60 : decode cX7_read 60 = .ok (.istore 5, 2) := by decide +kernel
theorem dX7_read_62 : decode cX7_read 62 = .ok (.iconst 0, 1) := by decide +kernel
theorem dX7_read_63 : decode cX7_read 63 = .ok (.istore 6, 2) := by decide +kernel
theorem dX7_read_65 : decode cX7_read 65 = .ok (.iload 6, 2) := by decide +kernel
theorem dX7_read_67 : decode cX7_read 67 = .ok (.iload 5, 2) := by decide +kernel
theorem dX7_read_69 : decode cX7_read 69 = .ok (.if_icmp .ge 30, 3) := by decide +kernel
theorem dX7_read_72 : decode cX7_read 72 = .ok (.aload 4, 2) := by decide +kernel
theorem dX7_read_74 : decode cX7_read 74 = .ok (.iload 6, 2) := by decide +kernel
theorem dX7_read_76 : decode cX7_read 76 = .ok (.iaload, 1) := by decide +kernel
theorem dX7_read_77 : decode cX7_read 77 = .ok (.istore 7, 2) := by decide +kernel
theorem dX7_read_79 : decode cX7_read 79 = .ok (.iload 7, 2) := by decide +kernel
theorem dX7_read_81 : decode cX7_read 81 = .ok (.bipush 16, 2) := by decide +kernel
theorem dX7_read_83 : decode cX7_read 83 = .ok (.invokestatic 115, 3) := by decide +kernel
theorem dX7_read_86 : decode cX7_read 86 = .ok (.iconst (-1), 1) := by decide +kernel
theorem dX7_read_87 : decode cX7_read 87 = .ok (.if_icmp .ne 6, 3) := by decide +kernel
theorem dX7_read_90 : decode cX7_read 90 = .ok (.bipush (-9), 2) := by decide +kernel
theorem dX7_read_92 : decode cX7_read 92 = .ok (.ireturn, 1) := by decide +kernel
theorem dX7_read_93 : decode cX7_read 93 = .ok (.iinc 6 1, 3) := by decide +kernel
theorem dX7_read_96 : decode cX7_read 96 = .ok (.goto (-31), 3) := by decide +kernel
theorem dX7_read_99 : decode cX7_read 99 = .ok (.aload_n 3, 1) := by decide +kernel
theorem dX7_read_100 : decode cX7_read 100 = .ok (.arraylength, 1) := by decide +kernel
theorem dX7_read_101 : decode cX7_read 101 = .ok (.iconst 2, 1) := by decide +kernel
theorem dX7_read_102 : decode cX7_read 102 = .ok (.irem, 1) := by decide +kernel
theorem dX7_read_103 : decode cX7_read 103 = .ok (.iconst 1, 1) := by decide +kernel
theorem dX7_read_104 : decode cX7_read 104 = .ok (.if_icmp .ne 6, 3) := by decide +kernel
theorem dX7_read_107 : decode cX7_read 107 = .ok (.bipush (-9), 2) := by decide +kernel
theorem dX7_read_109 : decode cX7_read 109 = .ok (.ireturn, 1) := by decide +kernel
theorem dX7_read_110 : decode cX7_read 110 = .ok (.aload_n 3, 1) := by decide +kernel
theorem dX7_read_111 : decode cX7_read 111 = .ok (.arraylength, 1) := by decide +kernel
theorem dX7_read_112 : decode cX7_read 112 = .ok (.iconst 2, 1) := by decide +kernel
theorem dX7_read_113 : decode cX7_read 113 = .ok (.idiv, 1) := by decide +kernel
theorem dX7_read_114 : decode cX7_read 114 = .ok (.newarray .int, 2) := by decide +kernel
theorem dX7_read_116 : decode cX7_read 116 = .ok (.astore 4, 2) := by decide +kernel
theorem dX7_read_118 : decode cX7_read 118 = .ok (.iconst 0, 1) := by decide +kernel
theorem dX7_read_119 : decode cX7_read 119 = .ok (.istore 5, 2) := by decide +kernel
theorem dX7_read_121 : decode cX7_read 121 = .ok (.iload 5, 2) := by decide +kernel
theorem dX7_read_123 : decode cX7_read 123 = .ok (.aload 4, 2) := by decide +kernel
theorem dX7_read_125 : decode cX7_read 125 = .ok (.arraylength, 1) := by decide +kernel
theorem dX7_read_126 : decode cX7_read 126 = .ok (.if_icmp .ge 42, 3) := by decide +kernel
theorem dX7_read_129 : decode cX7_read 129 = .ok (.aload 4, 2) := by decide +kernel
theorem dX7_read_131 : decode cX7_read 131 = .ok (.iload 5, 2) := by decide +kernel
theorem dX7_read_133 : decode cX7_read 133 = .ok (.bipush 16, 2) := by decide +kernel
theorem dX7_read_135 : decode cX7_read 135 = .ok (.aload_n 3, 1) := by decide +kernel
theorem dX7_read_136 : decode cX7_read 136 = .ok (.iconst 2, 1) := by decide +kernel
theorem dX7_read_137 : decode cX7_read 137 = .ok (.iload 5, 2) := by decide +kernel
theorem dX7_read_139 : decode cX7_read 139 = .ok (.imul, 1) := by decide +kernel
theorem dX7_read_140 : decode cX7_read 140 = .ok (.iaload, 1) := by decide +kernel
theorem dX7_read_141 : decode cX7_read 141 = .ok (.bipush 16, 2) := by decide +kernel
theorem dX7_read_143 : decode cX7_read 143 = .ok (.invokestatic 115, 3) := by decide +kernel
theorem dX7_read_146 : decode cX7_read 146 = .ok (.imul, 1) := by decide +kernel
theorem dX7_read_147 : decode cX7_read 147 = .ok (.aload_n 3, 1) := by decide +kernel
theorem dX7_read_148 : decode cX7_read 148 = .ok (.iconst 2, 1) := by decide +kernel
theorem dX7_read_149 : decode cX7_read 149 = .ok (.iload 5, 2) := by decide +kernel
theorem dX7_read_151 : decode cX7_read 151 = .ok (.imul, 1) := by decide +kernel
theorem dX7_read_152 : decode cX7_read 152 = .ok (.iconst 1, 1) := by decide +kernel
theorem dX7_read_153 : decode cX7_read 153 = .ok (.iadd, 1) := by decide +kernel
theorem dX7_read_154 : decode cX7_read 154 = .ok (.iaload, 1) := by decide +kernel
theorem dX7_read_155 : decode cX7_read 155 = .ok (.bipush 16, 2) := by decide +kernel
theorem dX7_read_157 : decode cX7_read 157 = .ok (.invokestatic 115, 3) := by decide +kernel
theorem dX7_read_160 : decode cX7_read 160 = .ok (.iadd, 1) := by decide +kernel
theorem dX7_read_161 : decode cX7_read 161 = .ok (.iastore, 1) := by decide +kernel
theorem dX7_read_162 : decode cX7_read 162 = .ok (.iinc 5 1, 3) := by decide +kernel
theorem dX7_read_165 : decode cX7_read 165 = .ok (.goto (-44), 3) := by decide +kernel
theorem dX7_read_168 : decode cX7_read 168 = .ok (.aload_n 0, 1) := by decide +kernel
theorem dX7_read_169 : decode cX7_read 169 = .ok (.iload_n 2, 1) := by decide +kernel
theorem dX7_read_170 : decode cX7_read 170 = .ok (.aload 4, 2) := by decide +kernel
theorem dX7_read_172 : decode cX7_read 172 = .ok (.invokevirtual 78, 3) := by decide +kernel
theorem dX7_read_175 : decode cX7_read 175 = .ok (.ireturn, 1) := by decide +kernel
theorem dX7_isHigh_0 : decode cX7_isHigh 0 = .ok (.iload_n 0, 1) := by decide +kernel
theorem dX7_isHigh_1 : decode cX7_isHigh 1 = .ok (.ldc 118, 2) := by decide +kernel
theorem dX7_isHigh_3 : decode cX7_isHigh 3 = .ok (.ldc 119, 2) := by decide +kernel
theorem dX7_isHigh_5 : decode cX7_isHigh 5 = .ok (.invokestatic 22, 3) := by decide +kernel
theorem dX7_isHigh_8 : decode cX7_isHigh 8 = .ok (.ireturn, 1) := by decide +kernel
theorem dX7_isLow_0 : decode cX7_isLow 0 = .ok (.iload_n 0, 1) := by decide +kernel
theorem dX7_isLow_1 : decode cX7_isLow 1 = .ok (.ldc 120, 2) := by decide +kernel
theorem dX7_isLow_3 : decode cX7_isLow 3 = .ok (.ldc 121, 2) := by decide +kernel
theorem dX7_isLow_5 : decode cX7_isLow 5 = .ok (.invokestatic 22, 3) := by decide +kernel
theorem dX7_isLow_8 : decode cX7_isLow 8 = .ok (.ireturn, 1) := by decide +kernel
theorem dX7_isHalf_0 : decode cX7_isHalf 0 = .ok (.iload_n 0, 1) := by decide +kernel
theorem dX7_isHalf_1 : decode cX7_isHalf 1 = .ok (.invokestatic 122, 3) := by decide +kernel
theorem dX7_isHalf_4 : decode cX7_isHalf 4 = .ok (.ifCond .ne 10, 3) := by decide +kernel
theorem dX7_isHalf_7 : decode cX7_isHalf 7 = .ok (.iload_n 0, 1) := by decide +kernel
theorem dX7_isHalf_8 : decode cX7_isHalf 8 = .ok (.invokestatic 125, 3) := by decide +kernel
theorem dX7_isHalf_11 : decode cX7_isHalf 11 = .ok (.ifCond .eq 7, 3) := by decide +kernel
theorem dX7_isHalf_14 : decode cX7_isHalf 14 = .ok (.iconst 1, 1) := by decide +kernel
theorem dX7_isHalf_15 : decode cX7_isHalf 15 = .ok (.goto 4, 3) := by decide +kernel
theorem dX7_isHalf_18 : decode cX7_isHalf 18 = .ok (.iconst 0, 1) := by decide +kernel
theorem dX7_isHalf_19 : decode cX7_isHalf 19 = .ok (.ireturn, 1) := by decide +kernel
theorem dX7_sent_0 : decode cX7_sent 0 = .ok (.iload_n 0, 1) := by decide +kernel
theorem dX7_sent_1 : decode cX7_sent 1 = .ok (.ldc 128, 2) := by decide +kernel
theorem dX7_sent_3 : decode cX7_sent 3 = .ok (.if_icmp .ge 13, 3) := by decide +kernel
theorem dX7_sent_6 : decode cX7_sent 6 = .ok (.iconst 1, 1) := by decide +kernel
theorem dX7_sent_7 : decode cX7_sent 7 = .ok (.newarray .int, 2) := by decide +kernel
theorem dX7_sent_9 : decode cX7_sent 9 = .ok (.dup, 1) := by decide +kernel
theorem dX7_sent_10 : decode cX7_sent 10 = .ok (.iconst 0, 1) := by decide +kernel
theorem dX7_sent_11 : decode cX7_sent 11 = .ok (.iload_n 0, 1) := by decide +kernel
theorem dX7_sent_12 : decode cX7_sent 12 = .ok (.iastore, 1) := by decide +kernel
theorem dX7_sent_13 : decode cX7_sent 13 = .ok (.goto 34, 3) := by decide +kernel
theorem dX7_sent_16 : decode cX7_sent 16 = .ok (.iconst 2, 1) := by decide +kernel
theorem dX7_sent_17 : decode cX7_sent 17 = .ok (.newarray .int, 2) := by decide +kernel
theorem dX7_sent_19 : decode cX7_sent 19 = .ok (.dup, 1) := by decide +kernel
theorem dX7_sent_20 : decode cX7_sent 20 = .ok (.iconst 0, 1) := by decide +kernel
theorem dX7_sent_21 : decode cX7_sent 21 = .ok (.ldc 118, 2) := by decide +kernel
theorem dX7_sent_23 : decode cX7_sent 23 = .ok (.iload_n 0, 1) := by decide +kernel
theorem dX7_sent_24 : decode cX7_sent 24 = .ok (.ldc 128, 2) := by decide +kernel
theorem dX7_sent_26 : decode cX7_sent 26 = .ok (.isub, 1) := by decide +kernel
theorem dX7_sent_27 : decode cX7_sent 27 = .ok (.sipush 1024, 3) := by decide +kernel
theorem dX7_sent_30 : decode cX7_sent 30 = .ok (.idiv, 1) := by decide +kernel
theorem dX7_sent_31 : decode cX7_sent 31 = .ok (.iadd, 1) := by decide +kernel
theorem dX7_sent_32 : decode cX7_sent 32 = .ok (.iastore, 1) := by decide +kernel
theorem dX7_sent_33 : decode cX7_sent 33 = .ok (.dup, 1) := by decide +kernel
theorem dX7_sent_34 : decode cX7_sent 34 = .ok (.iconst 1, 1) := by decide +kernel
theorem dX7_sent_35 : decode cX7_sent 35 = .ok (.ldc 120, 2) := by decide +kernel
theorem dX7_sent_37 : decode cX7_sent 37 = .ok (.iload_n 0, 1) := by decide +kernel
theorem dX7_sent_38 : decode cX7_sent 38 = .ok (.ldc 128, 2) := by decide +kernel
theorem dX7_sent_40 : decode cX7_sent 40 = .ok (.isub, 1) := by decide +kernel
theorem dX7_sent_41 : decode cX7_sent 41 = .ok (.sipush 1024, 3) := by decide +kernel
theorem dX7_sent_44 : decode cX7_sent 44 = .ok (.irem, 1) := by decide +kernel
theorem dX7_sent_45 : decode cX7_sent 45 = .ok (.iadd, 1) := by decide +kernel
theorem dX7_sent_46 : decode cX7_sent 46 = .ok (.iastore, 1) := by decide +kernel
theorem dX7_sent_47 : decode cX7_sent 47 = .ok (.areturn, 1) := by decide +kernel
theorem dX7_both_0 : decode cX7_both 0 = .ok (.ldc 128, 2) := by decide +kernel
theorem dX7_both_2 : decode cX7_both 2 = .ok (.sipush 1024, 3) := by decide +kernel
theorem dX7_both_5 : decode cX7_both 5 = .ok (.iload_n 0, 1) := by decide +kernel
theorem dX7_both_6 : decode cX7_both 6 = .ok (.ldc 118, 2) := by decide +kernel
theorem dX7_both_8 : decode cX7_both 8 = .ok (.isub, 1) := by decide +kernel
theorem dX7_both_9 : decode cX7_both 9 = .ok (.imul, 1) := by decide +kernel
theorem dX7_both_10 : decode cX7_both 10 = .ok (.iadd, 1) := by decide +kernel
theorem dX7_both_11 : decode cX7_both 11 = .ok (.iload_n 1, 1) := by decide +kernel
theorem dX7_both_12 : decode cX7_both 12 = .ok (.iadd, 1) := by decide +kernel
theorem dX7_both_13 : decode cX7_both 13 = .ok (.ldc 120, 2) := by decide +kernel
theorem dX7_both_15 : decode cX7_both 15 = .ok (.isub, 1) := by decide +kernel
theorem dX7_both_16 : decode cX7_both 16 = .ok (.ireturn, 1) := by decide +kernel
theorem dX7_turnedUnit_0 : decode cX7_turnedUnit 0 = .ok (.iload_n 0, 1) := by decide +kernel
theorem dX7_turnedUnit_1 : decode cX7_turnedUnit 1 = .ok (.sipush 256, 3) := by decide +kernel
theorem dX7_turnedUnit_4 : decode cX7_turnedUnit 4 = .ok (.irem, 1) := by decide +kernel
theorem dX7_turnedUnit_5 : decode cX7_turnedUnit 5 = .ok (.sipush 256, 3) := by decide +kernel
theorem dX7_turnedUnit_8 : decode cX7_turnedUnit 8 = .ok (.imul, 1) := by decide +kernel
theorem dX7_turnedUnit_9 : decode cX7_turnedUnit 9 = .ok (.iload_n 0, 1) := by decide +kernel
theorem dX7_turnedUnit_10 : decode cX7_turnedUnit 10 = .ok (.sipush 256, 3) := by decide +kernel
theorem dX7_turnedUnit_13 : decode cX7_turnedUnit 13 = .ok (.idiv, 1) := by decide +kernel
theorem dX7_turnedUnit_14 : decode cX7_turnedUnit 14 = .ok (.iadd, 1) := by decide +kernel
theorem dX7_turnedUnit_15 : decode cX7_turnedUnit 15 = .ok (.ireturn, 1) := by decide +kernel
theorem dX7_behind_0 : decode cX7_behind 0 = .ok (.aload_n 0, 1) := by decide +kernel
theorem dX7_behind_1 : decode cX7_behind 1 = .ok (.getfield 9, 3) := by decide +kernel
theorem dX7_behind_4 : decode cX7_behind 4 = .ok (.iconst 4, 1) := by decide +kernel
theorem dX7_behind_5 : decode cX7_behind 5 = .ok (.iload_n 1, 1) := by decide +kernel
theorem dX7_behind_6 : decode cX7_behind 6 = .ok (.iadd, 1) := by decide +kernel
theorem dX7_behind_7 : decode cX7_behind 7 = .ok (.aaload, 1) := by decide +kernel
theorem dX7_behind_8 : decode cX7_behind 8 = .ok (.arraylength, 1) := by decide +kernel
theorem dX7_behind_9 : decode cX7_behind 9 = .ok (.aload_n 2, 1) := by decide +kernel
theorem dX7_behind_10 : decode cX7_behind 10 = .ok (.arraylength, 1) := by decide +kernel
theorem dX7_behind_11 : decode cX7_behind 11 = .ok (.iadd, 1) := by decide +kernel
theorem dX7_behind_12 : decode cX7_behind 12 = .ok (.bipush 24, 2) := by decide +kernel
theorem dX7_behind_14 : decode cX7_behind 14 = .ok (.if_icmp .le 8, 3) := by decide +kernel
theorem dX7_behind_17 : decode cX7_behind 17 = .ok (.bipush (-9), 2) := by decide +kernel
theorem dX7_behind_19 : decode cX7_behind 19 = .ok (.goto 22, 3) := by decide +kernel
theorem dX7_behind_22 : decode cX7_behind 22 = .ok (.aload_n 0, 1) := by decide +kernel
theorem dX7_behind_23 : decode cX7_behind 23 = .ok (.iconst 4, 1) := by decide +kernel
theorem dX7_behind_24 : decode cX7_behind 24 = .ok (.iload_n 1, 1) := by decide +kernel
theorem dX7_behind_25 : decode cX7_behind 25 = .ok (.iadd, 1) := by decide +kernel
theorem dX7_behind_26 : decode cX7_behind 26 = .ok (.aload_n 0, 1) := by decide +kernel
theorem dX7_behind_27 : decode cX7_behind 27 = .ok (.getfield 9, 3) := by decide +kernel
theorem dX7_behind_30 : decode cX7_behind 30 = .ok (.iconst 4, 1) := by decide +kernel
theorem dX7_behind_31 : decode cX7_behind 31 = .ok (.iload_n 1, 1) := by decide +kernel
theorem dX7_behind_32 : decode cX7_behind 32 = .ok (.iadd, 1) := by decide +kernel
theorem dX7_behind_33 : decode cX7_behind 33 = .ok (.aaload, 1) := by decide +kernel
theorem dX7_behind_34 : decode cX7_behind 34 = .ok (.aload_n 2, 1) := by decide +kernel
theorem dX7_behind_35 : decode cX7_behind 35 = .ok (.invokestatic 61, 3) := by decide +kernel
theorem dX7_behind_38 : decode cX7_behind 38 = .ok (.invokevirtual 78, 3) := by decide +kernel
theorem dX7_behind_41 : decode cX7_behind 41 = .ok (.ireturn, 1) := by decide +kernel
theorem dX7_send_0 : decode cX7_send 0 = .ok (.aload_n 0, 1) := by decide +kernel
theorem dX7_send_1 : decode cX7_send 1 = .ok (.iload_n 1, 1) := by decide +kernel
theorem dX7_send_2 : decode cX7_send 2 = .ok (.invokestatic 129, 3) := by decide +kernel
theorem dX7_send_5 : decode cX7_send 5 = .ok (.iconst 1, 1) := by decide +kernel
theorem dX7_send_6 : decode cX7_send 6 = .ok (.invokevirtual 71, 3) := by decide +kernel
theorem dX7_send_9 : decode cX7_send 9 = .ok (.ifCond .ne 26, 3) := by decide +kernel
theorem dX7_send_12 : decode cX7_send 12 = .ok (.aload_n 0, 1) := by decide +kernel
theorem dX7_send_13 : decode cX7_send 13 = .ok (.iload_n 2, 1) := by decide +kernel
theorem dX7_send_14 : decode cX7_send 14 = .ok (.iconst 0, 1) := by decide +kernel
theorem dX7_send_15 : decode cX7_send 15 = .ok (.ldc 132, 2) := by decide +kernel
theorem dX7_send_17 : decode cX7_send 17 = .ok (.invokestatic 22, 3) := by decide +kernel
theorem dX7_send_20 : decode cX7_send 20 = .ok (.ifCond .ne 7, 3) := by decide +kernel
theorem dX7_send_23 : decode cX7_send 23 = .ok (.iconst 1, 1) := by decide +kernel
theorem dX7_send_24 : decode cX7_send 24 = .ok (.goto 4, 3) := by decide +kernel
theorem dX7_send_27 : decode cX7_send 27 = .ok (.iconst 0, 1) := by decide +kernel
theorem dX7_send_28 : decode cX7_send 28 = .ok (.iconst 2, 1) := by decide +kernel
theorem dX7_send_29 : decode cX7_send 29 = .ok (.invokevirtual 45, 3) := by decide +kernel
theorem dX7_send_32 : decode cX7_send 32 = .ok (.ifCond .eq 7, 3) := by decide +kernel
theorem dX7_send_35 : decode cX7_send 35 = .ok (.iconst 0, 1) := by decide +kernel
theorem dX7_send_36 : decode cX7_send 36 = .ok (.goto 12, 3) := by decide +kernel
theorem dX7_send_39 : decode cX7_send 39 = .ok (.aload_n 0, 1) := by decide +kernel
theorem dX7_send_40 : decode cX7_send 40 = .ok (.iload_n 1, 1) := by decide +kernel
theorem dX7_send_41 : decode cX7_send 41 = .ok (.iload_n 2, 1) := by decide +kernel
theorem dX7_send_42 : decode cX7_send 42 = .ok (.invokestatic 133, 3) := by decide +kernel
theorem dX7_send_45 : decode cX7_send 45 = .ok (.invokevirtual 137, 3) := by decide +kernel
theorem dX7_send_48 : decode cX7_send 48 = .ok (.ireturn, 1) := by decide +kernel
theorem dX7_put_0 : decode cX7_put 0 = .ok (.aload_n 0, 1) := by decide +kernel
theorem dX7_put_1 : decode cX7_put 1 = .ok (.iload_n 1, 1) := by decide +kernel
theorem dX7_put_2 : decode cX7_put 2 = .ok (.invokestatic 129, 3) := by decide +kernel
theorem dX7_put_5 : decode cX7_put 5 = .ok (.iconst 1, 1) := by decide +kernel
theorem dX7_put_6 : decode cX7_put 6 = .ok (.invokevirtual 71, 3) := by decide +kernel
theorem dX7_put_9 : decode cX7_put 9 = .ok (.ifCond .ne 26, 3) := by decide +kernel
theorem dX7_put_12 : decode cX7_put 12 = .ok (.aload_n 0, 1) := by decide +kernel
theorem dX7_put_13 : decode cX7_put 13 = .ok (.iload_n 2, 1) := by decide +kernel
theorem dX7_put_14 : decode cX7_put 14 = .ok (.iconst 0, 1) := by decide +kernel
theorem dX7_put_15 : decode cX7_put 15 = .ok (.ldc 140, 2) := by decide +kernel
theorem dX7_put_17 : decode cX7_put 17 = .ok (.invokestatic 22, 3) := by decide +kernel
theorem dX7_put_20 : decode cX7_put 20 = .ok (.ifCond .ne 7, 3) := by decide +kernel
theorem dX7_put_23 : decode cX7_put 23 = .ok (.iconst 1, 1) := by decide +kernel
theorem dX7_put_24 : decode cX7_put 24 = .ok (.goto 4, 3) := by decide +kernel
theorem dX7_put_27 : decode cX7_put 27 = .ok (.iconst 0, 1) := by decide +kernel
theorem dX7_put_28 : decode cX7_put 28 = .ok (.iconst 2, 1) := by decide +kernel
theorem dX7_put_29 : decode cX7_put 29 = .ok (.invokevirtual 45, 3) := by decide +kernel
theorem dX7_put_32 : decode cX7_put 32 = .ok (.ifCond .eq 7, 3) := by decide +kernel
theorem dX7_put_35 : decode cX7_put 35 = .ok (.iconst 0, 1) := by decide +kernel
theorem dX7_put_36 : decode cX7_put 36 = .ok (.goto 15, 3) := by decide +kernel
theorem dX7_put_39 : decode cX7_put 39 = .ok (.aload_n 0, 1) := by decide +kernel
theorem dX7_put_40 : decode cX7_put 40 = .ok (.iload_n 1, 1) := by decide +kernel
theorem dX7_put_41 : decode cX7_put 41 = .ok (.iconst 1, 1) := by decide +kernel
theorem dX7_put_42 : decode cX7_put 42 = .ok (.newarray .int, 2) := by decide +kernel
theorem dX7_put_44 : decode cX7_put 44 = .ok (.dup, 1) := by decide +kernel
theorem dX7_put_45 : decode cX7_put 45 = .ok (.iconst 0, 1) := by decide +kernel
theorem dX7_put_46 : decode cX7_put 46 = .ok (.iload_n 2, 1) := by decide +kernel
theorem dX7_put_47 : decode cX7_put 47 = .ok (.iastore, 1) := by decide +kernel
theorem dX7_put_48 : decode cX7_put 48 = .ok (.invokevirtual 137, 3) := by decide +kernel
theorem dX7_put_51 : decode cX7_put 51 = .ok (.ireturn, 1) := by decide +kernel
theorem dX7_cut_0 : decode cX7_cut 0 = .ok (.aload_n 0, 1) := by decide +kernel
theorem dX7_cut_1 : decode cX7_cut 1 = .ok (.iload_n 1, 1) := by decide +kernel
theorem dX7_cut_2 : decode cX7_cut 2 = .ok (.invokestatic 129, 3) := by decide +kernel
theorem dX7_cut_5 : decode cX7_cut 5 = .ok (.iconst 1, 1) := by decide +kernel
theorem dX7_cut_6 : decode cX7_cut 6 = .ok (.invokevirtual 71, 3) := by decide +kernel
theorem dX7_cut_9 : decode cX7_cut 9 = .ok (.ifCond .ne 33, 3) := by decide +kernel
theorem dX7_cut_12 : decode cX7_cut 12 = .ok (.aload_n 0, 1) := by decide +kernel
theorem dX7_cut_13 : decode cX7_cut 13 = .ok (.iload_n 2, 1) := by decide +kernel
theorem dX7_cut_14 : decode cX7_cut 14 = .ok (.iconst 0, 1) := by decide +kernel
theorem dX7_cut_15 : decode cX7_cut 15 = .ok (.aload_n 0, 1) := by decide +kernel
theorem dX7_cut_16 : decode cX7_cut 16 = .ok (.getfield 9, 3) := by decide +kernel
theorem dX7_cut_19 : decode cX7_cut 19 = .ok (.iconst 4, 1) := by decide +kernel
theorem dX7_cut_20 : decode cX7_cut 20 = .ok (.iload_n 1, 1) := by decide +kernel
theorem dX7_cut_21 : decode cX7_cut 21 = .ok (.iadd, 1) := by decide +kernel
theorem dX7_cut_22 : decode cX7_cut 22 = .ok (.aaload, 1) := by decide +kernel
theorem dX7_cut_23 : decode cX7_cut 23 = .ok (.arraylength, 1) := by decide +kernel
theorem dX7_cut_24 : decode cX7_cut 24 = .ok (.invokestatic 22, 3) := by decide +kernel
theorem dX7_cut_27 : decode cX7_cut 27 = .ok (.ifCond .ne 7, 3) := by decide +kernel
theorem dX7_cut_30 : decode cX7_cut 30 = .ok (.iconst 1, 1) := by decide +kernel
theorem dX7_cut_31 : decode cX7_cut 31 = .ok (.goto 4, 3) := by decide +kernel
theorem dX7_cut_34 : decode cX7_cut 34 = .ok (.iconst 0, 1) := by decide +kernel
theorem dX7_cut_35 : decode cX7_cut 35 = .ok (.iconst 2, 1) := by decide +kernel
theorem dX7_cut_36 : decode cX7_cut 36 = .ok (.invokevirtual 45, 3) := by decide +kernel
theorem dX7_cut_39 : decode cX7_cut 39 = .ok (.ifCond .eq 7, 3) := by decide +kernel
theorem dX7_cut_42 : decode cX7_cut 42 = .ok (.iconst 0, 1) := by decide +kernel
theorem dX7_cut_43 : decode cX7_cut 43 = .ok (.goto 33, 3) := by decide +kernel
theorem dX7_cut_46 : decode cX7_cut 46 = .ok (.aload_n 0, 1) := by decide +kernel
theorem dX7_cut_47 : decode cX7_cut 47 = .ok (.iconst 4, 1) := by decide +kernel
theorem dX7_cut_48 : decode cX7_cut 48 = .ok (.iload_n 1, 1) := by decide +kernel
theorem dX7_cut_49 : decode cX7_cut 49 = .ok (.iadd, 1) := by decide +kernel
theorem dX7_cut_50 : decode cX7_cut 50 = .ok (.aload_n 0, 1) := by decide +kernel
theorem dX7_cut_51 : decode cX7_cut 51 = .ok (.getfield 9, 3) := by decide +kernel
theorem dX7_cut_54 : decode cX7_cut 54 = .ok (.iconst 4, 1) := by decide +kernel
theorem dX7_cut_55 : decode cX7_cut 55 = .ok (.iload_n 1, 1) := by decide +kernel
theorem dX7_cut_56 : decode cX7_cut 56 = .ok (.iadd, 1) := by decide +kernel
theorem dX7_cut_57 : decode cX7_cut 57 = .ok (.aaload, 1) := by decide +kernel
theorem dX7_cut_58 : decode cX7_cut 58 = .ok (.iconst 0, 1) := by decide +kernel
theorem dX7_cut_59 : decode cX7_cut 59 = .ok (.aload_n 0, 1) := by decide +kernel
theorem dX7_cut_60 : decode cX7_cut 60 = .ok (.getfield 9, 3) := by decide +kernel
theorem dX7_cut_63 : decode cX7_cut 63 = .ok (.iconst 4, 1) := by decide +kernel
theorem dX7_cut_64 : decode cX7_cut 64 = .ok (.iload_n 1, 1) := by decide +kernel
theorem dX7_cut_65 : decode cX7_cut 65 = .ok (.iadd, 1) := by decide +kernel
theorem dX7_cut_66 : decode cX7_cut 66 = .ok (.aaload, 1) := by decide +kernel
theorem dX7_cut_67 : decode cX7_cut 67 = .ok (.arraylength, 1) := by decide +kernel
theorem dX7_cut_68 : decode cX7_cut 68 = .ok (.iload_n 2, 1) := by decide +kernel
theorem dX7_cut_69 : decode cX7_cut 69 = .ok (.isub, 1) := by decide +kernel
theorem dX7_cut_70 : decode cX7_cut 70 = .ok (.invokestatic 82, 3) := by decide +kernel
theorem dX7_cut_73 : decode cX7_cut 73 = .ok (.invokevirtual 78, 3) := by decide +kernel
theorem dX7_cut_76 : decode cX7_cut 76 = .ok (.ireturn, 1) := by decide +kernel
theorem dX7_flip_0 : decode cX7_flip 0 = .ok (.aload_n 0, 1) := by decide +kernel
theorem dX7_flip_1 : decode cX7_flip 1 = .ok (.iload_n 1, 1) := by decide +kernel
theorem dX7_flip_2 : decode cX7_flip 2 = .ok (.invokestatic 129, 3) := by decide +kernel
theorem dX7_flip_5 : decode cX7_flip 5 = .ok (.iconst 1, 1) := by decide +kernel
theorem dX7_flip_6 : decode cX7_flip 6 = .ok (.invokevirtual 71, 3) := by decide +kernel
theorem dX7_flip_9 : decode cX7_flip 9 = .ok (.ifCond .eq 5, 3) := by decide +kernel
theorem dX7_flip_12 : decode cX7_flip 12 = .ok (.iconst 0, 1) := by decide +kernel
theorem dX7_flip_13 : decode cX7_flip 13 = .ok (.ireturn, 1) := by decide +kernel
theorem dX7_flip_14 : decode cX7_flip 14 = .ok (.aload_n 0, 1) := by decide +kernel
theorem dX7_flip_15 : decode cX7_flip 15 = .ok (.getfield 9, 3) := by decide +kernel
theorem dX7_flip_18 : decode cX7_flip 18 = .ok (.iconst 4, 1) := by decide +kernel
theorem dX7_flip_19 : decode cX7_flip 19 = .ok (.iload_n 1, 1) := by decide +kernel
theorem dX7_flip_20 : decode cX7_flip 20 = .ok (.iadd, 1) := by decide +kernel
theorem dX7_flip_21 : decode cX7_flip 21 = .ok (.aaload, 1) := by decide +kernel
theorem dX7_flip_22 : decode cX7_flip 22 = .ok (.arraylength, 1) := by decide +kernel
theorem dX7_flip_23 : decode cX7_flip 23 = .ok (.newarray .int, 2) := by decide +kernel
theorem dX7_flip_25 : decode cX7_flip 25 = .ok (.astore_n 2, 1) := by decide +kernel
theorem dX7_flip_26 : decode cX7_flip 26 = .ok (.iconst 0, 1) := by decide +kernel
theorem dX7_flip_27 : decode cX7_flip 27 = .ok (.istore_n 3, 1) := by decide +kernel
theorem dX7_flip_28 : decode cX7_flip 28 = .ok (.iconst 0, 1) := by decide +kernel
theorem dX7_flip_29 : decode cX7_flip 29 = .ok (.istore 4, 2) := by decide +kernel
theorem dX7_flip_31 : decode cX7_flip 31 = .ok (.iload 4, 2) := by decide +kernel
theorem dX7_flip_33 : decode cX7_flip 33 = .ok (.aload_n 2, 1) := by decide +kernel
theorem dX7_flip_34 : decode cX7_flip 34 = .ok (.arraylength, 1) := by decide +kernel
theorem dX7_flip_35 : decode cX7_flip 35 = .ok (.if_icmp .ge 40, 3) := by decide +kernel
theorem dX7_flip_38 : decode cX7_flip 38 = .ok (.aload_n 2, 1) := by decide +kernel
theorem dX7_flip_39 : decode cX7_flip 39 = .ok (.iload 4, 2) := by decide +kernel
theorem dX7_flip_41 : decode cX7_flip 41 = .ok (.aload_n 0, 1) := by decide +kernel
theorem dX7_flip_42 : decode cX7_flip 42 = .ok (.getfield 9, 3) := by decide +kernel
theorem dX7_flip_45 : decode cX7_flip 45 = .ok (.iconst 4, 1) := by decide +kernel
theorem dX7_flip_46 : decode cX7_flip 46 = .ok (.iload_n 1, 1) := by decide +kernel
theorem dX7_flip_47 : decode cX7_flip 47 = .ok (.iadd, 1) := by decide +kernel
theorem dX7_flip_48 : decode cX7_flip 48 = .ok (.aaload, 1) := by decide +kernel
theorem dX7_flip_49 : decode cX7_flip 49 = .ok (.iload 4, 2) := by decide +kernel
theorem dX7_flip_51 : decode cX7_flip 51 = .ok (.iaload, 1) := by decide +kernel
theorem dX7_flip_52 : decode cX7_flip 52 = .ok (.invokestatic 141, 3) := by decide +kernel
theorem dX7_flip_55 : decode cX7_flip 55 = .ok (.iastore, 1) := by decide +kernel
theorem dX7_flip_56 : decode cX7_flip 56 = .ok (.iload_n 3, 1) := by decide +kernel
theorem dX7_flip_57 : decode cX7_flip 57 = .ok (.aload_n 2, 1) := by decide +kernel
theorem dX7_flip_58 : decode cX7_flip 58 = .ok (.iload 4, 2) := by decide +kernel
theorem dX7_flip_60 : decode cX7_flip 60 = .ok (.iaload, 1) := by decide +kernel
theorem dX7_flip_61 : decode cX7_flip 61 = .ok (.invokestatic 144, 3) := by decide +kernel
theorem dX7_flip_64 : decode cX7_flip 64 = .ok (.invokestatic 92, 3) := by decide +kernel
theorem dX7_flip_67 : decode cX7_flip 67 = .ok (.iadd, 1) := by decide +kernel
theorem dX7_flip_68 : decode cX7_flip 68 = .ok (.istore_n 3, 1) := by decide +kernel
theorem dX7_flip_69 : decode cX7_flip 69 = .ok (.iinc 4 1, 3) := by decide +kernel
theorem dX7_flip_72 : decode cX7_flip 72 = .ok (.goto (-41), 3) := by decide +kernel
theorem dX7_flip_75 : decode cX7_flip 75 = .ok (.aload_n 0, 1) := by decide +kernel
theorem dX7_flip_76 : decode cX7_flip 76 = .ok (.iconst 4, 1) := by decide +kernel
theorem dX7_flip_77 : decode cX7_flip 77 = .ok (.iload_n 1, 1) := by decide +kernel
theorem dX7_flip_78 : decode cX7_flip 78 = .ok (.iadd, 1) := by decide +kernel
theorem dX7_flip_79 : decode cX7_flip 79 = .ok (.aload_n 2, 1) := by decide +kernel
theorem dX7_flip_80 : decode cX7_flip 80 = .ok (.invokevirtual 78, 3) := by decide +kernel
theorem dX7_flip_83 : decode cX7_flip 83 = .ok (.pop, 1) := by decide +kernel
theorem dX7_flip_84 : decode cX7_flip 84 = .ok (.iload_n 3, 1) := by decide +kernel
theorem dX7_flip_85 : decode cX7_flip 85 = .ok (.ireturn, 1) := by decide +kernel
theorem dX7_codeOf_0 : decode cX7_codeOf 0 = .ok (.aload_n 0, 1) := by decide +kernel
theorem dX7_codeOf_1 : decode cX7_codeOf 1 = .ok (.getfield 9, 3) := by decide +kernel
theorem dX7_codeOf_4 : decode cX7_codeOf 4 = .ok (.iconst 4, 1) := by decide +kernel
theorem dX7_codeOf_5 : decode cX7_codeOf 5 = .ok (.iload_n 1, 1) := by decide +kernel
theorem dX7_codeOf_6 : decode cX7_codeOf 6 = .ok (.iadd, 1) := by decide +kernel
theorem dX7_codeOf_7 : decode cX7_codeOf 7 = .ok (.aaload, 1) := by decide +kernel
theorem dX7_codeOf_8 : decode cX7_codeOf 8 = .ok (.astore_n 3, 1) := by decide +kernel
theorem dX7_codeOf_9 : decode cX7_codeOf 9 = .ok (.aload_n 3, 1) := by decide +kernel
theorem dX7_codeOf_10 : decode cX7_codeOf 10 = .ok (.iload_n 2, 1) := by decide +kernel
theorem dX7_codeOf_11 : decode cX7_codeOf 11 = .ok (.iaload, 1) := by decide +kernel
theorem dX7_codeOf_12 : decode cX7_codeOf 12 = .ok (.invokestatic 122, 3) := by decide +kernel
theorem dX7_codeOf_15 : decode cX7_codeOf 15 = .ok (.ifCond .eq 36, 3) := by decide +kernel
theorem dX7_codeOf_18 : decode cX7_codeOf 18 = .ok (.iload_n 2, 1) := by decide +kernel
theorem dX7_codeOf_19 : decode cX7_codeOf 19 = .ok (.iconst 1, 1) := by decide +kernel
theorem dX7_codeOf_20 : decode cX7_codeOf 20 = .ok (.iadd, 1) := by decide +kernel
theorem dX7_codeOf_21 : decode cX7_codeOf 21 = .ok (.aload_n 3, 1) := by decide +kernel
theorem dX7_codeOf_22 : decode cX7_codeOf 22 = .ok (.arraylength, 1) := by decide +kernel
theorem dX7_codeOf_23 : decode cX7_codeOf 23 = .ok (.if_icmp .ge 28, 3) := by decide +kernel
theorem dX7_codeOf_26 : decode cX7_codeOf 26 = .ok (.aload_n 3, 1) := by decide +kernel
theorem dX7_codeOf_27 : decode cX7_codeOf 27 = .ok (.iload_n 2, 1) := by decide +kernel
theorem dX7_codeOf_28 : decode cX7_codeOf 28 = .ok (.iconst 1, 1) := by decide +kernel
theorem dX7_codeOf_29 : decode cX7_codeOf 29 = .ok (.iadd, 1) := by decide +kernel
theorem dX7_codeOf_30 : decode cX7_codeOf 30 = .ok (.iaload, 1) := by decide +kernel
theorem dX7_codeOf_31 : decode cX7_codeOf 31 = .ok (.invokestatic 125, 3) := by decide +kernel
theorem dX7_codeOf_34 : decode cX7_codeOf 34 = .ok (.ifCond .eq 17, 3) := by decide +kernel
theorem dX7_codeOf_37 : decode cX7_codeOf 37 = .ok (.aload_n 3, 1) := by decide +kernel
theorem dX7_codeOf_38 : decode cX7_codeOf 38 = .ok (.iload_n 2, 1) := by decide +kernel
theorem dX7_codeOf_39 : decode cX7_codeOf 39 = .ok (.iaload, 1) := by decide +kernel
theorem dX7_codeOf_40 : decode cX7_codeOf 40 = .ok (.aload_n 3, 1) := by decide +kernel
theorem dX7_codeOf_41 : decode cX7_codeOf 41 = .ok (.iload_n 2, 1) := by decide +kernel
theorem dX7_codeOf_42 : decode cX7_codeOf 42 = .ok (.iconst 1, 1) := by decide +kernel
theorem dX7_codeOf_43 : decode cX7_codeOf 43 = .ok (.iadd, 1) := by decide +kernel
theorem dX7_codeOf_44 : decode cX7_codeOf 44 = .ok (.iaload, 1) := by decide +kernel
theorem dX7_codeOf_45 : decode cX7_codeOf 45 = .ok (.invokestatic 147, 3) := by decide +kernel
theorem dX7_codeOf_48 : decode cX7_codeOf 48 = .ok (.goto 6, 3) := by decide +kernel
theorem dX7_codeOf_51 : decode cX7_codeOf 51 = .ok (.aload_n 3, 1) := by decide +kernel
theorem dX7_codeOf_52 : decode cX7_codeOf 52 = .ok (.iload_n 2, 1) := by decide +kernel
theorem dX7_codeOf_53 : decode cX7_codeOf 53 = .ok (.iaload, 1) := by decide +kernel
theorem dX7_codeOf_54 : decode cX7_codeOf 54 = .ok (.ireturn, 1) := by decide +kernel
theorem dX7_codes_0 : decode cX7_codes 0 = .ok (.iconst 0, 1) := by decide +kernel
theorem dX7_codes_1 : decode cX7_codes 1 = .ok (.newarray .int, 2) := by decide +kernel
theorem dX7_codes_3 : decode cX7_codes 3 = .ok (.astore_n 2, 1) := by decide +kernel
theorem dX7_codes_4 : decode cX7_codes 4 = .ok (.iconst 0, 1) := by decide +kernel
theorem dX7_codes_5 : decode cX7_codes 5 = .ok (.istore_n 3, 1) := by decide +kernel
theorem dX7_codes_6 : decode cX7_codes 6 = .ok (.iload_n 3, 1) := by decide +kernel
theorem dX7_codes_7 : decode cX7_codes 7 = .ok (.aload_n 0, 1) := by decide +kernel
theorem dX7_codes_8 : decode cX7_codes 8 = .ok (.getfield 9, 3) := by decide +kernel
theorem dX7_codes_11 : decode cX7_codes 11 = .ok (.iconst 4, 1) := by decide +kernel
theorem dX7_codes_12 : decode cX7_codes 12 = .ok (.iload_n 1, 1) := by decide +kernel
theorem dX7_codes_13 : decode cX7_codes 13 = .ok (.iadd, 1) := by decide +kernel
theorem dX7_codes_14 : decode cX7_codes 14 = .ok (.aaload, 1) := by decide +kernel
theorem dX7_codes_15 : decode cX7_codes 15 = .ok (.arraylength, 1) := by decide +kernel
theorem dX7_codes_16 : decode cX7_codes 16 = .ok (.if_icmp .ge 36, 3) := by decide +kernel
theorem dX7_codes_19 : decode cX7_codes 19 = .ok (.aload_n 2, 1) := by decide +kernel
theorem dX7_codes_20 : decode cX7_codes 20 = .ok (.iconst 1, 1) := by decide +kernel
theorem dX7_codes_21 : decode cX7_codes 21 = .ok (.newarray .int, 2) := by decide +kernel
theorem dX7_codes_23 : decode cX7_codes 23 = .ok (.dup, 1) := by decide +kernel
theorem dX7_codes_24 : decode cX7_codes 24 = .ok (.iconst 0, 1) := by decide +kernel
theorem dX7_codes_25 : decode cX7_codes 25 = .ok (.aload_n 0, 1) := by decide +kernel
theorem dX7_codes_26 : decode cX7_codes 26 = .ok (.iload_n 1, 1) := by decide +kernel
theorem dX7_codes_27 : decode cX7_codes 27 = .ok (.iload_n 3, 1) := by decide +kernel
theorem dX7_codes_28 : decode cX7_codes 28 = .ok (.invokevirtual 150, 3) := by decide +kernel
theorem dX7_codes_31 : decode cX7_codes 31 = .ok (.iastore, 1) := by decide +kernel
theorem dX7_codes_32 : decode cX7_codes 32 = .ok (.invokestatic 61, 3) := by decide +kernel
theorem dX7_codes_35 : decode cX7_codes 35 = .ok (.astore_n 2, 1) := by decide +kernel
theorem dX7_codes_36 : decode cX7_codes 36 = .ok (.iload_n 3, 1) := by decide +kernel
theorem dX7_codes_37 : decode cX7_codes 37 = .ok (.aload_n 0, 1) := by decide +kernel
theorem dX7_codes_38 : decode cX7_codes 38 = .ok (.iload_n 1, 1) := by decide +kernel
theorem dX7_codes_39 : decode cX7_codes 39 = .ok (.iload_n 3, 1) := by decide +kernel
theorem dX7_codes_40 : decode cX7_codes 40 = .ok (.invokevirtual 150, 3) := by decide +kernel
theorem dX7_codes_43 : decode cX7_codes 43 = .ok (.invokestatic 133, 3) := by decide +kernel
theorem dX7_codes_46 : decode cX7_codes 46 = .ok (.arraylength, 1) := by decide +kernel
theorem dX7_codes_47 : decode cX7_codes 47 = .ok (.iadd, 1) := by decide +kernel
theorem dX7_codes_48 : decode cX7_codes 48 = .ok (.istore_n 3, 1) := by decide +kernel
theorem dX7_codes_49 : decode cX7_codes 49 = .ok (.goto (-43), 3) := by decide +kernel
theorem dX7_codes_52 : decode cX7_codes 52 = .ok (.aload_n 2, 1) := by decide +kernel
theorem dX7_codes_53 : decode cX7_codes 53 = .ok (.areturn, 1) := by decide +kernel
theorem dX7_reverse_0 : decode cX7_reverse 0 = .ok (.aload_n 0, 1) := by decide +kernel
theorem dX7_reverse_1 : decode cX7_reverse 1 = .ok (.iload_n 1, 1) := by decide +kernel
theorem dX7_reverse_2 : decode cX7_reverse 2 = .ok (.invokestatic 129, 3) := by decide +kernel
theorem dX7_reverse_5 : decode cX7_reverse 5 = .ok (.iconst 1, 1) := by decide +kernel
theorem dX7_reverse_6 : decode cX7_reverse 6 = .ok (.invokevirtual 71, 3) := by decide +kernel
theorem dX7_reverse_9 : decode cX7_reverse 9 = .ok (.ifCond .eq 5, 3) := by decide +kernel
theorem dX7_reverse_12 : decode cX7_reverse 12 = .ok (.iconst 0, 1) := by decide +kernel
theorem dX7_reverse_13 : decode cX7_reverse 13 = .ok (.ireturn, 1) := by decide +kernel
theorem dX7_reverse_14 : decode cX7_reverse 14 = .ok (.iconst 0, 1) := by decide +kernel
theorem dX7_reverse_15 : decode cX7_reverse 15 = .ok (.newarray .int, 2) := by decide +kernel
theorem dX7_reverse_17 : decode cX7_reverse 17 = .ok (.astore_n 2, 1) := by decide +kernel
theorem dX7_reverse_18 : decode cX7_reverse 18 = .ok (.aload_n 0, 1) := by decide +kernel
theorem dX7_reverse_19 : decode cX7_reverse 19 = .ok (.iload_n 1, 1) := by decide +kernel
theorem dX7_reverse_20 : decode cX7_reverse 20 = .ok (.invokevirtual 153, 3) := by decide +kernel
theorem dX7_reverse_23 : decode cX7_reverse 23 = .ok (.astore_n 3, 1) := by decide +kernel
theorem dX7_reverse_24 : decode cX7_reverse 24 = .ok (.aload_n 3, 1) := by decide +kernel
theorem dX7_reverse_25 : decode cX7_reverse 25 = .ok (.arraylength, 1) := by decide +kernel
theorem dX7_reverse_26 : decode cX7_reverse 26 = .ok (.istore 4, 2) := by decide +kernel
theorem dX7_reverse_28 : decode cX7_reverse 28 = .ok (.iconst 0, 1) := by decide +kernel
theorem dX7_reverse_29 : decode cX7_reverse 29 = .ok (.istore 5, 2) := by decide +kernel
theorem dX7_reverse_31 : decode cX7_reverse 31 = .ok (.iload 5, 2) := by decide +kernel
theorem dX7_reverse_33 : decode cX7_reverse 33 = .ok (.iload 4, 2) := by decide +kernel
theorem dX7_reverse_35 : decode cX7_reverse 35 = .ok (.if_icmp .ge 25, 3) := by decide +kernel
theorem dX7_reverse_38 : decode cX7_reverse 38 = .ok (.aload_n 3, 1) := by decide +kernel
theorem dX7_reverse_39 : decode cX7_reverse 39 = .ok (.iload 5, 2) := by decide +kernel
theorem dX7_reverse_41 : decode cX7_reverse 41 = .ok (.iaload, 1) := by decide +kernel
theorem dX7_reverse_42 : decode cX7_reverse 42 = .ok (.istore 6, 2) := by decide +kernel
theorem dX7_reverse_44 : decode cX7_reverse 44 = .ok (.iload 6, 2) := by decide +kernel
theorem dX7_reverse_46 : decode cX7_reverse 46 = .ok (.invokestatic 133, 3) := by decide +kernel
theorem dX7_reverse_49 : decode cX7_reverse 49 = .ok (.aload_n 2, 1) := by decide +kernel
theorem dX7_reverse_50 : decode cX7_reverse 50 = .ok (.invokestatic 61, 3) := by decide +kernel
theorem dX7_reverse_53 : decode cX7_reverse 53 = .ok (.astore_n 2, 1) := by decide +kernel
theorem dX7_reverse_54 : decode cX7_reverse 54 = .ok (.iinc 5 1, 3) := by decide +kernel
theorem dX7_reverse_57 : decode cX7_reverse 57 = .ok (.goto (-26), 3) := by decide +kernel
theorem dX7_reverse_60 : decode cX7_reverse 60 = .ok (.aload_n 0, 1) := by decide +kernel
theorem dX7_reverse_61 : decode cX7_reverse 61 = .ok (.iconst 4, 1) := by decide +kernel
theorem dX7_reverse_62 : decode cX7_reverse 62 = .ok (.iload_n 1, 1) := by decide +kernel
theorem dX7_reverse_63 : decode cX7_reverse 63 = .ok (.iadd, 1) := by decide +kernel
theorem dX7_reverse_64 : decode cX7_reverse 64 = .ok (.aload_n 2, 1) := by decide +kernel
theorem dX7_reverse_65 : decode cX7_reverse 65 = .ok (.invokevirtual 78, 3) := by decide +kernel
theorem dX7_reverse_68 : decode cX7_reverse 68 = .ok (.pop, 1) := by decide +kernel
theorem dX7_reverse_69 : decode cX7_reverse 69 = .ok (.aload_n 0, 1) := by decide +kernel
theorem dX7_reverse_70 : decode cX7_reverse 70 = .ok (.iload_n 1, 1) := by decide +kernel
theorem dX7_reverse_71 : decode cX7_reverse 71 = .ok (.invokevirtual 153, 3) := by decide +kernel
theorem dX7_reverse_74 : decode cX7_reverse 74 = .ok (.arraylength, 1) := by decide +kernel
theorem dX7_reverse_75 : decode cX7_reverse 75 = .ok (.ireturn, 1) := by decide +kernel
theorem dX7_undo_0 : decode cX7_undo 0 = .ok (.aload_n 0, 1) := by decide +kernel
theorem dX7_undo_1 : decode cX7_undo 1 = .ok (.aload_n 0, 1) := by decide +kernel
theorem dX7_undo_2 : decode cX7_undo 2 = .ok (.getfield 18, 3) := by decide +kernel
theorem dX7_undo_5 : decode cX7_undo 5 = .ok (.invokevirtual 156, 3) := by decide +kernel
theorem dX7_undo_8 : decode cX7_undo 8 = .ok (.iconst 1, 1) := by decide +kernel
theorem dX7_undo_9 : decode cX7_undo 9 = .ok (.invokevirtual 71, 3) := by decide +kernel
theorem dX7_undo_12 : decode cX7_undo 12 = .ok (.ifCond .eq 5, 3) := by decide +kernel
theorem dX7_undo_15 : decode cX7_undo 15 = .ok (.iconst 0, 1) := by decide +kernel
theorem dX7_undo_16 : decode cX7_undo 16 = .ok (.ireturn, 1) := by decide +kernel
theorem dX7_undo_17 : decode cX7_undo 17 = .ok (.aload_n 0, 1) := by decide +kernel
theorem dX7_undo_18 : decode cX7_undo 18 = .ok (.aload_n 0, 1) := by decide +kernel
theorem dX7_undo_19 : decode cX7_undo 19 = .ok (.getfield 18, 3) := by decide +kernel
theorem dX7_undo_22 : decode cX7_undo 22 = .ok (.aload_n 0, 1) := by decide +kernel
theorem dX7_undo_23 : decode cX7_undo 23 = .ok (.getfield 18, 3) := by decide +kernel
theorem dX7_undo_26 : decode cX7_undo 26 = .ok (.invokevirtual 53, 3) := by decide +kernel
theorem dX7_undo_29 : decode cX7_undo 29 = .ok (.iconst 1, 1) := by decide +kernel
theorem dX7_undo_30 : decode cX7_undo 30 = .ok (.isub, 1) := by decide +kernel
theorem dX7_undo_31 : decode cX7_undo 31 = .ok (.invokevirtual 57, 3) := by decide +kernel
theorem dX7_undo_34 : decode cX7_undo 34 = .ok (.checkcast 160, 3) := by decide +kernel
theorem dX7_undo_37 : decode cX7_undo 37 = .ok (.putfield 9, 3) := by decide +kernel
theorem dX7_undo_40 : decode cX7_undo 40 = .ok (.aload_n 0, 1) := by decide +kernel
theorem dX7_undo_41 : decode cX7_undo 41 = .ok (.getfield 18, 3) := by decide +kernel
theorem dX7_undo_44 : decode cX7_undo 44 = .ok (.invokevirtual 53, 3) := by decide +kernel
theorem dX7_undo_47 : decode cX7_undo 47 = .ok (.ireturn, 1) := by decide +kernel
theorem dX7_knock_0 : decode cX7_knock 0 = .ok (.aload_n 0, 1) := by decide +kernel
theorem dX7_knock_1 : decode cX7_knock 1 = .ok (.iconst 0, 1) := by decide +kernel
theorem dX7_knock_2 : decode cX7_knock 2 = .ok (.putfield 41, 3) := by decide +kernel
theorem dX7_knock_5 : decode cX7_knock 5 = .ok (.aload_n 0, 1) := by decide +kernel
theorem dX7_knock_6 : decode cX7_knock 6 = .ok (.dup, 1) := by decide +kernel
theorem dX7_knock_7 : decode cX7_knock 7 = .ok (.getfield 161, 3) := by decide +kernel
theorem dX7_knock_10 : decode cX7_knock 10 = .ok (.iconst 1, 1) := by decide +kernel
theorem dX7_knock_11 : decode cX7_knock 11 = .ok (.iadd, 1) := by decide +kernel
theorem dX7_knock_12 : decode cX7_knock 12 = .ok (.putfield 161, 3) := by decide +kernel
theorem dX7_knock_15 : decode cX7_knock 15 = .ok (.aload_n 0, 1) := by decide +kernel
theorem dX7_knock_16 : decode cX7_knock 16 = .ok (.getfield 161, 3) := by decide +kernel
theorem dX7_knock_19 : decode cX7_knock 19 = .ok (.ireturn, 1) := by decide +kernel
theorem dX7_kindTold_0 : decode cX7_kindTold 0 = .ok (.aload_n 0, 1) := by decide +kernel
theorem dX7_kindTold_1 : decode cX7_kindTold 1 = .ok (.iload_n 1, 1) := by decide +kernel
theorem dX7_kindTold_2 : decode cX7_kindTold 2 = .ok (.invokestatic 65, 3) := by decide +kernel
theorem dX7_kindTold_5 : decode cX7_kindTold 5 = .ok (.ifCond .ne 7, 3) := by decide +kernel
theorem dX7_kindTold_8 : decode cX7_kindTold 8 = .ok (.iconst 1, 1) := by decide +kernel
theorem dX7_kindTold_9 : decode cX7_kindTold 9 = .ok (.goto 4, 3) := by decide +kernel
theorem dX7_kindTold_12 : decode cX7_kindTold 12 = .ok (.iconst 0, 1) := by decide +kernel
theorem dX7_kindTold_13 : decode cX7_kindTold 13 = .ok (.iconst 1, 1) := by decide +kernel
theorem dX7_kindTold_14 : decode cX7_kindTold 14 = .ok (.invokevirtual 71, 3) := by decide +kernel
theorem dX7_kindTold_17 : decode cX7_kindTold 17 = .ok (.ifCond .ne 15, 3) := by decide +kernel
theorem dX7_kindTold_20 : decode cX7_kindTold 20 = .ok (.iload_n 1, 1) := by decide +kernel
theorem dX7_kindTold_21 : decode cX7_kindTold 21 = .ok (.iload_n 2, 1) := by decide +kernel
theorem dX7_kindTold_22 : decode cX7_kindTold 22 = .ok (.invokestatic 26, 3) := by decide +kernel
theorem dX7_kindTold_25 : decode cX7_kindTold 25 = .ok (.ifCond .eq 7, 3) := by decide +kernel
theorem dX7_kindTold_28 : decode cX7_kindTold 28 = .ok (.iconst 1, 1) := by decide +kernel
theorem dX7_kindTold_29 : decode cX7_kindTold 29 = .ok (.goto 4, 3) := by decide +kernel
theorem dX7_kindTold_32 : decode cX7_kindTold 32 = .ok (.iconst 0, 1) := by decide +kernel
theorem dX7_kindTold_33 : decode cX7_kindTold 33 = .ok (.ireturn, 1) := by decide +kernel
theorem dX7_isDigit_0 : decode cX7_isDigit 0 = .ok (.aload_n 0, 1) := by decide +kernel
theorem dX7_isDigit_1 : decode cX7_isDigit 1 = .ok (.iload_n 1, 1) := by decide +kernel
theorem dX7_isDigit_2 : decode cX7_isDigit 2 = .ok (.iconst 0, 1) := by decide +kernel
theorem dX7_isDigit_3 : decode cX7_isDigit 3 = .ok (.invokevirtual 164, 3) := by decide +kernel
theorem dX7_isDigit_6 : decode cX7_isDigit 6 = .ok (.ireturn, 1) := by decide +kernel
theorem dX7_isLetter_0 : decode cX7_isLetter 0 = .ok (.aload_n 0, 1) := by decide +kernel
theorem dX7_isLetter_1 : decode cX7_isLetter 1 = .ok (.iload_n 1, 1) := by decide +kernel
theorem dX7_isLetter_2 : decode cX7_isLetter 2 = .ok (.iconst 1, 1) := by decide +kernel
theorem dX7_isLetter_3 : decode cX7_isLetter 3 = .ok (.invokevirtual 164, 3) := by decide +kernel
theorem dX7_isLetter_6 : decode cX7_isLetter 6 = .ok (.ireturn, 1) := by decide +kernel
theorem dX7_isLetterOrDigit_0 : decode cX7_isLetterOrDigit 0 = .ok (.aload_n 0, 1) := by decide +kernel
theorem dX7_isLetterOrDigit_1 : decode cX7_isLetterOrDigit 1 = .ok (.iload_n 1, 1) := by decide +kernel
theorem dX7_isLetterOrDigit_2 : decode cX7_isLetterOrDigit 2 = .ok (.iconst 2, 1) := by decide +kernel
theorem dX7_isLetterOrDigit_3 : decode cX7_isLetterOrDigit 3 = .ok (.invokevirtual 164, 3) := by decide +kernel
theorem dX7_isLetterOrDigit_6 : decode cX7_isLetterOrDigit 6 = .ok (.ireturn, 1) := by decide +kernel
theorem dX7_isWhite_0 : decode cX7_isWhite 0 = .ok (.aload_n 0, 1) := by decide +kernel
theorem dX7_isWhite_1 : decode cX7_isWhite 1 = .ok (.iload_n 1, 1) := by decide +kernel
theorem dX7_isWhite_2 : decode cX7_isWhite 2 = .ok (.iconst 3, 1) := by decide +kernel
theorem dX7_isWhite_3 : decode cX7_isWhite 3 = .ok (.invokevirtual 164, 3) := by decide +kernel
theorem dX7_isWhite_6 : decode cX7_isWhite 6 = .ok (.ireturn, 1) := by decide +kernel
theorem dX7_isGreat_0 : decode cX7_isGreat 0 = .ok (.aload_n 0, 1) := by decide +kernel
theorem dX7_isGreat_1 : decode cX7_isGreat 1 = .ok (.iload_n 1, 1) := by decide +kernel
theorem dX7_isGreat_2 : decode cX7_isGreat 2 = .ok (.iconst 4, 1) := by decide +kernel
theorem dX7_isGreat_3 : decode cX7_isGreat 3 = .ok (.invokevirtual 164, 3) := by decide +kernel
theorem dX7_isGreat_6 : decode cX7_isGreat 6 = .ok (.ireturn, 1) := by decide +kernel
theorem dX7_kindsOf_0 : decode cX7_kindsOf 0 = .ok (.iconst 0, 1) := by decide +kernel
theorem dX7_kindsOf_1 : decode cX7_kindsOf 1 = .ok (.istore_n 1, 1) := by decide +kernel
theorem dX7_kindsOf_2 : decode cX7_kindsOf 2 = .ok (.iconst 0, 1) := by decide +kernel
theorem dX7_kindsOf_3 : decode cX7_kindsOf 3 = .ok (.istore_n 2, 1) := by decide +kernel
theorem dX7_kindsOf_4 : decode cX7_kindsOf 4 = .ok (.iload_n 2, 1) := by decide +kernel
theorem dX7_kindsOf_5 : decode cX7_kindsOf 5 = .ok (.iconst 5, 1) := by decide +kernel
theorem dX7_kindsOf_6 : decode cX7_kindsOf 6 = .ok (.if_icmp .ge 22, 3) := by decide +kernel
theorem dX7_kindsOf_9 : decode cX7_kindsOf 9 = .ok (.iload_n 1, 1) := by decide +kernel
theorem dX7_kindsOf_10 : decode cX7_kindsOf 10 = .ok (.iload_n 0, 1) := by decide +kernel
theorem dX7_kindsOf_11 : decode cX7_kindsOf 11 = .ok (.iload_n 2, 1) := by decide +kernel
theorem dX7_kindsOf_12 : decode cX7_kindsOf 12 = .ok (.invokestatic 26, 3) := by decide +kernel
theorem dX7_kindsOf_15 : decode cX7_kindsOf 15 = .ok (.invokestatic 92, 3) := by decide +kernel
theorem dX7_kindsOf_18 : decode cX7_kindsOf 18 = .ok (.iload_n 2, 1) := by decide +kernel
theorem dX7_kindsOf_19 : decode cX7_kindsOf 19 = .ok (.ishl, 1) := by decide +kernel
theorem dX7_kindsOf_20 : decode cX7_kindsOf 20 = .ok (.iadd, 1) := by decide +kernel
theorem dX7_kindsOf_21 : decode cX7_kindsOf 21 = .ok (.istore_n 1, 1) := by decide +kernel
theorem dX7_kindsOf_22 : decode cX7_kindsOf 22 = .ok (.iinc 2 1, 3) := by decide +kernel
theorem dX7_kindsOf_25 : decode cX7_kindsOf 25 = .ok (.goto (-21), 3) := by decide +kernel
theorem dX7_kindsOf_28 : decode cX7_kindsOf 28 = .ok (.iload_n 1, 1) := by decide +kernel
theorem dX7_kindsOf_29 : decode cX7_kindsOf 29 = .ok (.ireturn, 1) := by decide +kernel
theorem dX7_kinds_0 : decode cX7_kinds 0 = .ok (.aload_n 0, 1) := by decide +kernel
theorem dX7_kinds_1 : decode cX7_kinds 1 = .ok (.iload_n 1, 1) := by decide +kernel
theorem dX7_kinds_2 : decode cX7_kinds 2 = .ok (.invokestatic 65, 3) := by decide +kernel
theorem dX7_kinds_5 : decode cX7_kinds 5 = .ok (.ifCond .ne 7, 3) := by decide +kernel
theorem dX7_kinds_8 : decode cX7_kinds 8 = .ok (.iconst 1, 1) := by decide +kernel
theorem dX7_kinds_9 : decode cX7_kinds 9 = .ok (.goto 4, 3) := by decide +kernel
theorem dX7_kinds_12 : decode cX7_kinds 12 = .ok (.iconst 0, 1) := by decide +kernel
theorem dX7_kinds_13 : decode cX7_kinds 13 = .ok (.iconst 1, 1) := by decide +kernel
theorem dX7_kinds_14 : decode cX7_kinds 14 = .ok (.invokevirtual 71, 3) := by decide +kernel
theorem dX7_kinds_17 : decode cX7_kinds 17 = .ok (.ifCond .eq 7, 3) := by decide +kernel
theorem dX7_kinds_20 : decode cX7_kinds 20 = .ok (.iconst 0, 1) := by decide +kernel
theorem dX7_kinds_21 : decode cX7_kinds 21 = .ok (.goto 7, 3) := by decide +kernel
theorem dX7_kinds_24 : decode cX7_kinds 24 = .ok (.iload_n 1, 1) := by decide +kernel
theorem dX7_kinds_25 : decode cX7_kinds 25 = .ok (.invokestatic 167, 3) := by decide +kernel
theorem dX7_kinds_28 : decode cX7_kinds 28 = .ok (.ireturn, 1) := by decide +kernel
theorem dX7_upper_0 : decode cX7_upper 0 = .ok (.aload_n 0, 1) := by decide +kernel
theorem dX7_upper_1 : decode cX7_upper 1 = .ok (.iload_n 1, 1) := by decide +kernel
theorem dX7_upper_2 : decode cX7_upper 2 = .ok (.invokestatic 65, 3) := by decide +kernel
theorem dX7_upper_5 : decode cX7_upper 5 = .ok (.ifCond .ne 7, 3) := by decide +kernel
theorem dX7_upper_8 : decode cX7_upper 8 = .ok (.iconst 1, 1) := by decide +kernel
theorem dX7_upper_9 : decode cX7_upper 9 = .ok (.goto 4, 3) := by decide +kernel
theorem dX7_upper_12 : decode cX7_upper 12 = .ok (.iconst 0, 1) := by decide +kernel
theorem dX7_upper_13 : decode cX7_upper 13 = .ok (.iconst 1, 1) := by decide +kernel
theorem dX7_upper_14 : decode cX7_upper 14 = .ok (.invokevirtual 71, 3) := by decide +kernel
theorem dX7_upper_17 : decode cX7_upper 17 = .ok (.ifCond .eq 7, 3) := by decide +kernel
theorem dX7_upper_20 : decode cX7_upper 20 = .ok (.iconst 0, 1) := by decide +kernel
theorem dX7_upper_21 : decode cX7_upper 21 = .ok (.goto 7, 3) := by decide +kernel
theorem dX7_upper_24 : decode cX7_upper 24 = .ok (.iload_n 1, 1) := by decide +kernel
theorem dX7_upper_25 : decode cX7_upper 25 = .ok (.invokestatic 86, 3) := by decide +kernel
theorem dX7_upper_28 : decode cX7_upper 28 = .ok (.ireturn, 1) := by decide +kernel
theorem dX7_lower_0 : decode cX7_lower 0 = .ok (.aload_n 0, 1) := by decide +kernel
theorem dX7_lower_1 : decode cX7_lower 1 = .ok (.iload_n 1, 1) := by decide +kernel
theorem dX7_lower_2 : decode cX7_lower 2 = .ok (.invokestatic 65, 3) := by decide +kernel
theorem dX7_lower_5 : decode cX7_lower 5 = .ok (.ifCond .ne 7, 3) := by decide +kernel
theorem dX7_lower_8 : decode cX7_lower 8 = .ok (.iconst 1, 1) := by decide +kernel
theorem dX7_lower_9 : decode cX7_lower 9 = .ok (.goto 4, 3) := by decide +kernel
theorem dX7_lower_12 : decode cX7_lower 12 = .ok (.iconst 0, 1) := by decide +kernel
theorem dX7_lower_13 : decode cX7_lower 13 = .ok (.iconst 1, 1) := by decide +kernel
theorem dX7_lower_14 : decode cX7_lower 14 = .ok (.invokevirtual 71, 3) := by decide +kernel
theorem dX7_lower_17 : decode cX7_lower 17 = .ok (.ifCond .eq 7, 3) := by decide +kernel
theorem dX7_lower_20 : decode cX7_lower 20 = .ok (.iconst 0, 1) := by decide +kernel
theorem dX7_lower_21 : decode cX7_lower 21 = .ok (.goto 7, 3) := by decide +kernel
theorem dX7_lower_24 : decode cX7_lower 24 = .ok (.iload_n 1, 1) := by decide +kernel
theorem dX7_lower_25 : decode cX7_lower 25 = .ok (.invokestatic 89, 3) := by decide +kernel
theorem dX7_lower_28 : decode cX7_lower 28 = .ok (.ireturn, 1) := by decide +kernel
theorem dX7_value_0 : decode cX7_value 0 = .ok (.aload_n 0, 1) := by decide +kernel
theorem dX7_value_1 : decode cX7_value 1 = .ok (.iload_n 1, 1) := by decide +kernel
theorem dX7_value_2 : decode cX7_value 2 = .ok (.invokestatic 65, 3) := by decide +kernel
theorem dX7_value_5 : decode cX7_value 5 = .ok (.ifCond .ne 7, 3) := by decide +kernel
theorem dX7_value_8 : decode cX7_value 8 = .ok (.iconst 1, 1) := by decide +kernel
theorem dX7_value_9 : decode cX7_value 9 = .ok (.goto 4, 3) := by decide +kernel
theorem dX7_value_12 : decode cX7_value 12 = .ok (.iconst 0, 1) := by decide +kernel
theorem dX7_value_13 : decode cX7_value 13 = .ok (.iconst 1, 1) := by decide +kernel
theorem dX7_value_14 : decode cX7_value 14 = .ok (.invokevirtual 71, 3) := by decide +kernel
theorem dX7_value_17 : decode cX7_value 17 = .ok (.ifCond .eq 7, 3) := by decide +kernel
theorem dX7_value_20 : decode cX7_value 20 = .ok (.iconst 0, 1) := by decide +kernel
theorem dX7_value_21 : decode cX7_value 21 = .ok (.goto 7, 3) := by decide +kernel
theorem dX7_value_24 : decode cX7_value 24 = .ok (.iload_n 1, 1) := by decide +kernel
theorem dX7_value_25 : decode cX7_value 25 = .ok (.invokestatic 33, 3) := by decide +kernel
theorem dX7_value_28 : decode cX7_value 28 = .ok (.ireturn, 1) := by decide +kernel
theorem dX7_number_0 : decode cX7_number 0 = .ok (.aload_n 0, 1) := by decide +kernel
theorem dX7_number_1 : decode cX7_number 1 = .ok (.iload_n 1, 1) := by decide +kernel
theorem dX7_number_2 : decode cX7_number 2 = .ok (.invokestatic 65, 3) := by decide +kernel
theorem dX7_number_5 : decode cX7_number 5 = .ok (.ifCond .ne 7, 3) := by decide +kernel
theorem dX7_number_8 : decode cX7_number 8 = .ok (.iconst 1, 1) := by decide +kernel
theorem dX7_number_9 : decode cX7_number 9 = .ok (.goto 4, 3) := by decide +kernel
theorem dX7_number_12 : decode cX7_number 12 = .ok (.iconst 0, 1) := by decide +kernel
theorem dX7_number_13 : decode cX7_number 13 = .ok (.iconst 1, 1) := by decide +kernel
theorem dX7_number_14 : decode cX7_number 14 = .ok (.invokevirtual 71, 3) := by decide +kernel
theorem dX7_number_17 : decode cX7_number 17 = .ok (.ifCond .eq 7, 3) := by decide +kernel
theorem dX7_number_20 : decode cX7_number 20 = .ok (.iconst 0, 1) := by decide +kernel
theorem dX7_number_21 : decode cX7_number 21 = .ok (.goto 8, 3) := by decide +kernel
theorem dX7_number_24 : decode cX7_number 24 = .ok (.iload_n 1, 1) := by decide +kernel
theorem dX7_number_25 : decode cX7_number 25 = .ok (.iload_n 2, 1) := by decide +kernel
theorem dX7_number_26 : decode cX7_number 26 = .ok (.invokestatic 115, 3) := by decide +kernel
theorem dX7_number_29 : decode cX7_number 29 = .ok (.ireturn, 1) := by decide +kernel
theorem dX7_digit_0 : decode cX7_digit 0 = .ok (.aload_n 0, 1) := by decide +kernel
theorem dX7_digit_1 : decode cX7_digit 1 = .ok (.iconst 0, 1) := by decide +kernel
theorem dX7_digit_2 : decode cX7_digit 2 = .ok (.putfield 41, 3) := by decide +kernel
theorem dX7_digit_5 : decode cX7_digit 5 = .ok (.iload_n 1, 1) := by decide +kernel
theorem dX7_digit_6 : decode cX7_digit 6 = .ok (.iload_n 2, 1) := by decide +kernel
theorem dX7_digit_7 : decode cX7_digit 7 = .ok (.invokestatic 108, 3) := by decide +kernel
theorem dX7_digit_10 : decode cX7_digit 10 = .ok (.ireturn, 1) := by decide +kernel
theorem dX7_length_0 : decode cX7_length 0 = .ok (.aload_n 0, 1) := by decide +kernel
theorem dX7_length_1 : decode cX7_length 1 = .ok (.iload_n 1, 1) := by decide +kernel
theorem dX7_length_2 : decode cX7_length 2 = .ok (.invokestatic 68, 3) := by decide +kernel
theorem dX7_length_5 : decode cX7_length 5 = .ok (.iconst 1, 1) := by decide +kernel
theorem dX7_length_6 : decode cX7_length 6 = .ok (.invokevirtual 71, 3) := by decide +kernel
theorem dX7_length_9 : decode cX7_length 9 = .ok (.ifCond .eq 7, 3) := by decide +kernel
theorem dX7_length_12 : decode cX7_length 12 = .ok (.iconst 0, 1) := by decide +kernel
theorem dX7_length_13 : decode cX7_length 13 = .ok (.goto 10, 3) := by decide +kernel
theorem dX7_length_16 : decode cX7_length 16 = .ok (.aload_n 0, 1) := by decide +kernel
theorem dX7_length_17 : decode cX7_length 17 = .ok (.getfield 9, 3) := by decide +kernel
theorem dX7_length_20 : decode cX7_length 20 = .ok (.iload_n 1, 1) := by decide +kernel
theorem dX7_length_21 : decode cX7_length 21 = .ok (.aaload, 1) := by decide +kernel
theorem dX7_length_22 : decode cX7_length 22 = .ok (.arraylength, 1) := by decide +kernel
theorem dX7_length_23 : decode cX7_length 23 = .ok (.ireturn, 1) := by decide +kernel
theorem dX7_at_0 : decode cX7_at 0 = .ok (.aload_n 0, 1) := by decide +kernel
theorem dX7_at_1 : decode cX7_at 1 = .ok (.iload_n 1, 1) := by decide +kernel
theorem dX7_at_2 : decode cX7_at 2 = .ok (.invokestatic 68, 3) := by decide +kernel
theorem dX7_at_5 : decode cX7_at 5 = .ok (.ifCond .ne 20, 3) := by decide +kernel
theorem dX7_at_8 : decode cX7_at 8 = .ok (.iload_n 2, 1) := by decide +kernel
theorem dX7_at_9 : decode cX7_at 9 = .ok (.iconst 0, 1) := by decide +kernel
theorem dX7_at_10 : decode cX7_at 10 = .ok (.aload_n 0, 1) := by decide +kernel
theorem dX7_at_11 : decode cX7_at 11 = .ok (.getfield 9, 3) := by decide +kernel
theorem dX7_at_14 : decode cX7_at 14 = .ok (.iload_n 1, 1) := by decide +kernel
theorem dX7_at_15 : decode cX7_at 15 = .ok (.aaload, 1) := by decide +kernel
theorem dX7_at_16 : decode cX7_at 16 = .ok (.arraylength, 1) := by decide +kernel
theorem dX7_at_17 : decode cX7_at 17 = .ok (.iconst 1, 1) := by decide +kernel
theorem dX7_at_18 : decode cX7_at 18 = .ok (.isub, 1) := by decide +kernel
theorem dX7_at_19 : decode cX7_at 19 = .ok (.invokestatic 22, 3) := by decide +kernel
theorem dX7_at_22 : decode cX7_at 22 = .ok (.ifCond .ne 7, 3) := by decide +kernel
theorem dX7_at_25 : decode cX7_at 25 = .ok (.iconst 1, 1) := by decide +kernel
theorem dX7_at_26 : decode cX7_at 26 = .ok (.goto 4, 3) := by decide +kernel
theorem dX7_at_29 : decode cX7_at 29 = .ok (.iconst 0, 1) := by decide +kernel
theorem dX7_at_30 : decode cX7_at 30 = .ok (.iconst 1, 1) := by decide +kernel
theorem dX7_at_31 : decode cX7_at 31 = .ok (.invokevirtual 71, 3) := by decide +kernel
theorem dX7_at_34 : decode cX7_at 34 = .ok (.ifCond .eq 7, 3) := by decide +kernel
theorem dX7_at_37 : decode cX7_at 37 = .ok (.iconst 0, 1) := by decide +kernel
theorem dX7_at_38 : decode cX7_at 38 = .ok (.goto 11, 3) := by decide +kernel
theorem dX7_at_41 : decode cX7_at 41 = .ok (.aload_n 0, 1) := by decide +kernel
theorem dX7_at_42 : decode cX7_at 42 = .ok (.getfield 9, 3) := by decide +kernel
theorem dX7_at_45 : decode cX7_at 45 = .ok (.iload_n 1, 1) := by decide +kernel
theorem dX7_at_46 : decode cX7_at 46 = .ok (.aaload, 1) := by decide +kernel
theorem dX7_at_47 : decode cX7_at 47 = .ok (.iload_n 2, 1) := by decide +kernel
theorem dX7_at_48 : decode cX7_at 48 = .ok (.iaload, 1) := by decide +kernel
theorem dX7_at_49 : decode cX7_at 49 = .ok (.ireturn, 1) := by decide +kernel
theorem dX7_countOf_0 : decode cX7_countOf 0 = .ok (.iconst 0, 1) := by decide +kernel
theorem dX7_countOf_1 : decode cX7_countOf 1 = .ok (.istore_n 3, 1) := by decide +kernel
theorem dX7_countOf_2 : decode cX7_countOf 2 = .ok (.aload_n 0, 1) := by decide +kernel
theorem dX7_countOf_3 : decode cX7_countOf 3 = .ok (.getfield 9, 3) := by decide +kernel
theorem dX7_countOf_6 : decode cX7_countOf 6 = .ok (.iload_n 1, 1) := by decide +kernel
theorem dX7_countOf_7 : decode cX7_countOf 7 = .ok (.aaload, 1) := by decide +kernel
theorem dX7_countOf_8 : decode cX7_countOf 8 = .ok (.astore 4, 2) := by decide +kernel
theorem dX7_countOf_10 : decode cX7_countOf 10 = .ok (.aload 4, 2) := by decide +kernel
theorem dX7_countOf_12 : decode cX7_countOf 12 = .ok (.arraylength, 1) := by decide +kernel
theorem dX7_countOf_13 : decode cX7_countOf 13 = .ok (.istore 5, 2) := by decide +kernel
theorem dX7_countOf_15 : decode cX7_countOf 15 = .ok (.iconst 0, 1) := by decide +kernel
theorem dX7_countOf_16 : decode cX7_countOf 16 = .ok (.istore 6, 2) := by decide +kernel
theorem dX7_countOf_18 : decode cX7_countOf 18 = .ok (.iload 6, 2) := by decide +kernel
theorem dX7_countOf_20 : decode cX7_countOf 20 = .ok (.iload 5, 2) := by decide +kernel
theorem dX7_countOf_22 : decode cX7_countOf 22 = .ok (.if_icmp .ge 28, 3) := by decide +kernel
theorem dX7_countOf_25 : decode cX7_countOf 25 = .ok (.aload 4, 2) := by decide +kernel
theorem dX7_countOf_27 : decode cX7_countOf 27 = .ok (.iload 6, 2) := by decide +kernel
theorem dX7_countOf_29 : decode cX7_countOf 29 = .ok (.iaload, 1) := by decide +kernel
theorem dX7_countOf_30 : decode cX7_countOf 30 = .ok (.istore 7, 2) := by decide +kernel
theorem dX7_countOf_32 : decode cX7_countOf 32 = .ok (.iload_n 3, 1) := by decide +kernel
theorem dX7_countOf_33 : decode cX7_countOf 33 = .ok (.iload 7, 2) := by decide +kernel
theorem dX7_countOf_35 : decode cX7_countOf 35 = .ok (.iload_n 2, 1) := by decide +kernel
theorem dX7_countOf_36 : decode cX7_countOf 36 = .ok (.invokestatic 26, 3) := by decide +kernel
theorem dX7_countOf_39 : decode cX7_countOf 39 = .ok (.invokestatic 92, 3) := by decide +kernel
theorem dX7_countOf_42 : decode cX7_countOf 42 = .ok (.iadd, 1) := by decide +kernel
theorem dX7_countOf_43 : decode cX7_countOf 43 = .ok (.istore_n 3, 1) := by decide +kernel
theorem dX7_countOf_44 : decode cX7_countOf 44 = .ok (.iinc 6 1, 3) := by decide +kernel
theorem dX7_countOf_47 : decode cX7_countOf 47 = .ok (.goto (-29), 3) := by decide +kernel
theorem dX7_countOf_50 : decode cX7_countOf 50 = .ok (.iload_n 3, 1) := by decide +kernel
theorem dX7_countOf_51 : decode cX7_countOf 51 = .ok (.ireturn, 1) := by decide +kernel
theorem dX7_count_0 : decode cX7_count 0 = .ok (.aload_n 0, 1) := by decide +kernel
theorem dX7_count_1 : decode cX7_count 1 = .ok (.iload_n 1, 1) := by decide +kernel
theorem dX7_count_2 : decode cX7_count 2 = .ok (.invokestatic 68, 3) := by decide +kernel
theorem dX7_count_5 : decode cX7_count 5 = .ok (.iconst 1, 1) := by decide +kernel
theorem dX7_count_6 : decode cX7_count 6 = .ok (.invokevirtual 71, 3) := by decide +kernel
theorem dX7_count_9 : decode cX7_count 9 = .ok (.ifCond .ne 15, 3) := by decide +kernel
theorem dX7_count_12 : decode cX7_count 12 = .ok (.aload_n 0, 1) := by decide +kernel
theorem dX7_count_13 : decode cX7_count 13 = .ok (.iload_n 2, 1) := by decide +kernel
theorem dX7_count_14 : decode cX7_count 14 = .ok (.invokestatic 100, 3) := by decide +kernel
theorem dX7_count_17 : decode cX7_count 17 = .ok (.iconst 2, 1) := by decide +kernel
theorem dX7_count_18 : decode cX7_count 18 = .ok (.invokevirtual 45, 3) := by decide +kernel
theorem dX7_count_21 : decode cX7_count 21 = .ok (.ifCond .eq 7, 3) := by decide +kernel
theorem dX7_count_24 : decode cX7_count 24 = .ok (.iconst 0, 1) := by decide +kernel
theorem dX7_count_25 : decode cX7_count 25 = .ok (.goto 9, 3) := by decide +kernel
theorem dX7_count_28 : decode cX7_count 28 = .ok (.aload_n 0, 1) := by decide +kernel
theorem dX7_count_29 : decode cX7_count 29 = .ok (.iload_n 1, 1) := by decide +kernel
theorem dX7_count_30 : decode cX7_count 30 = .ok (.iload_n 2, 1) := by decide +kernel
theorem dX7_count_31 : decode cX7_count 31 = .ok (.invokevirtual 170, 3) := by decide +kernel
theorem dX7_count_34 : decode cX7_count 34 = .ok (.ireturn, 1) := by decide +kernel
theorem dX7_first_0 : decode cX7_first 0 = .ok (.aload_n 0, 1) := by decide +kernel
theorem dX7_first_1 : decode cX7_first 1 = .ok (.iload_n 1, 1) := by decide +kernel
theorem dX7_first_2 : decode cX7_first 2 = .ok (.invokestatic 68, 3) := by decide +kernel
theorem dX7_first_5 : decode cX7_first 5 = .ok (.iconst 1, 1) := by decide +kernel
theorem dX7_first_6 : decode cX7_first 6 = .ok (.invokevirtual 71, 3) := by decide +kernel
theorem dX7_first_9 : decode cX7_first 9 = .ok (.ifCond .ne 27, 3) := by decide +kernel
theorem dX7_first_12 : decode cX7_first 12 = .ok (.aload_n 0, 1) := by decide +kernel
theorem dX7_first_13 : decode cX7_first 13 = .ok (.iload_n 2, 1) := by decide +kernel
theorem dX7_first_14 : decode cX7_first 14 = .ok (.invokestatic 100, 3) := by decide +kernel
theorem dX7_first_17 : decode cX7_first 17 = .ok (.ifCond .ne 7, 3) := by decide +kernel
theorem dX7_first_20 : decode cX7_first 20 = .ok (.iload_n 3, 1) := by decide +kernel
theorem dX7_first_21 : decode cX7_first 21 = .ok (.ifCond .ge 7, 3) := by decide +kernel
theorem dX7_first_24 : decode cX7_first 24 = .ok (.iconst 1, 1) := by decide +kernel
theorem dX7_first_25 : decode cX7_first 25 = .ok (.goto 4, 3) := by decide +kernel
theorem dX7_first_28 : decode cX7_first 28 = .ok (.iconst 0, 1) := by decide +kernel
theorem dX7_first_29 : decode cX7_first 29 = .ok (.iconst 2, 1) := by decide +kernel
theorem dX7_first_30 : decode cX7_first 30 = .ok (.invokevirtual 45, 3) := by decide +kernel
theorem dX7_first_33 : decode cX7_first 33 = .ok (.ifCond .eq 5, 3) := by decide +kernel
theorem dX7_first_36 : decode cX7_first 36 = .ok (.iconst 0, 1) := by decide +kernel
theorem dX7_first_37 : decode cX7_first 37 = .ok (.ireturn, 1) := by decide +kernel
theorem dX7_first_38 : decode cX7_first 38 = .ok (.iload_n 3, 1) := by decide +kernel
theorem dX7_first_39 : decode cX7_first 39 = .ok (.istore 4, 2) := by decide +kernel
theorem dX7_first_41 : decode cX7_first 41 = .ok (.iload 4, 2) := by decide +kernel
theorem dX7_first_43 : decode cX7_first 43 = .ok (.aload_n 0, 1) := by decide +kernel
theorem dX7_first_44 : decode cX7_first 44 = .ok (.getfield 9, 3) := by decide +kernel
theorem dX7_first_47 : decode cX7_first 47 = .ok (.iload_n 1, 1) := by decide +kernel
theorem dX7_first_48 : decode cX7_first 48 = .ok (.aaload, 1) := by decide +kernel
theorem dX7_first_49 : decode cX7_first 49 = .ok (.arraylength, 1) := by decide +kernel
theorem dX7_first_50 : decode cX7_first 50 = .ok (.if_icmp .ge 28, 3) := by decide +kernel
theorem dX7_first_53 : decode cX7_first 53 = .ok (.aload_n 0, 1) := by decide +kernel
theorem dX7_first_54 : decode cX7_first 54 = .ok (.getfield 9, 3) := by decide +kernel
theorem dX7_first_57 : decode cX7_first 57 = .ok (.iload_n 1, 1) := by decide +kernel
theorem dX7_first_58 : decode cX7_first 58 = .ok (.aaload, 1) := by decide +kernel
theorem dX7_first_59 : decode cX7_first 59 = .ok (.iload 4, 2) := by decide +kernel
theorem dX7_first_61 : decode cX7_first 61 = .ok (.iaload, 1) := by decide +kernel
theorem dX7_first_62 : decode cX7_first 62 = .ok (.iload_n 2, 1) := by decide +kernel
theorem dX7_first_63 : decode cX7_first 63 = .ok (.invokestatic 26, 3) := by decide +kernel
theorem dX7_first_66 : decode cX7_first 66 = .ok (.ifCond .eq 6, 3) := by decide +kernel
theorem dX7_first_69 : decode cX7_first 69 = .ok (.iload 4, 2) := by decide +kernel
theorem dX7_first_71 : decode cX7_first 71 = .ok (.ireturn, 1) := by decide +kernel
theorem dX7_first_72 : decode cX7_first 72 = .ok (.iinc 4 1, 3) := by decide +kernel
theorem dX7_first_75 : decode cX7_first 75 = .ok (.goto (-34), 3) := by decide +kernel
theorem dX7_first_78 : decode cX7_first 78 = .ok (.iconst (-1), 1) := by decide +kernel
theorem dX7_first_79 : decode cX7_first 79 = .ok (.ireturn, 1) := by decide +kernel
theorem dX7_last_0 : decode cX7_last 0 = .ok (.aload_n 0, 1) := by decide +kernel
theorem dX7_last_1 : decode cX7_last 1 = .ok (.iload_n 1, 1) := by decide +kernel
theorem dX7_last_2 : decode cX7_last 2 = .ok (.invokestatic 68, 3) := by decide +kernel
theorem dX7_last_5 : decode cX7_last 5 = .ok (.iconst 1, 1) := by decide +kernel
theorem dX7_last_6 : decode cX7_last 6 = .ok (.invokevirtual 71, 3) := by decide +kernel
theorem dX7_last_9 : decode cX7_last 9 = .ok (.ifCond .ne 15, 3) := by decide +kernel
theorem dX7_last_12 : decode cX7_last 12 = .ok (.aload_n 0, 1) := by decide +kernel
theorem dX7_last_13 : decode cX7_last 13 = .ok (.iload_n 2, 1) := by decide +kernel
theorem dX7_last_14 : decode cX7_last 14 = .ok (.invokestatic 100, 3) := by decide +kernel
theorem dX7_last_17 : decode cX7_last 17 = .ok (.iconst 2, 1) := by decide +kernel
theorem dX7_last_18 : decode cX7_last 18 = .ok (.invokevirtual 45, 3) := by decide +kernel
theorem dX7_last_21 : decode cX7_last 21 = .ok (.ifCond .eq 5, 3) := by decide +kernel
theorem dX7_last_24 : decode cX7_last 24 = .ok (.iconst 0, 1) := by decide +kernel
theorem dX7_last_25 : decode cX7_last 25 = .ok (.ireturn, 1) := by decide +kernel
theorem dX7_last_26 : decode cX7_last 26 = .ok (.iconst (-1), 1) := by decide +kernel
theorem dX7_last_27 : decode cX7_last 27 = .ok (.istore_n 3, 1) := by decide +kernel
theorem dX7_last_28 : decode cX7_last 28 = .ok (.iconst 0, 1) := by decide +kernel
theorem dX7_last_29 : decode cX7_last 29 = .ok (.istore 4, 2) := by decide +kernel
theorem dX7_last_31 : decode cX7_last 31 = .ok (.iload 4, 2) := by decide +kernel
theorem dX7_last_33 : decode cX7_last 33 = .ok (.aload_n 0, 1) := by decide +kernel
theorem dX7_last_34 : decode cX7_last 34 = .ok (.getfield 9, 3) := by decide +kernel
theorem dX7_last_37 : decode cX7_last 37 = .ok (.iload_n 1, 1) := by decide +kernel
theorem dX7_last_38 : decode cX7_last 38 = .ok (.aaload, 1) := by decide +kernel
theorem dX7_last_39 : decode cX7_last 39 = .ok (.arraylength, 1) := by decide +kernel
theorem dX7_last_40 : decode cX7_last 40 = .ok (.if_icmp .ge 28, 3) := by decide +kernel
theorem dX7_last_43 : decode cX7_last 43 = .ok (.aload_n 0, 1) := by decide +kernel
theorem dX7_last_44 : decode cX7_last 44 = .ok (.getfield 9, 3) := by decide +kernel
theorem dX7_last_47 : decode cX7_last 47 = .ok (.iload_n 1, 1) := by decide +kernel
theorem dX7_last_48 : decode cX7_last 48 = .ok (.aaload, 1) := by decide +kernel
theorem dX7_last_49 : decode cX7_last 49 = .ok (.iload 4, 2) := by decide +kernel
theorem dX7_last_51 : decode cX7_last 51 = .ok (.iaload, 1) := by decide +kernel
theorem dX7_last_52 : decode cX7_last 52 = .ok (.iload_n 2, 1) := by decide +kernel
theorem dX7_last_53 : decode cX7_last 53 = .ok (.invokestatic 26, 3) := by decide +kernel
theorem dX7_last_56 : decode cX7_last 56 = .ok (.ifCond .eq 6, 3) := by decide +kernel
theorem dX7_last_59 : decode cX7_last 59 = .ok (.iload 4, 2) := by decide +kernel
theorem dX7_last_61 : decode cX7_last 61 = .ok (.istore_n 3, 1) := by decide +kernel
theorem dX7_last_62 : decode cX7_last 62 = .ok (.iinc 4 1, 3) := by decide +kernel
theorem dX7_last_65 : decode cX7_last 65 = .ok (.goto (-34), 3) := by decide +kernel
theorem dX7_last_68 : decode cX7_last 68 = .ok (.iload_n 3, 1) := by decide +kernel
theorem dX7_last_69 : decode cX7_last 69 = .ok (.ireturn, 1) := by decide +kernel
theorem dX7_forms_0 : decode cX7_forms 0 = .ok (.aload_n 0, 1) := by decide +kernel
theorem dX7_forms_1 : decode cX7_forms 1 = .ok (.iload_n 1, 1) := by decide +kernel
theorem dX7_forms_2 : decode cX7_forms 2 = .ok (.invokestatic 68, 3) := by decide +kernel
theorem dX7_forms_5 : decode cX7_forms 5 = .ok (.iconst 1, 1) := by decide +kernel
theorem dX7_forms_6 : decode cX7_forms 6 = .ok (.invokevirtual 71, 3) := by decide +kernel
theorem dX7_forms_9 : decode cX7_forms 9 = .ok (.ifCond .eq 6, 3) := by decide +kernel
theorem dX7_forms_12 : decode cX7_forms 12 = .ok (.ldc 173, 2) := by decide +kernel
theorem dX7_forms_14 : decode cX7_forms 14 = .ok (.areturn, 1) := by decide +kernel
theorem dX7_forms_15 : decode cX7_forms 15 = .ok (.ldc 173, 2) := by decide +kernel
theorem dX7_forms_17 : decode cX7_forms 17 = .ok (.astore_n 2, 1) := by decide +kernel
theorem dX7_forms_18 : decode cX7_forms 18 = .ok (.aload_n 0, 1) := by decide +kernel
theorem dX7_forms_19 : decode cX7_forms 19 = .ok (.getfield 9, 3) := by decide +kernel
theorem dX7_forms_22 : decode cX7_forms 22 = .ok (.iload_n 1, 1) := by decide +kernel
theorem dX7_forms_23 : decode cX7_forms 23 = .ok (.aaload, 1) := by decide +kernel
theorem dX7_forms_24 : decode cX7_forms 24 = .ok (.astore_n 3, 1) := by decide +kernel
theorem dX7_forms_25 : decode cX7_forms 25 = .ok (.aload_n 3, 1) := by decide +kernel
theorem dX7_forms_26 : decode cX7_forms 26 = .ok (.arraylength, 1) := by decide +kernel
theorem dX7_forms_27 : decode cX7_forms 27 = .ok (.istore 4, 2) := by decide +kernel
theorem dX7_forms_29 : decode cX7_forms 29 = .ok (.iconst 0, 1) := by decide +kernel
theorem dX7_forms_30 : decode cX7_forms 30 = .ok (.istore 5, 2) := by decide +kernel
theorem dX7_forms_32 : decode cX7_forms 32 = .ok (.iload 5, 2) := by decide +kernel
theorem dX7_forms_34 : decode cX7_forms 34 = .ok (.iload 4, 2) := by decide +kernel
theorem dX7_forms_36 : decode cX7_forms 36 = .ok (.if_icmp .ge 91, 3) := by decide +kernel
theorem dX7_forms_39 : decode cX7_forms 39 = .ok (.aload_n 3, 1) := by decide +kernel
theorem dX7_forms_40 : decode cX7_forms 40 = .ok (.iload 5, 2) := by decide +kernel
theorem dX7_forms_42 : decode cX7_forms 42 = .ok (.iaload, 1) := by decide +kernel
theorem dX7_forms_43 : decode cX7_forms 43 = .ok (.istore 6, 2) := by decide +kernel
theorem dX7_forms_45 : decode cX7_forms 45 = .ok (.new 175, 3) := by decide +kernel
theorem dX7_forms_48 : decode cX7_forms 48 = .ok (.dup, 1) := by decide +kernel
theorem dX7_forms_49 : decode cX7_forms 49 = .ok (.invokespecial 177, 3) := by decide +kernel
theorem dX7_forms_52 : decode cX7_forms 52 = .ok (.aload_n 2, 1) := by decide +kernel
theorem dX7_forms_53 : decode cX7_forms 53 = .ok (.invokevirtual 178, 3) := by decide +kernel
theorem dX7_forms_56 : decode cX7_forms 56 = .ok (.iload 6, 2) := by decide +kernel
theorem dX7_forms_58 : decode cX7_forms 58 = .ok (.iconst 0, 1) := by decide +kernel
theorem dX7_forms_59 : decode cX7_forms 59 = .ok (.invokestatic 26, 3) := by decide +kernel
theorem dX7_forms_62 : decode cX7_forms 62 = .ok (.ifCond .eq 8, 3) := by decide +kernel
theorem dX7_forms_65 : decode cX7_forms 65 = .ok (.ldc 182, 2) := by decide +kernel
theorem dX7_forms_67 : decode cX7_forms 67 = .ok (.goto 47, 3) := by decide +kernel
theorem dX7_forms_70 : decode cX7_forms 70 = .ok (.iload 6, 2) := by decide +kernel
theorem dX7_forms_72 : decode cX7_forms 72 = .ok (.iconst 4, 1) := by decide +kernel
theorem dX7_forms_73 : decode cX7_forms 73 = .ok (.invokestatic 26, 3) := by decide +kernel
theorem dX7_forms_76 : decode cX7_forms 76 = .ok (.ifCond .eq 8, 3) := by decide +kernel
theorem dX7_forms_79 : decode cX7_forms 79 = .ok (.ldc 184, 2) := by decide +kernel
theorem dX7_forms_81 : decode cX7_forms 81 = .ok (.goto 33, 3) := by decide +kernel
theorem dX7_forms_84 : decode cX7_forms 84 = .ok (.iload 6, 2) := by decide +kernel
theorem dX7_forms_86 : decode cX7_forms 86 = .ok (.iconst 1, 1) := by decide +kernel
theorem dX7_forms_87 : decode cX7_forms 87 = .ok (.invokestatic 26, 3) := by decide +kernel
theorem dX7_forms_90 : decode cX7_forms 90 = .ok (.ifCond .eq 8, 3) := by decide +kernel
theorem dX7_forms_93 : decode cX7_forms 93 = .ok (.ldc 186, 2) := by decide +kernel
theorem dX7_forms_95 : decode cX7_forms 95 = .ok (.goto 19, 3) := by decide +kernel
theorem dX7_forms_98 : decode cX7_forms 98 = .ok (.iload 6, 2) := by decide +kernel
theorem dX7_forms_100 : decode cX7_forms 100 = .ok (.iconst 3, 1) := by decide +kernel
theorem dX7_forms_101 : decode cX7_forms 101 = .ok (.invokestatic 26, 3) := by decide +kernel
theorem dX7_forms_104 : decode cX7_forms 104 = .ok (.ifCond .eq 8, 3) := by decide +kernel
theorem dX7_forms_107 : decode cX7_forms 107 = .ok (.ldc 188, 2) := by decide +kernel
theorem dX7_forms_109 : decode cX7_forms 109 = .ok (.goto 5, 3) := by decide +kernel
theorem dX7_forms_112 : decode cX7_forms 112 = .ok (.ldc 190, 2) := by decide +kernel
theorem dX7_forms_114 : decode cX7_forms 114 = .ok (.invokevirtual 178, 3) := by decide +kernel
theorem dX7_forms_117 : decode cX7_forms 117 = .ok (.invokevirtual 192, 3) := by decide +kernel
theorem dX7_forms_120 : decode cX7_forms 120 = .ok (.astore_n 2, 1) := by decide +kernel
theorem dX7_forms_121 : decode cX7_forms 121 = .ok (.iinc 5 1, 3) := by decide +kernel
theorem dX7_forms_124 : decode cX7_forms 124 = .ok (.goto (-92), 3) := by decide +kernel
theorem dX7_forms_127 : decode cX7_forms 127 = .ok (.aload_n 2, 1) := by decide +kernel
theorem dX7_forms_128 : decode cX7_forms 128 = .ok (.areturn, 1) := by decide +kernel
theorem dX7_spelled_0 : decode cX7_spelled 0 = .ok (.aload_n 0, 1) := by decide +kernel
theorem dX7_spelled_1 : decode cX7_spelled 1 = .ok (.iload_n 1, 1) := by decide +kernel
theorem dX7_spelled_2 : decode cX7_spelled 2 = .ok (.invokestatic 68, 3) := by decide +kernel
theorem dX7_spelled_5 : decode cX7_spelled 5 = .ok (.iconst 1, 1) := by decide +kernel
theorem dX7_spelled_6 : decode cX7_spelled 6 = .ok (.invokevirtual 71, 3) := by decide +kernel
theorem dX7_spelled_9 : decode cX7_spelled 9 = .ok (.ifCond .eq 6, 3) := by decide +kernel
theorem dX7_spelled_12 : decode cX7_spelled 12 = .ok (.ldc 173, 2) := by decide +kernel
theorem dX7_spelled_14 : decode cX7_spelled 14 = .ok (.areturn, 1) := by decide +kernel
theorem dX7_spelled_15 : decode cX7_spelled 15 = .ok (.ldc 173, 2) := by decide +kernel
theorem dX7_spelled_17 : decode cX7_spelled 17 = .ok (.astore_n 2, 1) := by decide +kernel
theorem dX7_spelled_18 : decode cX7_spelled 18 = .ok (.aload_n 0, 1) := by decide +kernel
theorem dX7_spelled_19 : decode cX7_spelled 19 = .ok (.getfield 9, 3) := by decide +kernel
theorem dX7_spelled_22 : decode cX7_spelled 22 = .ok (.iload_n 1, 1) := by decide +kernel
theorem dX7_spelled_23 : decode cX7_spelled 23 = .ok (.aaload, 1) := by decide +kernel
theorem dX7_spelled_24 : decode cX7_spelled 24 = .ok (.invokestatic 112, 3) := by decide +kernel
theorem dX7_spelled_27 : decode cX7_spelled 27 = .ok (.astore_n 3, 1) := by decide +kernel
theorem dX7_spelled_28 : decode cX7_spelled 28 = .ok (.aload_n 3, 1) := by decide +kernel
theorem dX7_spelled_29 : decode cX7_spelled 29 = .ok (.arraylength, 1) := by decide +kernel
theorem dX7_spelled_30 : decode cX7_spelled 30 = .ok (.istore 4, 2) := by decide +kernel
theorem dX7_spelled_32 : decode cX7_spelled 32 = .ok (.iconst 0, 1) := by decide +kernel
theorem dX7_spelled_33 : decode cX7_spelled 33 = .ok (.istore 5, 2) := by decide +kernel
theorem dX7_spelled_35 : decode cX7_spelled 35 = .ok (.iload 5, 2) := by decide +kernel
theorem dX7_spelled_37 : decode cX7_spelled 37 = .ok (.iload 4, 2) := by decide +kernel
theorem dX7_spelled_39 : decode cX7_spelled 39 = .ok (.if_icmp .ge 36, 3) := by decide +kernel
theorem dX7_spelled_42 : decode cX7_spelled 42 = .ok (.aload_n 3, 1) := by decide +kernel
theorem dX7_spelled_43 : decode cX7_spelled 43 = .ok (.iload 5, 2) := by decide +kernel
theorem dX7_spelled_45 : decode cX7_spelled 45 = .ok (.iaload, 1) := by decide +kernel
theorem dX7_spelled_46 : decode cX7_spelled 46 = .ok (.istore 6, 2) := by decide +kernel
theorem dX7_spelled_48 : decode cX7_spelled 48 = .ok (.new 175, 3) := by decide +kernel
theorem dX7_spelled_51 : decode cX7_spelled 51 = .ok (.dup, 1) := by decide +kernel
theorem dX7_spelled_52 : decode cX7_spelled 52 = .ok (.invokespecial 177, 3) := by decide +kernel
theorem dX7_spelled_55 : decode cX7_spelled 55 = .ok (.aload_n 2, 1) := by decide +kernel
theorem dX7_spelled_56 : decode cX7_spelled 56 = .ok (.invokevirtual 178, 3) := by decide +kernel
theorem dX7_spelled_59 : decode cX7_spelled 59 = .ok (.iload 6, 2) := by decide +kernel
theorem dX7_spelled_61 : decode cX7_spelled 61 = .ok (.i2c, 1) := by decide +kernel
theorem dX7_spelled_62 : decode cX7_spelled 62 = .ok (.invokevirtual 196, 3) := by decide +kernel
theorem dX7_spelled_65 : decode cX7_spelled 65 = .ok (.invokevirtual 192, 3) := by decide +kernel
theorem dX7_spelled_68 : decode cX7_spelled 68 = .ok (.astore_n 2, 1) := by decide +kernel
theorem dX7_spelled_69 : decode cX7_spelled 69 = .ok (.iinc 5 1, 3) := by decide +kernel
theorem dX7_spelled_72 : decode cX7_spelled 72 = .ok (.goto (-37), 3) := by decide +kernel
theorem dX7_spelled_75 : decode cX7_spelled 75 = .ok (.aload_n 2, 1) := by decide +kernel
theorem dX7_spelled_76 : decode cX7_spelled 76 = .ok (.areturn, 1) := by decide +kernel
theorem dX7_toldOf_0 : decode cX7_toldOf 0 = .ok (.lconst 0, 1) := by decide +kernel
theorem dX7_toldOf_1 : decode cX7_toldOf 1 = .ok (.lstore_n 3, 1) := by decide +kernel
theorem dX7_toldOf_2 : decode cX7_toldOf 2 = .ok (.aload_n 0, 1) := by decide +kernel
theorem dX7_toldOf_3 : decode cX7_toldOf 3 = .ok (.getfield 9, 3) := by decide +kernel
theorem dX7_toldOf_6 : decode cX7_toldOf 6 = .ok (.iload_n 1, 1) := by decide +kernel
theorem dX7_toldOf_7 : decode cX7_toldOf 7 = .ok (.aaload, 1) := by decide +kernel
theorem dX7_toldOf_8 : decode cX7_toldOf 8 = .ok (.astore 5, 2) := by decide +kernel
theorem dX7_toldOf_10 : decode cX7_toldOf 10 = .ok (.aload 5, 2) := by decide +kernel
theorem dX7_toldOf_12 : decode cX7_toldOf 12 = .ok (.arraylength, 1) := by decide +kernel
theorem dX7_toldOf_13 : decode cX7_toldOf 13 = .ok (.istore 6, 2) := by decide +kernel
theorem dX7_toldOf_15 : decode cX7_toldOf 15 = .ok (.iconst 0, 1) := by decide +kernel
theorem dX7_toldOf_16 : decode cX7_toldOf 16 = .ok (.istore 7, 2) := by decide +kernel
theorem dX7_toldOf_18 : decode cX7_toldOf 18 = .ok (.iload 7, 2) := by decide +kernel
theorem dX7_toldOf_20 : decode cX7_toldOf 20 = .ok (.iload 6, 2) := by decide +kernel
theorem dX7_toldOf_22 : decode cX7_toldOf 22 = .ok (.if_icmp .ge 46, 3) := by decide +kernel
theorem dX7_toldOf_25 : decode cX7_toldOf 25 = .ok (.aload 5, 2) := by decide +kernel
theorem dX7_toldOf_27 : decode cX7_toldOf 27 = .ok (.iload 7, 2) := by decide +kernel
theorem dX7_toldOf_29 : decode cX7_toldOf 29 = .ok (.iaload, 1) := by decide +kernel
theorem dX7_toldOf_30 : decode cX7_toldOf 30 = .ok (.istore 8, 2) := by decide +kernel
theorem dX7_toldOf_32 : decode cX7_toldOf 32 = .ok (.iload 8, 2) := by decide +kernel
theorem dX7_toldOf_34 : decode cX7_toldOf 34 = .ok (.iload_n 2, 1) := by decide +kernel
theorem dX7_toldOf_35 : decode cX7_toldOf 35 = .ok (.invokestatic 115, 3) := by decide +kernel
theorem dX7_toldOf_38 : decode cX7_toldOf 38 = .ok (.iconst (-1), 1) := by decide +kernel
theorem dX7_toldOf_39 : decode cX7_toldOf 39 = .ok (.if_icmp .ne 6, 3) := by decide +kernel
theorem dX7_toldOf_42 : decode cX7_toldOf 42 = .ok (.bipush (-9), 2) := by decide +kernel
theorem dX7_toldOf_44 : decode cX7_toldOf 44 = .ok (.ireturn, 1) := by decide +kernel
theorem dX7_toldOf_45 : decode cX7_toldOf 45 = .ok (.lload_n 3, 1) := by decide +kernel
theorem dX7_toldOf_46 : decode cX7_toldOf 46 = .ok (.iload_n 2, 1) := by decide +kernel
theorem dX7_toldOf_47 : decode cX7_toldOf 47 = .ok (.i2l, 1) := by decide +kernel
theorem dX7_toldOf_48 : decode cX7_toldOf 48 = .ok (.lmul, 1) := by decide +kernel
theorem dX7_toldOf_49 : decode cX7_toldOf 49 = .ok (.iload 8, 2) := by decide +kernel
theorem dX7_toldOf_51 : decode cX7_toldOf 51 = .ok (.iload_n 2, 1) := by decide +kernel
theorem dX7_toldOf_52 : decode cX7_toldOf 52 = .ok (.invokestatic 115, 3) := by decide +kernel
theorem dX7_toldOf_55 : decode cX7_toldOf 55 = .ok (.i2l, 1) := by decide +kernel
theorem dX7_toldOf_56 : decode cX7_toldOf 56 = .ok (.ladd, 1) := by decide +kernel
theorem dX7_toldOf_57 : decode cX7_toldOf 57 = .ok (.ldc2_w 199, 3) := by decide +kernel
theorem dX7_toldOf_60 : decode cX7_toldOf 60 = .ok (.lrem, 1) := by decide +kernel
theorem dX7_toldOf_61 : decode cX7_toldOf 61 = .ok (.lstore_n 3, 1) := by decide +kernel
theorem dX7_toldOf_62 : decode cX7_toldOf 62 = .ok (.iinc 7 1, 3) := by decide +kernel
theorem dX7_toldOf_65 : decode cX7_toldOf 65 = .ok (.goto (-47), 3) := by decide +kernel
theorem dX7_toldOf_68 : decode cX7_toldOf 68 = .ok (.aload_n 0, 1) := by decide +kernel
theorem dX7_toldOf_69 : decode cX7_toldOf 69 = .ok (.getfield 9, 3) := by decide +kernel
theorem dX7_toldOf_72 : decode cX7_toldOf 72 = .ok (.iload_n 1, 1) := by decide +kernel
theorem dX7_toldOf_73 : decode cX7_toldOf 73 = .ok (.aaload, 1) := by decide +kernel
theorem dX7_toldOf_74 : decode cX7_toldOf 74 = .ok (.arraylength, 1) := by decide +kernel
theorem dX7_toldOf_75 : decode cX7_toldOf 75 = .ok (.ifCond .ne 8, 3) := by decide +kernel
theorem dX7_toldOf_78 : decode cX7_toldOf 78 = .ok (.bipush (-9), 2) := by decide +kernel
theorem dX7_toldOf_80 : decode cX7_toldOf 80 = .ok (.goto 5, 3) := by decide +kernel
theorem dX7_toldOf_83 : decode cX7_toldOf 83 = .ok (.lload_n 3, 1) := by decide +kernel
theorem dX7_toldOf_84 : decode cX7_toldOf 84 = .ok (.l2i, 1) := by decide +kernel
theorem dX7_toldOf_85 : decode cX7_toldOf 85 = .ok (.ireturn, 1) := by decide +kernel
theorem dX7_told_0 : decode cX7_told 0 = .ok (.aload_n 0, 1) := by decide +kernel
theorem dX7_told_1 : decode cX7_told 1 = .ok (.iload_n 1, 1) := by decide +kernel
theorem dX7_told_2 : decode cX7_told 2 = .ok (.invokestatic 68, 3) := by decide +kernel
theorem dX7_told_5 : decode cX7_told 5 = .ok (.iconst 1, 1) := by decide +kernel
theorem dX7_told_6 : decode cX7_told 6 = .ok (.invokevirtual 71, 3) := by decide +kernel
theorem dX7_told_9 : decode cX7_told 9 = .ok (.ifCond .ne 23, 3) := by decide +kernel
theorem dX7_told_12 : decode cX7_told 12 = .ok (.aload_n 0, 1) := by decide +kernel
theorem dX7_told_13 : decode cX7_told 13 = .ok (.iload_n 2, 1) := by decide +kernel
theorem dX7_told_14 : decode cX7_told 14 = .ok (.invokestatic 37, 3) := by decide +kernel
theorem dX7_told_17 : decode cX7_told 17 = .ok (.ifCond .ne 7, 3) := by decide +kernel
theorem dX7_told_20 : decode cX7_told 20 = .ok (.iconst 1, 1) := by decide +kernel
theorem dX7_told_21 : decode cX7_told 21 = .ok (.goto 4, 3) := by decide +kernel
theorem dX7_told_24 : decode cX7_told 24 = .ok (.iconst 0, 1) := by decide +kernel
theorem dX7_told_25 : decode cX7_told 25 = .ok (.iconst 2, 1) := by decide +kernel
theorem dX7_told_26 : decode cX7_told 26 = .ok (.invokevirtual 45, 3) := by decide +kernel
theorem dX7_told_29 : decode cX7_told 29 = .ok (.ifCond .eq 7, 3) := by decide +kernel
theorem dX7_told_32 : decode cX7_told 32 = .ok (.iconst 0, 1) := by decide +kernel
theorem dX7_told_33 : decode cX7_told 33 = .ok (.goto 9, 3) := by decide +kernel
theorem dX7_told_36 : decode cX7_told 36 = .ok (.aload_n 0, 1) := by decide +kernel
theorem dX7_told_37 : decode cX7_told 37 = .ok (.iload_n 1, 1) := by decide +kernel
theorem dX7_told_38 : decode cX7_told 38 = .ok (.iload_n 2, 1) := by decide +kernel
theorem dX7_told_39 : decode cX7_told 39 = .ok (.invokevirtual 201, 3) := by decide +kernel
theorem dX7_told_42 : decode cX7_told 42 = .ok (.ireturn, 1) := by decide +kernel
theorem dX7_sum_0 : decode cX7_sum 0 = .ok (.aload_n 0, 1) := by decide +kernel
theorem dX7_sum_1 : decode cX7_sum 1 = .ok (.iload_n 1, 1) := by decide +kernel
theorem dX7_sum_2 : decode cX7_sum 2 = .ok (.invokestatic 68, 3) := by decide +kernel
theorem dX7_sum_5 : decode cX7_sum 5 = .ok (.iconst 1, 1) := by decide +kernel
theorem dX7_sum_6 : decode cX7_sum 6 = .ok (.invokevirtual 71, 3) := by decide +kernel
theorem dX7_sum_9 : decode cX7_sum 9 = .ok (.ifCond .eq 5, 3) := by decide +kernel
theorem dX7_sum_12 : decode cX7_sum 12 = .ok (.iconst 0, 1) := by decide +kernel
theorem dX7_sum_13 : decode cX7_sum 13 = .ok (.ireturn, 1) := by decide +kernel
theorem dX7_sum_14 : decode cX7_sum 14 = .ok (.iconst 0, 1) := by decide +kernel
theorem dX7_sum_15 : decode cX7_sum 15 = .ok (.istore_n 3, 1) := by decide +kernel
theorem dX7_sum_16 : decode cX7_sum 16 = .ok (.aload_n 0, 1) := by decide +kernel
theorem dX7_sum_17 : decode cX7_sum 17 = .ok (.getfield 9, 3) := by decide +kernel
theorem dX7_sum_20 : decode cX7_sum 20 = .ok (.iload_n 1, 1) := by decide +kernel
theorem dX7_sum_21 : decode cX7_sum 21 = .ok (.aaload, 1) := by decide +kernel
theorem dX7_sum_22 : decode cX7_sum 22 = .ok (.astore 4, 2) := by decide +kernel
theorem dX7_sum_24 : decode cX7_sum 24 = .ok (.aload 4, 2) := by decide +kernel
theorem dX7_sum_26 : decode cX7_sum 26 = .ok (.arraylength, 1) := by decide +kernel
theorem dX7_sum_27 : decode cX7_sum 27 = .ok (.istore 5, 2) := by decide +kernel
theorem dX7_sum_29 : decode cX7_sum 29 = .ok (.iconst 0, 1) := by decide +kernel
theorem dX7_sum_30 : decode cX7_sum 30 = .ok (.istore 6, 2) := by decide +kernel
theorem dX7_sum_32 : decode cX7_sum 32 = .ok (.iload 6, 2) := by decide +kernel
theorem dX7_sum_34 : decode cX7_sum 34 = .ok (.iload 5, 2) := by decide +kernel
theorem dX7_sum_36 : decode cX7_sum 36 = .ok (.if_icmp .ge 29, 3) := by decide +kernel
theorem dX7_sum_39 : decode cX7_sum 39 = .ok (.aload 4, 2) := by decide +kernel
theorem dX7_sum_41 : decode cX7_sum 41 = .ok (.iload 6, 2) := by decide +kernel
theorem dX7_sum_43 : decode cX7_sum 43 = .ok (.iaload, 1) := by decide +kernel
theorem dX7_sum_44 : decode cX7_sum 44 = .ok (.istore 7, 2) := by decide +kernel
theorem dX7_sum_46 : decode cX7_sum 46 = .ok (.iload_n 3, 1) := by decide +kernel
theorem dX7_sum_47 : decode cX7_sum 47 = .ok (.iconst 0, 1) := by decide +kernel
theorem dX7_sum_48 : decode cX7_sum 48 = .ok (.iload 7, 2) := by decide +kernel
theorem dX7_sum_50 : decode cX7_sum 50 = .ok (.iload_n 2, 1) := by decide +kernel
theorem dX7_sum_51 : decode cX7_sum 51 = .ok (.invokestatic 115, 3) := by decide +kernel
theorem dX7_sum_54 : decode cX7_sum 54 = .ok (.invokestatic 204, 3) := by decide +kernel
theorem dX7_sum_57 : decode cX7_sum 57 = .ok (.iadd, 1) := by decide +kernel
theorem dX7_sum_58 : decode cX7_sum 58 = .ok (.istore_n 3, 1) := by decide +kernel
theorem dX7_sum_59 : decode cX7_sum 59 = .ok (.iinc 6 1, 3) := by decide +kernel
theorem dX7_sum_62 : decode cX7_sum 62 = .ok (.goto (-30), 3) := by decide +kernel
theorem dX7_sum_65 : decode cX7_sum 65 = .ok (.iload_n 3, 1) := by decide +kernel
theorem dX7_sum_66 : decode cX7_sum 66 = .ok (.ireturn, 1) := by decide +kernel
theorem dX7_valuesOf_0 : decode cX7_valuesOf 0 = .ok (.iconst 0, 1) := by decide +kernel
theorem dX7_valuesOf_1 : decode cX7_valuesOf 1 = .ok (.istore_n 2, 1) := by decide +kernel
theorem dX7_valuesOf_2 : decode cX7_valuesOf 2 = .ok (.aload_n 0, 1) := by decide +kernel
theorem dX7_valuesOf_3 : decode cX7_valuesOf 3 = .ok (.getfield 9, 3) := by decide +kernel
theorem dX7_valuesOf_6 : decode cX7_valuesOf 6 = .ok (.iload_n 1, 1) := by decide +kernel
theorem dX7_valuesOf_7 : decode cX7_valuesOf 7 = .ok (.aaload, 1) := by decide +kernel
theorem dX7_valuesOf_8 : decode cX7_valuesOf 8 = .ok (.astore_n 3, 1) := by decide +kernel
theorem dX7_valuesOf_9 : decode cX7_valuesOf 9 = .ok (.aload_n 3, 1) := by decide +kernel
theorem dX7_valuesOf_10 : decode cX7_valuesOf 10 = .ok (.arraylength, 1) := by decide +kernel
theorem dX7_valuesOf_11 : decode cX7_valuesOf 11 = .ok (.istore 4, 2) := by decide +kernel
theorem dX7_valuesOf_13 : decode cX7_valuesOf 13 = .ok (.iconst 0, 1) := by decide +kernel
theorem dX7_valuesOf_14 : decode cX7_valuesOf 14 = .ok (.istore 5, 2) := by decide +kernel
theorem dX7_valuesOf_16 : decode cX7_valuesOf 16 = .ok (.iload 5, 2) := by decide +kernel
theorem dX7_valuesOf_18 : decode cX7_valuesOf 18 = .ok (.iload 4, 2) := by decide +kernel
theorem dX7_valuesOf_20 : decode cX7_valuesOf 20 = .ok (.if_icmp .ge 27, 3) := by decide +kernel
theorem dX7_valuesOf_23 : decode cX7_valuesOf 23 = .ok (.aload_n 3, 1) := by decide +kernel
theorem dX7_valuesOf_24 : decode cX7_valuesOf 24 = .ok (.iload 5, 2) := by decide +kernel
theorem dX7_valuesOf_26 : decode cX7_valuesOf 26 = .ok (.iaload, 1) := by decide +kernel
theorem dX7_valuesOf_27 : decode cX7_valuesOf 27 = .ok (.istore 6, 2) := by decide +kernel
theorem dX7_valuesOf_29 : decode cX7_valuesOf 29 = .ok (.iload_n 2, 1) := by decide +kernel
theorem dX7_valuesOf_30 : decode cX7_valuesOf 30 = .ok (.iconst 0, 1) := by decide +kernel
theorem dX7_valuesOf_31 : decode cX7_valuesOf 31 = .ok (.iload 6, 2) := by decide +kernel
theorem dX7_valuesOf_33 : decode cX7_valuesOf 33 = .ok (.invokestatic 33, 3) := by decide +kernel
theorem dX7_valuesOf_36 : decode cX7_valuesOf 36 = .ok (.invokestatic 204, 3) := by decide +kernel
theorem dX7_valuesOf_39 : decode cX7_valuesOf 39 = .ok (.iadd, 1) := by decide +kernel
theorem dX7_valuesOf_40 : decode cX7_valuesOf 40 = .ok (.istore_n 2, 1) := by decide +kernel
theorem dX7_valuesOf_41 : decode cX7_valuesOf 41 = .ok (.iinc 5 1, 3) := by decide +kernel
theorem dX7_valuesOf_44 : decode cX7_valuesOf 44 = .ok (.goto (-28), 3) := by decide +kernel
theorem dX7_valuesOf_47 : decode cX7_valuesOf 47 = .ok (.iload_n 2, 1) := by decide +kernel
theorem dX7_valuesOf_48 : decode cX7_valuesOf 48 = .ok (.ireturn, 1) := by decide +kernel
theorem dX7_values_0 : decode cX7_values 0 = .ok (.aload_n 0, 1) := by decide +kernel
theorem dX7_values_1 : decode cX7_values 1 = .ok (.iload_n 1, 1) := by decide +kernel
theorem dX7_values_2 : decode cX7_values 2 = .ok (.invokestatic 68, 3) := by decide +kernel
theorem dX7_values_5 : decode cX7_values 5 = .ok (.iconst 1, 1) := by decide +kernel
theorem dX7_values_6 : decode cX7_values 6 = .ok (.invokevirtual 71, 3) := by decide +kernel
theorem dX7_values_9 : decode cX7_values 9 = .ok (.ifCond .eq 7, 3) := by decide +kernel
theorem dX7_values_12 : decode cX7_values 12 = .ok (.iconst 0, 1) := by decide +kernel
theorem dX7_values_13 : decode cX7_values 13 = .ok (.goto 8, 3) := by decide +kernel
theorem dX7_values_16 : decode cX7_values 16 = .ok (.aload_n 0, 1) := by decide +kernel
theorem dX7_values_17 : decode cX7_values 17 = .ok (.iload_n 1, 1) := by decide +kernel
theorem dX7_values_18 : decode cX7_values 18 = .ok (.invokevirtual 209, 3) := by decide +kernel
theorem dX7_values_21 : decode cX7_values 21 = .ok (.ireturn, 1) := by decide +kernel
theorem dX7_wordsOf_0 : decode cX7_wordsOf 0 = .ok (.new 15, 3) := by decide +kernel
theorem dX7_wordsOf_3 : decode cX7_wordsOf 3 = .ok (.dup, 1) := by decide +kernel
theorem dX7_wordsOf_4 : decode cX7_wordsOf 4 = .ok (.invokespecial 17, 3) := by decide +kernel
theorem dX7_wordsOf_7 : decode cX7_wordsOf 7 = .ok (.astore_n 2, 1) := by decide +kernel
theorem dX7_wordsOf_8 : decode cX7_wordsOf 8 = .ok (.iconst 0, 1) := by decide +kernel
theorem dX7_wordsOf_9 : decode cX7_wordsOf 9 = .ok (.istore_n 3, 1) := by decide +kernel
theorem dX7_wordsOf_10 : decode cX7_wordsOf 10 = .ok (.iload_n 3, 1) := by decide +kernel
theorem dX7_wordsOf_11 : decode cX7_wordsOf 11 = .ok (.aload_n 0, 1) := by decide +kernel
theorem dX7_wordsOf_12 : decode cX7_wordsOf 12 = .ok (.getfield 9, 3) := by decide +kernel
theorem dX7_wordsOf_15 : decode cX7_wordsOf 15 = .ok (.iload_n 1, 1) := by decide +kernel
theorem dX7_wordsOf_16 : decode cX7_wordsOf 16 = .ok (.aaload, 1) := by decide +kernel
theorem dX7_wordsOf_17 : decode cX7_wordsOf 17 = .ok (.arraylength, 1) := by decide +kernel
theorem dX7_wordsOf_18 : decode cX7_wordsOf 18 = .ok (.if_icmp .ge 83, 3) := by decide +kernel
theorem dX7_wordsOf_21 : decode cX7_wordsOf 21 = .ok (.aload_n 0, 1) := by decide +kernel
theorem dX7_wordsOf_22 : decode cX7_wordsOf 22 = .ok (.getfield 9, 3) := by decide +kernel
theorem dX7_wordsOf_25 : decode cX7_wordsOf 25 = .ok (.iload_n 1, 1) := by decide +kernel
theorem dX7_wordsOf_26 : decode cX7_wordsOf 26 = .ok (.aaload, 1) := by decide +kernel
theorem dX7_wordsOf_27 : decode cX7_wordsOf 27 = .ok (.iload_n 3, 1) := by decide +kernel
theorem dX7_wordsOf_28 : decode cX7_wordsOf 28 = .ok (.iaload, 1) := by decide +kernel
theorem dX7_wordsOf_29 : decode cX7_wordsOf 29 = .ok (.iconst 2, 1) := by decide +kernel
theorem dX7_wordsOf_30 : decode cX7_wordsOf 30 = .ok (.invokestatic 26, 3) := by decide +kernel
theorem dX7_wordsOf_33 : decode cX7_wordsOf 33 = .ok (.ifCond .ne 6, 3) := by decide +kernel
theorem dX7_wordsOf_36 : decode cX7_wordsOf 36 = .ok (.goto 59, 3) := by decide +kernel
theorem dX7_wordsOf_39 : decode cX7_wordsOf 39 = .ok (.iload_n 3, 1) := by decide +kernel
theorem dX7_wordsOf_40 : decode cX7_wordsOf 40 = .ok (.ifCond .eq 20, 3) := by decide +kernel
theorem dX7_wordsOf_43 : decode cX7_wordsOf 43 = .ok (.aload_n 0, 1) := by decide +kernel
theorem dX7_wordsOf_44 : decode cX7_wordsOf 44 = .ok (.getfield 9, 3) := by decide +kernel
theorem dX7_wordsOf_47 : decode cX7_wordsOf 47 = .ok (.iload_n 1, 1) := by decide +kernel
theorem dX7_wordsOf_48 : decode cX7_wordsOf 48 = .ok (.aaload, 1) := by decide +kernel
theorem dX7_wordsOf_49 : decode cX7_wordsOf 49 = .ok (.iload_n 3, 1) := by decide +kernel
theorem dX7_wordsOf_50 : decode cX7_wordsOf 50 = .ok (.iconst 1, 1) := by decide +kernel
theorem dX7_wordsOf_51 : decode cX7_wordsOf 51 = .ok (.isub, 1) := by decide +kernel
theorem dX7_wordsOf_52 : decode cX7_wordsOf 52 = .ok (.iaload, 1) := by decide +kernel
theorem dX7_wordsOf_53 : decode cX7_wordsOf 53 = .ok (.iconst 2, 1) := by decide +kernel
theorem dX7_wordsOf_54 : decode cX7_wordsOf 54 = .ok (.invokestatic 26, 3) := by decide +kernel
theorem dX7_wordsOf_57 : decode cX7_wordsOf 57 = .ok (.ifCond .ne 19, 3) := by decide +kernel
theorem dX7_wordsOf_60 : decode cX7_wordsOf 60 = .ok (.aload_n 2, 1) := by decide +kernel
theorem dX7_wordsOf_61 : decode cX7_wordsOf 61 = .ok (.iconst 2, 1) := by decide +kernel
theorem dX7_wordsOf_62 : decode cX7_wordsOf 62 = .ok (.newarray .int, 2) := by decide +kernel
theorem dX7_wordsOf_64 : decode cX7_wordsOf 64 = .ok (.dup, 1) := by decide +kernel
theorem dX7_wordsOf_65 : decode cX7_wordsOf 65 = .ok (.iconst 0, 1) := by decide +kernel
theorem dX7_wordsOf_66 : decode cX7_wordsOf 66 = .ok (.iload_n 3, 1) := by decide +kernel
theorem dX7_wordsOf_67 : decode cX7_wordsOf 67 = .ok (.iastore, 1) := by decide +kernel
theorem dX7_wordsOf_68 : decode cX7_wordsOf 68 = .ok (.dup, 1) := by decide +kernel
theorem dX7_wordsOf_69 : decode cX7_wordsOf 69 = .ok (.iconst 1, 1) := by decide +kernel
theorem dX7_wordsOf_70 : decode cX7_wordsOf 70 = .ok (.iconst 0, 1) := by decide +kernel
theorem dX7_wordsOf_71 : decode cX7_wordsOf 71 = .ok (.iastore, 1) := by decide +kernel
theorem dX7_wordsOf_72 : decode cX7_wordsOf 72 = .ok (.invokevirtual 49, 3) := by decide +kernel
theorem dX7_wordsOf_75 : decode cX7_wordsOf 75 = .ok (.pop, 1) := by decide +kernel
theorem dX7_wordsOf_76 : decode cX7_wordsOf 76 = .ok (.aload_n 2, 1) := by decide +kernel
theorem dX7_wordsOf_77 : decode cX7_wordsOf 77 = .ok (.aload_n 2, 1) := by decide +kernel
theorem dX7_wordsOf_78 : decode cX7_wordsOf 78 = .ok (.invokevirtual 53, 3) := by decide +kernel
theorem dX7_wordsOf_81 : decode cX7_wordsOf 81 = .ok (.iconst 1, 1) := by decide +kernel
theorem dX7_wordsOf_82 : decode cX7_wordsOf 82 = .ok (.isub, 1) := by decide +kernel
theorem dX7_wordsOf_83 : decode cX7_wordsOf 83 = .ok (.invokevirtual 212, 3) := by decide +kernel
theorem dX7_wordsOf_86 : decode cX7_wordsOf 86 = .ok (.checkcast 7, 3) := by decide +kernel
theorem dX7_wordsOf_89 : decode cX7_wordsOf 89 = .ok (.iconst 1, 1) := by decide +kernel
theorem dX7_wordsOf_90 : decode cX7_wordsOf 90 = .ok (.dup2, 1) := by decide +kernel
theorem dX7_wordsOf_91 : decode cX7_wordsOf 91 = .ok (.iaload, 1) := by decide +kernel
theorem dX7_wordsOf_92 : decode cX7_wordsOf 92 = .ok (.iconst 1, 1) := by decide +kernel
theorem dX7_wordsOf_93 : decode cX7_wordsOf 93 = .ok (.iadd, 1) := by decide +kernel
theorem dX7_wordsOf_94 : decode cX7_wordsOf 94 = .ok (.iastore, 1) := by decide +kernel
theorem dX7_wordsOf_95 : decode cX7_wordsOf 95 = .ok (.iinc 3 1, 3) := by decide +kernel
theorem dX7_wordsOf_98 : decode cX7_wordsOf 98 = .ok (.goto (-88), 3) := by decide +kernel
theorem dX7_wordsOf_101 : decode cX7_wordsOf 101 = .ok (.aload_n 2, 1) := by decide +kernel
theorem dX7_wordsOf_102 : decode cX7_wordsOf 102 = .ok (.areturn, 1) := by decide +kernel
theorem dX7_words_0 : decode cX7_words 0 = .ok (.aload_n 0, 1) := by decide +kernel
theorem dX7_words_1 : decode cX7_words 1 = .ok (.iload_n 1, 1) := by decide +kernel
theorem dX7_words_2 : decode cX7_words 2 = .ok (.invokestatic 68, 3) := by decide +kernel
theorem dX7_words_5 : decode cX7_words 5 = .ok (.iconst 1, 1) := by decide +kernel
theorem dX7_words_6 : decode cX7_words 6 = .ok (.invokevirtual 71, 3) := by decide +kernel
theorem dX7_words_9 : decode cX7_words 9 = .ok (.ifCond .eq 7, 3) := by decide +kernel
theorem dX7_words_12 : decode cX7_words 12 = .ok (.iconst 0, 1) := by decide +kernel
theorem dX7_words_13 : decode cX7_words 13 = .ok (.goto 11, 3) := by decide +kernel
theorem dX7_words_16 : decode cX7_words 16 = .ok (.aload_n 0, 1) := by decide +kernel
theorem dX7_words_17 : decode cX7_words 17 = .ok (.iload_n 1, 1) := by decide +kernel
theorem dX7_words_18 : decode cX7_words 18 = .ok (.invokevirtual 215, 3) := by decide +kernel
theorem dX7_words_21 : decode cX7_words 21 = .ok (.invokevirtual 53, 3) := by decide +kernel
theorem dX7_words_24 : decode cX7_words 24 = .ok (.ireturn, 1) := by decide +kernel
theorem dX7_word_0 : decode cX7_word 0 = .ok (.aload_n 0, 1) := by decide +kernel
theorem dX7_word_1 : decode cX7_word 1 = .ok (.iload_n 1, 1) := by decide +kernel
theorem dX7_word_2 : decode cX7_word 2 = .ok (.invokestatic 68, 3) := by decide +kernel
theorem dX7_word_5 : decode cX7_word 5 = .ok (.ifCond .ne 21, 3) := by decide +kernel
theorem dX7_word_8 : decode cX7_word 8 = .ok (.iload_n 2, 1) := by decide +kernel
theorem dX7_word_9 : decode cX7_word 9 = .ok (.iconst 0, 1) := by decide +kernel
theorem dX7_word_10 : decode cX7_word 10 = .ok (.aload_n 0, 1) := by decide +kernel
theorem dX7_word_11 : decode cX7_word 11 = .ok (.iload_n 1, 1) := by decide +kernel
theorem dX7_word_12 : decode cX7_word 12 = .ok (.invokevirtual 215, 3) := by decide +kernel
theorem dX7_word_15 : decode cX7_word 15 = .ok (.invokevirtual 53, 3) := by decide +kernel
theorem dX7_word_18 : decode cX7_word 18 = .ok (.iconst 1, 1) := by decide +kernel
theorem dX7_word_19 : decode cX7_word 19 = .ok (.isub, 1) := by decide +kernel
theorem dX7_word_20 : decode cX7_word 20 = .ok (.invokestatic 22, 3) := by decide +kernel
theorem dX7_word_23 : decode cX7_word 23 = .ok (.ifCond .ne 7, 3) := by decide +kernel
theorem dX7_word_26 : decode cX7_word 26 = .ok (.iconst 1, 1) := by decide +kernel
theorem dX7_word_27 : decode cX7_word 27 = .ok (.goto 4, 3) := by decide +kernel
theorem dX7_word_30 : decode cX7_word 30 = .ok (.iconst 0, 1) := by decide +kernel
theorem dX7_word_31 : decode cX7_word 31 = .ok (.iconst 1, 1) := by decide +kernel
theorem dX7_word_32 : decode cX7_word 32 = .ok (.invokevirtual 71, 3) := by decide +kernel
theorem dX7_word_35 : decode cX7_word 35 = .ok (.ifCond .eq 7, 3) := by decide +kernel
theorem dX7_word_38 : decode cX7_word 38 = .ok (.iconst 0, 1) := by decide +kernel
theorem dX7_word_39 : decode cX7_word 39 = .ok (.goto 25, 3) := by decide +kernel
theorem dX7_word_42 : decode cX7_word 42 = .ok (.aload_n 0, 1) := by decide +kernel
theorem dX7_word_43 : decode cX7_word 43 = .ok (.iload_n 1, 1) := by decide +kernel
theorem dX7_word_44 : decode cX7_word 44 = .ok (.invokevirtual 215, 3) := by decide +kernel
theorem dX7_word_47 : decode cX7_word 47 = .ok (.iload_n 2, 1) := by decide +kernel
theorem dX7_word_48 : decode cX7_word 48 = .ok (.invokevirtual 212, 3) := by decide +kernel
theorem dX7_word_51 : decode cX7_word 51 = .ok (.checkcast 7, 3) := by decide +kernel
theorem dX7_word_54 : decode cX7_word 54 = .ok (.iload_n 3, 1) := by decide +kernel
theorem dX7_word_55 : decode cX7_word 55 = .ok (.ifCond .eq 7, 3) := by decide +kernel
theorem dX7_word_58 : decode cX7_word 58 = .ok (.iconst 1, 1) := by decide +kernel
theorem dX7_word_59 : decode cX7_word 59 = .ok (.goto 4, 3) := by decide +kernel
theorem dX7_word_62 : decode cX7_word 62 = .ok (.iconst 0, 1) := by decide +kernel
theorem dX7_word_63 : decode cX7_word 63 = .ok (.iaload, 1) := by decide +kernel
theorem dX7_word_64 : decode cX7_word 64 = .ok (.ireturn, 1) := by decide +kernel
theorem dX7_areAlike_0 : decode cX7_areAlike 0 = .ok (.aload_n 0, 1) := by decide +kernel
theorem dX7_areAlike_1 : decode cX7_areAlike 1 = .ok (.getfield 9, 3) := by decide +kernel
theorem dX7_areAlike_4 : decode cX7_areAlike 4 = .ok (.iload_n 1, 1) := by decide +kernel
theorem dX7_areAlike_5 : decode cX7_areAlike 5 = .ok (.aaload, 1) := by decide +kernel
theorem dX7_areAlike_6 : decode cX7_areAlike 6 = .ok (.arraylength, 1) := by decide +kernel
theorem dX7_areAlike_7 : decode cX7_areAlike 7 = .ok (.aload_n 0, 1) := by decide +kernel
theorem dX7_areAlike_8 : decode cX7_areAlike 8 = .ok (.getfield 9, 3) := by decide +kernel
theorem dX7_areAlike_11 : decode cX7_areAlike 11 = .ok (.iload_n 2, 1) := by decide +kernel
theorem dX7_areAlike_12 : decode cX7_areAlike 12 = .ok (.aaload, 1) := by decide +kernel
theorem dX7_areAlike_13 : decode cX7_areAlike 13 = .ok (.arraylength, 1) := by decide +kernel
theorem dX7_areAlike_14 : decode cX7_areAlike 14 = .ok (.if_icmp .ne 7, 3) := by decide +kernel
theorem dX7_areAlike_17 : decode cX7_areAlike 17 = .ok (.iconst 1, 1) := by decide +kernel
theorem dX7_areAlike_18 : decode cX7_areAlike 18 = .ok (.goto 4, 3) := by decide +kernel
theorem dX7_areAlike_21 : decode cX7_areAlike 21 = .ok (.iconst 0, 1) := by decide +kernel
theorem dX7_areAlike_22 : decode cX7_areAlike 22 = .ok (.istore_n 3, 1) := by decide +kernel
theorem dX7_areAlike_23 : decode cX7_areAlike 23 = .ok (.iconst 0, 1) := by decide +kernel
theorem dX7_areAlike_24 : decode cX7_areAlike 24 = .ok (.istore 4, 2) := by decide +kernel
theorem dX7_areAlike_26 : decode cX7_areAlike 26 = .ok (.iload_n 3, 1) := by decide +kernel
theorem dX7_areAlike_27 : decode cX7_areAlike 27 = .ok (.ifCond .eq 54, 3) := by decide +kernel
theorem dX7_areAlike_30 : decode cX7_areAlike 30 = .ok (.iload 4, 2) := by decide +kernel
theorem dX7_areAlike_32 : decode cX7_areAlike 32 = .ok (.aload_n 0, 1) := by decide +kernel
theorem dX7_areAlike_33 : decode cX7_areAlike 33 = .ok (.getfield 9, 3) := by decide +kernel
theorem dX7_areAlike_36 : decode cX7_areAlike 36 = .ok (.iload_n 1, 1) := by decide +kernel
theorem dX7_areAlike_37 : decode cX7_areAlike 37 = .ok (.aaload, 1) := by decide +kernel
theorem dX7_areAlike_38 : decode cX7_areAlike 38 = .ok (.arraylength, 1) := by decide +kernel
theorem dX7_areAlike_39 : decode cX7_areAlike 39 = .ok (.if_icmp .ge 42, 3) := by decide +kernel
theorem dX7_areAlike_42 : decode cX7_areAlike 42 = .ok (.aload_n 0, 1) := by decide +kernel
theorem dX7_areAlike_43 : decode cX7_areAlike 43 = .ok (.getfield 9, 3) := by decide +kernel
theorem dX7_areAlike_46 : decode cX7_areAlike 46 = .ok (.iload_n 1, 1) := by decide +kernel
theorem dX7_areAlike_47 : decode cX7_areAlike 47 = .ok (.aaload, 1) := by decide +kernel
theorem dX7_areAlike_48 : decode cX7_areAlike 48 = .ok (.iload 4, 2) := by decide +kernel
theorem dX7_areAlike_50 : decode cX7_areAlike 50 = .ok (.iaload, 1) := by decide +kernel
theorem dX7_areAlike_51 : decode cX7_areAlike 51 = .ok (.invokestatic 86, 3) := by decide +kernel
theorem dX7_areAlike_54 : decode cX7_areAlike 54 = .ok (.aload_n 0, 1) := by decide +kernel
theorem dX7_areAlike_55 : decode cX7_areAlike 55 = .ok (.getfield 9, 3) := by decide +kernel
theorem dX7_areAlike_58 : decode cX7_areAlike 58 = .ok (.iload_n 2, 1) := by decide +kernel
theorem dX7_areAlike_59 : decode cX7_areAlike 59 = .ok (.aaload, 1) := by decide +kernel
theorem dX7_areAlike_60 : decode cX7_areAlike 60 = .ok (.iload 4, 2) := by decide +kernel
theorem dX7_areAlike_62 : decode cX7_areAlike 62 = .ok (.iaload, 1) := by decide +kernel
theorem dX7_areAlike_63 : decode cX7_areAlike 63 = .ok (.invokestatic 86, 3) := by decide +kernel
theorem dX7_areAlike_66 : decode cX7_areAlike 66 = .ok (.if_icmp .ne 7, 3) := by decide +kernel
theorem dX7_areAlike_69 : decode cX7_areAlike 69 = .ok (.iconst 1, 1) := by decide +kernel
theorem dX7_areAlike_70 : decode cX7_areAlike 70 = .ok (.goto 4, 3) := by decide +kernel
theorem dX7_areAlike_73 : decode cX7_areAlike 73 = .ok (.iconst 0, 1) := by decide +kernel
theorem dX7_areAlike_74 : decode cX7_areAlike 74 = .ok (.istore_n 3, 1) := by decide +kernel
theorem dX7_areAlike_75 : decode cX7_areAlike 75 = .ok (.iinc 4 1, 3) := by decide +kernel
theorem dX7_areAlike_78 : decode cX7_areAlike 78 = .ok (.goto (-52), 3) := by decide +kernel
theorem dX7_areAlike_81 : decode cX7_areAlike 81 = .ok (.iload_n 3, 1) := by decide +kernel
theorem dX7_areAlike_82 : decode cX7_areAlike 82 = .ok (.ireturn, 1) := by decide +kernel
theorem dX7_isAlike_0 : decode cX7_isAlike 0 = .ok (.aload_n 0, 1) := by decide +kernel
theorem dX7_isAlike_1 : decode cX7_isAlike 1 = .ok (.iload_n 1, 1) := by decide +kernel
theorem dX7_isAlike_2 : decode cX7_isAlike 2 = .ok (.invokestatic 68, 3) := by decide +kernel
theorem dX7_isAlike_5 : decode cX7_isAlike 5 = .ok (.ifCond .ne 10, 3) := by decide +kernel
theorem dX7_isAlike_8 : decode cX7_isAlike 8 = .ok (.iload_n 2, 1) := by decide +kernel
theorem dX7_isAlike_9 : decode cX7_isAlike 9 = .ok (.invokestatic 68, 3) := by decide +kernel
theorem dX7_isAlike_12 : decode cX7_isAlike 12 = .ok (.ifCond .eq 7, 3) := by decide +kernel
theorem dX7_isAlike_15 : decode cX7_isAlike 15 = .ok (.iconst 1, 1) := by decide +kernel
theorem dX7_isAlike_16 : decode cX7_isAlike 16 = .ok (.goto 4, 3) := by decide +kernel
theorem dX7_isAlike_19 : decode cX7_isAlike 19 = .ok (.iconst 0, 1) := by decide +kernel
theorem dX7_isAlike_20 : decode cX7_isAlike 20 = .ok (.iconst 1, 1) := by decide +kernel
theorem dX7_isAlike_21 : decode cX7_isAlike 21 = .ok (.invokevirtual 71, 3) := by decide +kernel
theorem dX7_isAlike_24 : decode cX7_isAlike 24 = .ok (.ifCond .ne 16, 3) := by decide +kernel
theorem dX7_isAlike_27 : decode cX7_isAlike 27 = .ok (.aload_n 0, 1) := by decide +kernel
theorem dX7_isAlike_28 : decode cX7_isAlike 28 = .ok (.iload_n 1, 1) := by decide +kernel
theorem dX7_isAlike_29 : decode cX7_isAlike 29 = .ok (.iload_n 2, 1) := by decide +kernel
theorem dX7_isAlike_30 : decode cX7_isAlike 30 = .ok (.invokevirtual 219, 3) := by decide +kernel
theorem dX7_isAlike_33 : decode cX7_isAlike 33 = .ok (.ifCond .eq 7, 3) := by decide +kernel
theorem dX7_isAlike_36 : decode cX7_isAlike 36 = .ok (.iconst 1, 1) := by decide +kernel
theorem dX7_isAlike_37 : decode cX7_isAlike 37 = .ok (.goto 4, 3) := by decide +kernel
theorem dX7_isAlike_40 : decode cX7_isAlike 40 = .ok (.iconst 0, 1) := by decide +kernel
theorem dX7_isAlike_41 : decode cX7_isAlike 41 = .ok (.ireturn, 1) := by decide +kernel
theorem dX7_orderOf_0 : decode cX7_orderOf 0 = .ok (.iconst 0, 1) := by decide +kernel
theorem dX7_orderOf_1 : decode cX7_orderOf 1 = .ok (.istore_n 3, 1) := by decide +kernel
theorem dX7_orderOf_2 : decode cX7_orderOf 2 = .ok (.iload_n 3, 1) := by decide +kernel
theorem dX7_orderOf_3 : decode cX7_orderOf 3 = .ok (.aload_n 1, 1) := by decide +kernel
theorem dX7_orderOf_4 : decode cX7_orderOf 4 = .ok (.arraylength, 1) := by decide +kernel
theorem dX7_orderOf_5 : decode cX7_orderOf 5 = .ok (.if_icmp .ge 39, 3) := by decide +kernel
theorem dX7_orderOf_8 : decode cX7_orderOf 8 = .ok (.iload_n 3, 1) := by decide +kernel
theorem dX7_orderOf_9 : decode cX7_orderOf 9 = .ok (.aload_n 2, 1) := by decide +kernel
theorem dX7_orderOf_10 : decode cX7_orderOf 10 = .ok (.arraylength, 1) := by decide +kernel
theorem dX7_orderOf_11 : decode cX7_orderOf 11 = .ok (.if_icmp .ge 33, 3) := by decide +kernel
theorem dX7_orderOf_14 : decode cX7_orderOf 14 = .ok (.aload_n 1, 1) := by decide +kernel
theorem dX7_orderOf_15 : decode cX7_orderOf 15 = .ok (.iload_n 3, 1) := by decide +kernel
theorem dX7_orderOf_16 : decode cX7_orderOf 16 = .ok (.iaload, 1) := by decide +kernel
theorem dX7_orderOf_17 : decode cX7_orderOf 17 = .ok (.aload_n 2, 1) := by decide +kernel
theorem dX7_orderOf_18 : decode cX7_orderOf 18 = .ok (.iload_n 3, 1) := by decide +kernel
theorem dX7_orderOf_19 : decode cX7_orderOf 19 = .ok (.iaload, 1) := by decide +kernel
theorem dX7_orderOf_20 : decode cX7_orderOf 20 = .ok (.if_icmp .eq 18, 3) := by decide +kernel
theorem dX7_orderOf_23 : decode cX7_orderOf 23 = .ok (.aload_n 1, 1) := by decide +kernel
theorem dX7_orderOf_24 : decode cX7_orderOf 24 = .ok (.iload_n 3, 1) := by decide +kernel
theorem dX7_orderOf_25 : decode cX7_orderOf 25 = .ok (.iaload, 1) := by decide +kernel
theorem dX7_orderOf_26 : decode cX7_orderOf 26 = .ok (.aload_n 2, 1) := by decide +kernel
theorem dX7_orderOf_27 : decode cX7_orderOf 27 = .ok (.iload_n 3, 1) := by decide +kernel
theorem dX7_orderOf_28 : decode cX7_orderOf 28 = .ok (.iaload, 1) := by decide +kernel
theorem dX7_orderOf_29 : decode cX7_orderOf 29 = .ok (.if_icmp .ge 7, 3) := by decide +kernel
theorem dX7_orderOf_32 : decode cX7_orderOf 32 = .ok (.iconst (-1), 1) := by decide +kernel
theorem dX7_orderOf_33 : decode cX7_orderOf 33 = .ok (.goto 4, 3) := by decide +kernel
theorem dX7_orderOf_36 : decode cX7_orderOf 36 = .ok (.iconst 1, 1) := by decide +kernel
theorem dX7_orderOf_37 : decode cX7_orderOf 37 = .ok (.ireturn, 1) := by decide +kernel
theorem dX7_orderOf_38 : decode cX7_orderOf 38 = .ok (.iinc 3 1, 3) := by decide +kernel
theorem dX7_orderOf_41 : decode cX7_orderOf 41 = .ok (.goto (-39), 3) := by decide +kernel
theorem dX7_orderOf_44 : decode cX7_orderOf 44 = .ok (.aload_n 1, 1) := by decide +kernel
theorem dX7_orderOf_45 : decode cX7_orderOf 45 = .ok (.arraylength, 1) := by decide +kernel
theorem dX7_orderOf_46 : decode cX7_orderOf 46 = .ok (.aload_n 2, 1) := by decide +kernel
theorem dX7_orderOf_47 : decode cX7_orderOf 47 = .ok (.arraylength, 1) := by decide +kernel
theorem dX7_orderOf_48 : decode cX7_orderOf 48 = .ok (.if_icmp .ne 7, 3) := by decide +kernel
theorem dX7_orderOf_51 : decode cX7_orderOf 51 = .ok (.iconst 0, 1) := by decide +kernel
theorem dX7_orderOf_52 : decode cX7_orderOf 52 = .ok (.goto 15, 3) := by decide +kernel
theorem dX7_orderOf_55 : decode cX7_orderOf 55 = .ok (.aload_n 1, 1) := by decide +kernel
theorem dX7_orderOf_56 : decode cX7_orderOf 56 = .ok (.arraylength, 1) := by decide +kernel
theorem dX7_orderOf_57 : decode cX7_orderOf 57 = .ok (.aload_n 2, 1) := by decide +kernel
theorem dX7_orderOf_58 : decode cX7_orderOf 58 = .ok (.arraylength, 1) := by decide +kernel
theorem dX7_orderOf_59 : decode cX7_orderOf 59 = .ok (.if_icmp .ge 7, 3) := by decide +kernel
theorem dX7_orderOf_62 : decode cX7_orderOf 62 = .ok (.iconst (-1), 1) := by decide +kernel
theorem dX7_orderOf_63 : decode cX7_orderOf 63 = .ok (.goto 4, 3) := by decide +kernel
theorem dX7_orderOf_66 : decode cX7_orderOf 66 = .ok (.iconst 1, 1) := by decide +kernel
theorem dX7_orderOf_67 : decode cX7_orderOf 67 = .ok (.ireturn, 1) := by decide +kernel
theorem dX7_order_0 : decode cX7_order 0 = .ok (.aload_n 0, 1) := by decide +kernel
theorem dX7_order_1 : decode cX7_order 1 = .ok (.iload_n 1, 1) := by decide +kernel
theorem dX7_order_2 : decode cX7_order 2 = .ok (.invokestatic 68, 3) := by decide +kernel
theorem dX7_order_5 : decode cX7_order 5 = .ok (.ifCond .ne 10, 3) := by decide +kernel
theorem dX7_order_8 : decode cX7_order 8 = .ok (.iload_n 2, 1) := by decide +kernel
theorem dX7_order_9 : decode cX7_order 9 = .ok (.invokestatic 68, 3) := by decide +kernel
theorem dX7_order_12 : decode cX7_order 12 = .ok (.ifCond .eq 7, 3) := by decide +kernel
theorem dX7_order_15 : decode cX7_order 15 = .ok (.iconst 1, 1) := by decide +kernel
theorem dX7_order_16 : decode cX7_order 16 = .ok (.goto 4, 3) := by decide +kernel
theorem dX7_order_19 : decode cX7_order 19 = .ok (.iconst 0, 1) := by decide +kernel
theorem dX7_order_20 : decode cX7_order 20 = .ok (.iconst 1, 1) := by decide +kernel
theorem dX7_order_21 : decode cX7_order 21 = .ok (.invokevirtual 71, 3) := by decide +kernel
theorem dX7_order_24 : decode cX7_order 24 = .ok (.ifCond .eq 7, 3) := by decide +kernel
theorem dX7_order_27 : decode cX7_order 27 = .ok (.iconst 0, 1) := by decide +kernel
theorem dX7_order_28 : decode cX7_order 28 = .ok (.goto 19, 3) := by decide +kernel
theorem dX7_order_31 : decode cX7_order 31 = .ok (.aload_n 0, 1) := by decide +kernel
theorem dX7_order_32 : decode cX7_order 32 = .ok (.aload_n 0, 1) := by decide +kernel
theorem dX7_order_33 : decode cX7_order 33 = .ok (.getfield 9, 3) := by decide +kernel
theorem dX7_order_36 : decode cX7_order 36 = .ok (.iload_n 1, 1) := by decide +kernel
theorem dX7_order_37 : decode cX7_order 37 = .ok (.aaload, 1) := by decide +kernel
theorem dX7_order_38 : decode cX7_order 38 = .ok (.aload_n 0, 1) := by decide +kernel
theorem dX7_order_39 : decode cX7_order 39 = .ok (.getfield 9, 3) := by decide +kernel
theorem dX7_order_42 : decode cX7_order 42 = .ok (.iload_n 2, 1) := by decide +kernel
theorem dX7_order_43 : decode cX7_order 43 = .ok (.aaload, 1) := by decide +kernel
theorem dX7_order_44 : decode cX7_order 44 = .ok (.invokevirtual 222, 3) := by decide +kernel
theorem dX7_order_47 : decode cX7_order 47 = .ok (.ireturn, 1) := by decide +kernel
theorem dX7_isCode_0 : decode cX7_isCode 0 = .ok (.aload_n 0, 1) := by decide +kernel
theorem dX7_isCode_1 : decode cX7_isCode 1 = .ok (.iconst 0, 1) := by decide +kernel
theorem dX7_isCode_2 : decode cX7_isCode 2 = .ok (.putfield 41, 3) := by decide +kernel
theorem dX7_isCode_5 : decode cX7_isCode 5 = .ok (.iload_n 1, 1) := by decide +kernel
theorem dX7_isCode_6 : decode cX7_isCode 6 = .ok (.iconst 0, 1) := by decide +kernel
theorem dX7_isCode_7 : decode cX7_isCode 7 = .ok (.ldc 132, 2) := by decide +kernel
theorem dX7_isCode_9 : decode cX7_isCode 9 = .ok (.invokestatic 22, 3) := by decide +kernel
theorem dX7_isCode_12 : decode cX7_isCode 12 = .ok (.ireturn, 1) := by decide +kernel
theorem dX7_isPlain_0 : decode cX7_isPlain 0 = .ok (.aload_n 0, 1) := by decide +kernel
theorem dX7_isPlain_1 : decode cX7_isPlain 1 = .ok (.iconst 0, 1) := by decide +kernel
theorem dX7_isPlain_2 : decode cX7_isPlain 2 = .ok (.putfield 41, 3) := by decide +kernel
theorem dX7_isPlain_5 : decode cX7_isPlain 5 = .ok (.iload_n 1, 1) := by decide +kernel
theorem dX7_isPlain_6 : decode cX7_isPlain 6 = .ok (.iconst 0, 1) := by decide +kernel
theorem dX7_isPlain_7 : decode cX7_isPlain 7 = .ok (.ldc 140, 2) := by decide +kernel
theorem dX7_isPlain_9 : decode cX7_isPlain 9 = .ok (.invokestatic 22, 3) := by decide +kernel
theorem dX7_isPlain_12 : decode cX7_isPlain 12 = .ok (.ireturn, 1) := by decide +kernel
theorem dX7_isWide_0 : decode cX7_isWide 0 = .ok (.aload_n 0, 1) := by decide +kernel
theorem dX7_isWide_1 : decode cX7_isWide 1 = .ok (.iconst 0, 1) := by decide +kernel
theorem dX7_isWide_2 : decode cX7_isWide 2 = .ok (.putfield 41, 3) := by decide +kernel
theorem dX7_isWide_5 : decode cX7_isWide 5 = .ok (.iload_n 1, 1) := by decide +kernel
theorem dX7_isWide_6 : decode cX7_isWide 6 = .ok (.ldc 128, 2) := by decide +kernel
theorem dX7_isWide_8 : decode cX7_isWide 8 = .ok (.ldc 132, 2) := by decide +kernel
theorem dX7_isWide_10 : decode cX7_isWide 10 = .ok (.invokestatic 22, 3) := by decide +kernel
theorem dX7_isWide_13 : decode cX7_isWide 13 = .ok (.ireturn, 1) := by decide +kernel
theorem dX7_units_0 : decode cX7_units 0 = .ok (.aload_n 0, 1) := by decide +kernel
theorem dX7_units_1 : decode cX7_units 1 = .ok (.iconst 0, 1) := by decide +kernel
theorem dX7_units_2 : decode cX7_units 2 = .ok (.putfield 41, 3) := by decide +kernel
theorem dX7_units_5 : decode cX7_units 5 = .ok (.iload_n 1, 1) := by decide +kernel
theorem dX7_units_6 : decode cX7_units 6 = .ok (.ldc 128, 2) := by decide +kernel
theorem dX7_units_8 : decode cX7_units 8 = .ok (.if_icmp .ge 7, 3) := by decide +kernel
theorem dX7_units_11 : decode cX7_units 11 = .ok (.iconst 1, 1) := by decide +kernel
theorem dX7_units_12 : decode cX7_units 12 = .ok (.goto 4, 3) := by decide +kernel
theorem dX7_units_15 : decode cX7_units 15 = .ok (.iconst 2, 1) := by decide +kernel
theorem dX7_units_16 : decode cX7_units 16 = .ok (.ireturn, 1) := by decide +kernel
theorem dX7_half_0 : decode cX7_half 0 = .ok (.aload_n 0, 1) := by decide +kernel
theorem dX7_half_1 : decode cX7_half 1 = .ok (.iload_n 1, 1) := by decide +kernel
theorem dX7_half_2 : decode cX7_half 2 = .ok (.ldc 128, 2) := by decide +kernel
theorem dX7_half_4 : decode cX7_half 4 = .ok (.ldc 132, 2) := by decide +kernel
theorem dX7_half_6 : decode cX7_half 6 = .ok (.invokestatic 22, 3) := by decide +kernel
theorem dX7_half_9 : decode cX7_half 9 = .ok (.ifCond .ne 7, 3) := by decide +kernel
theorem dX7_half_12 : decode cX7_half 12 = .ok (.iconst 1, 1) := by decide +kernel
theorem dX7_half_13 : decode cX7_half 13 = .ok (.goto 4, 3) := by decide +kernel
theorem dX7_half_16 : decode cX7_half 16 = .ok (.iconst 0, 1) := by decide +kernel
theorem dX7_half_17 : decode cX7_half 17 = .ok (.iconst 1, 1) := by decide +kernel
theorem dX7_half_18 : decode cX7_half 18 = .ok (.invokevirtual 71, 3) := by decide +kernel
theorem dX7_half_21 : decode cX7_half 21 = .ok (.ifCond .eq 7, 3) := by decide +kernel
theorem dX7_half_24 : decode cX7_half 24 = .ok (.iconst 0, 1) := by decide +kernel
theorem dX7_half_25 : decode cX7_half 25 = .ok (.goto 17, 3) := by decide +kernel
theorem dX7_half_28 : decode cX7_half 28 = .ok (.iload_n 1, 1) := by decide +kernel
theorem dX7_half_29 : decode cX7_half 29 = .ok (.invokestatic 133, 3) := by decide +kernel
theorem dX7_half_32 : decode cX7_half 32 = .ok (.iload_n 2, 1) := by decide +kernel
theorem dX7_half_33 : decode cX7_half 33 = .ok (.ifCond .eq 7, 3) := by decide +kernel
theorem dX7_half_36 : decode cX7_half 36 = .ok (.iconst 0, 1) := by decide +kernel
theorem dX7_half_37 : decode cX7_half 37 = .ok (.goto 4, 3) := by decide +kernel
theorem dX7_half_40 : decode cX7_half 40 = .ok (.iconst 1, 1) := by decide +kernel
theorem dX7_half_41 : decode cX7_half 41 = .ok (.iaload, 1) := by decide +kernel
theorem dX7_half_42 : decode cX7_half 42 = .ok (.ireturn, 1) := by decide +kernel
theorem dX7_code_0 : decode cX7_code 0 = .ok (.aload_n 0, 1) := by decide +kernel
theorem dX7_code_1 : decode cX7_code 1 = .ok (.iload_n 1, 1) := by decide +kernel
theorem dX7_code_2 : decode cX7_code 2 = .ok (.invokestatic 122, 3) := by decide +kernel
theorem dX7_code_5 : decode cX7_code 5 = .ok (.ifCond .eq 10, 3) := by decide +kernel
theorem dX7_code_8 : decode cX7_code 8 = .ok (.iload_n 2, 1) := by decide +kernel
theorem dX7_code_9 : decode cX7_code 9 = .ok (.invokestatic 125, 3) := by decide +kernel
theorem dX7_code_12 : decode cX7_code 12 = .ok (.ifCond .ne 7, 3) := by decide +kernel
theorem dX7_code_15 : decode cX7_code 15 = .ok (.iconst 1, 1) := by decide +kernel
theorem dX7_code_16 : decode cX7_code 16 = .ok (.goto 4, 3) := by decide +kernel
theorem dX7_code_19 : decode cX7_code 19 = .ok (.iconst 0, 1) := by decide +kernel
theorem dX7_code_20 : decode cX7_code 20 = .ok (.iconst 1, 1) := by decide +kernel
theorem dX7_code_21 : decode cX7_code 21 = .ok (.invokevirtual 71, 3) := by decide +kernel
theorem dX7_code_24 : decode cX7_code 24 = .ok (.ifCond .eq 7, 3) := by decide +kernel
theorem dX7_code_27 : decode cX7_code 27 = .ok (.iconst 0, 1) := by decide +kernel
theorem dX7_code_28 : decode cX7_code 28 = .ok (.goto 8, 3) := by decide +kernel
theorem dX7_code_31 : decode cX7_code 31 = .ok (.iload_n 1, 1) := by decide +kernel
theorem dX7_code_32 : decode cX7_code 32 = .ok (.iload_n 2, 1) := by decide +kernel
theorem dX7_code_33 : decode cX7_code 33 = .ok (.invokestatic 147, 3) := by decide +kernel
theorem dX7_code_36 : decode cX7_code 36 = .ok (.ireturn, 1) := by decide +kernel
theorem dX7_ofUnitTold_0 : decode cX7_ofUnitTold 0 = .ok (.iload_n 1, 1) := by decide +kernel
theorem dX7_ofUnitTold_1 : decode cX7_ofUnitTold 1 = .ok (.ifCond .ne 13, 3) := by decide +kernel
theorem dX7_ofUnitTold_4 : decode cX7_ofUnitTold 4 = .ok (.iload_n 0, 1) := by decide +kernel
theorem dX7_ofUnitTold_5 : decode cX7_ofUnitTold 5 = .ok (.invokestatic 144, 3) := by decide +kernel
theorem dX7_ofUnitTold_8 : decode cX7_ofUnitTold 8 = .ok (.invokestatic 92, 3) := by decide +kernel
theorem dX7_ofUnitTold_11 : decode cX7_ofUnitTold 11 = .ok (.goto 37, 3) := by decide +kernel
theorem dX7_ofUnitTold_14 : decode cX7_ofUnitTold 14 = .ok (.iload_n 1, 1) := by decide +kernel
theorem dX7_ofUnitTold_15 : decode cX7_ofUnitTold 15 = .ok (.iconst 1, 1) := by decide +kernel
theorem dX7_ofUnitTold_16 : decode cX7_ofUnitTold 16 = .ok (.if_icmp .ne 13, 3) := by decide +kernel
theorem dX7_ofUnitTold_19 : decode cX7_ofUnitTold 19 = .ok (.iload_n 0, 1) := by decide +kernel
theorem dX7_ofUnitTold_20 : decode cX7_ofUnitTold 20 = .ok (.invokestatic 122, 3) := by decide +kernel
theorem dX7_ofUnitTold_23 : decode cX7_ofUnitTold 23 = .ok (.invokestatic 92, 3) := by decide +kernel
theorem dX7_ofUnitTold_26 : decode cX7_ofUnitTold 26 = .ok (.goto 22, 3) := by decide +kernel
theorem dX7_ofUnitTold_29 : decode cX7_ofUnitTold 29 = .ok (.iload_n 1, 1) := by decide +kernel
theorem dX7_ofUnitTold_30 : decode cX7_ofUnitTold 30 = .ok (.iconst 2, 1) := by decide +kernel
theorem dX7_ofUnitTold_31 : decode cX7_ofUnitTold 31 = .ok (.if_icmp .ne 13, 3) := by decide +kernel
theorem dX7_ofUnitTold_34 : decode cX7_ofUnitTold 34 = .ok (.iload_n 0, 1) := by decide +kernel
theorem dX7_ofUnitTold_35 : decode cX7_ofUnitTold 35 = .ok (.invokestatic 125, 3) := by decide +kernel
theorem dX7_ofUnitTold_38 : decode cX7_ofUnitTold 38 = .ok (.invokestatic 92, 3) := by decide +kernel
theorem dX7_ofUnitTold_41 : decode cX7_ofUnitTold 41 = .ok (.goto 7, 3) := by decide +kernel
theorem dX7_ofUnitTold_44 : decode cX7_ofUnitTold 44 = .ok (.iload_n 0, 1) := by decide +kernel
theorem dX7_ofUnitTold_45 : decode cX7_ofUnitTold 45 = .ok (.invokestatic 141, 3) := by decide +kernel
theorem dX7_ofUnitTold_48 : decode cX7_ofUnitTold 48 = .ok (.ireturn, 1) := by decide +kernel
theorem dX7_ofUnit_0 : decode cX7_ofUnit 0 = .ok (.aload_n 0, 1) := by decide +kernel
theorem dX7_ofUnit_1 : decode cX7_ofUnit 1 = .ok (.iload_n 1, 1) := by decide +kernel
theorem dX7_ofUnit_2 : decode cX7_ofUnit 2 = .ok (.iconst 0, 1) := by decide +kernel
theorem dX7_ofUnit_3 : decode cX7_ofUnit 3 = .ok (.ldc 140, 2) := by decide +kernel
theorem dX7_ofUnit_5 : decode cX7_ofUnit 5 = .ok (.invokestatic 22, 3) := by decide +kernel
theorem dX7_ofUnit_8 : decode cX7_ofUnit 8 = .ok (.ifCond .eq 12, 3) := by decide +kernel
theorem dX7_ofUnit_11 : decode cX7_ofUnit 11 = .ok (.iload_n 2, 1) := by decide +kernel
theorem dX7_ofUnit_12 : decode cX7_ofUnit 12 = .ok (.iconst 0, 1) := by decide +kernel
theorem dX7_ofUnit_13 : decode cX7_ofUnit 13 = .ok (.iconst 3, 1) := by decide +kernel
theorem dX7_ofUnit_14 : decode cX7_ofUnit 14 = .ok (.invokestatic 22, 3) := by decide +kernel
theorem dX7_ofUnit_17 : decode cX7_ofUnit 17 = .ok (.ifCond .ne 7, 3) := by decide +kernel
theorem dX7_ofUnit_20 : decode cX7_ofUnit 20 = .ok (.iconst 1, 1) := by decide +kernel
theorem dX7_ofUnit_21 : decode cX7_ofUnit 21 = .ok (.goto 4, 3) := by decide +kernel
theorem dX7_ofUnit_24 : decode cX7_ofUnit 24 = .ok (.iconst 0, 1) := by decide +kernel
theorem dX7_ofUnit_25 : decode cX7_ofUnit 25 = .ok (.iconst 1, 1) := by decide +kernel
theorem dX7_ofUnit_26 : decode cX7_ofUnit 26 = .ok (.invokevirtual 71, 3) := by decide +kernel
theorem dX7_ofUnit_29 : decode cX7_ofUnit 29 = .ok (.ifCond .eq 7, 3) := by decide +kernel
theorem dX7_ofUnit_32 : decode cX7_ofUnit 32 = .ok (.iconst 0, 1) := by decide +kernel
theorem dX7_ofUnit_33 : decode cX7_ofUnit 33 = .ok (.goto 8, 3) := by decide +kernel
theorem dX7_ofUnit_36 : decode cX7_ofUnit 36 = .ok (.iload_n 1, 1) := by decide +kernel
theorem dX7_ofUnit_37 : decode cX7_ofUnit 37 = .ok (.iload_n 2, 1) := by decide +kernel
theorem dX7_ofUnit_38 : decode cX7_ofUnit 38 = .ok (.invokestatic 226, 3) := by decide +kernel
theorem dX7_ofUnit_41 : decode cX7_ofUnit 41 = .ok (.ireturn, 1) := by decide +kernel
theorem dX7_compare_0 : decode cX7_compare 0 = .ok (.aload_n 0, 1) := by decide +kernel
theorem dX7_compare_1 : decode cX7_compare 1 = .ok (.iload_n 1, 1) := by decide +kernel
theorem dX7_compare_2 : decode cX7_compare 2 = .ok (.iconst 0, 1) := by decide +kernel
theorem dX7_compare_3 : decode cX7_compare 3 = .ok (.ldc 140, 2) := by decide +kernel
theorem dX7_compare_5 : decode cX7_compare 5 = .ok (.invokestatic 22, 3) := by decide +kernel
theorem dX7_compare_8 : decode cX7_compare 8 = .ok (.ifCond .eq 13, 3) := by decide +kernel
theorem dX7_compare_11 : decode cX7_compare 11 = .ok (.iload_n 2, 1) := by decide +kernel
theorem dX7_compare_12 : decode cX7_compare 12 = .ok (.iconst 0, 1) := by decide +kernel
theorem dX7_compare_13 : decode cX7_compare 13 = .ok (.ldc 140, 2) := by decide +kernel
theorem dX7_compare_15 : decode cX7_compare 15 = .ok (.invokestatic 22, 3) := by decide +kernel
theorem dX7_compare_18 : decode cX7_compare 18 = .ok (.ifCond .ne 7, 3) := by decide +kernel
theorem dX7_compare_21 : decode cX7_compare 21 = .ok (.iconst 1, 1) := by decide +kernel
theorem dX7_compare_22 : decode cX7_compare 22 = .ok (.goto 4, 3) := by decide +kernel
theorem dX7_compare_25 : decode cX7_compare 25 = .ok (.iconst 0, 1) := by decide +kernel
theorem dX7_compare_26 : decode cX7_compare 26 = .ok (.iconst 1, 1) := by decide +kernel
theorem dX7_compare_27 : decode cX7_compare 27 = .ok (.invokevirtual 71, 3) := by decide +kernel
theorem dX7_compare_30 : decode cX7_compare 30 = .ok (.ifCond .eq 7, 3) := by decide +kernel
theorem dX7_compare_33 : decode cX7_compare 33 = .ok (.iconst 0, 1) := by decide +kernel
theorem dX7_compare_34 : decode cX7_compare 34 = .ok (.goto 25, 3) := by decide +kernel
theorem dX7_compare_37 : decode cX7_compare 37 = .ok (.iload_n 1, 1) := by decide +kernel
theorem dX7_compare_38 : decode cX7_compare 38 = .ok (.iload_n 2, 1) := by decide +kernel
theorem dX7_compare_39 : decode cX7_compare 39 = .ok (.if_icmp .ge 7, 3) := by decide +kernel
theorem dX7_compare_42 : decode cX7_compare 42 = .ok (.iconst (-1), 1) := by decide +kernel
theorem dX7_compare_43 : decode cX7_compare 43 = .ok (.goto 16, 3) := by decide +kernel
theorem dX7_compare_46 : decode cX7_compare 46 = .ok (.iload_n 1, 1) := by decide +kernel
theorem dX7_compare_47 : decode cX7_compare 47 = .ok (.iload_n 2, 1) := by decide +kernel
theorem dX7_compare_48 : decode cX7_compare 48 = .ok (.if_icmp .le 7, 3) := by decide +kernel
theorem dX7_compare_51 : decode cX7_compare 51 = .ok (.iconst 1, 1) := by decide +kernel
theorem dX7_compare_52 : decode cX7_compare 52 = .ok (.goto 4, 3) := by decide +kernel
theorem dX7_compare_55 : decode cX7_compare 55 = .ok (.iconst 0, 1) := by decide +kernel
theorem dX7_compare_56 : decode cX7_compare 56 = .ok (.invokestatic 92, 3) := by decide +kernel
theorem dX7_compare_59 : decode cX7_compare 59 = .ok (.ireturn, 1) := by decide +kernel
theorem dX7_trackTold_0 : decode cX7_trackTold 0 = .ok (.iconst 0, 1) := by decide +kernel
theorem dX7_trackTold_1 : decode cX7_trackTold 1 = .ok (.istore_n 3, 1) := by decide +kernel
theorem dX7_trackTold_2 : decode cX7_trackTold 2 = .ok (.iconst 0, 1) := by decide +kernel
theorem dX7_trackTold_3 : decode cX7_trackTold 3 = .ok (.istore 4, 2) := by decide +kernel
theorem dX7_trackTold_5 : decode cX7_trackTold 5 = .ok (.aload_n 0, 1) := by decide +kernel
theorem dX7_trackTold_6 : decode cX7_trackTold 6 = .ok (.iload_n 1, 1) := by decide +kernel
theorem dX7_trackTold_7 : decode cX7_trackTold 7 = .ok (.invokevirtual 153, 3) := by decide +kernel
theorem dX7_trackTold_10 : decode cX7_trackTold 10 = .ok (.astore 5, 2) := by decide +kernel
theorem dX7_trackTold_12 : decode cX7_trackTold 12 = .ok (.aload 5, 2) := by decide +kernel
theorem dX7_trackTold_14 : decode cX7_trackTold 14 = .ok (.arraylength, 1) := by decide +kernel
theorem dX7_trackTold_15 : decode cX7_trackTold 15 = .ok (.istore 6, 2) := by decide +kernel
theorem dX7_trackTold_17 : decode cX7_trackTold 17 = .ok (.iconst 0, 1) := by decide +kernel
theorem dX7_trackTold_18 : decode cX7_trackTold 18 = .ok (.istore 7, 2) := by decide +kernel
theorem dX7_trackTold_20 : decode cX7_trackTold 20 = .ok (.iload 7, 2) := by decide +kernel
theorem dX7_trackTold_22 : decode cX7_trackTold 22 = .ok (.iload 6, 2) := by decide +kernel
theorem dX7_trackTold_24 : decode cX7_trackTold 24 = .ok (.if_icmp .ge 47, 3) := by decide +kernel
theorem dX7_trackTold_27 : decode cX7_trackTold 27 = .ok (.aload 5, 2) := by decide +kernel
theorem dX7_trackTold_29 : decode cX7_trackTold 29 = .ok (.iload 7, 2) := by decide +kernel
theorem dX7_trackTold_31 : decode cX7_trackTold 31 = .ok (.iaload, 1) := by decide +kernel
theorem dX7_trackTold_32 : decode cX7_trackTold 32 = .ok (.istore 8, 2) := by decide +kernel
theorem dX7_trackTold_34 : decode cX7_trackTold 34 = .ok (.iload_n 3, 1) := by decide +kernel
theorem dX7_trackTold_35 : decode cX7_trackTold 35 = .ok (.iload 8, 2) := by decide +kernel
theorem dX7_trackTold_37 : decode cX7_trackTold 37 = .ok (.ldc 140, 2) := by decide +kernel
theorem dX7_trackTold_39 : decode cX7_trackTold 39 = .ok (.if_icmp .le 7, 3) := by decide +kernel
theorem dX7_trackTold_42 : decode cX7_trackTold 42 = .ok (.iconst 1, 1) := by decide +kernel
theorem dX7_trackTold_43 : decode cX7_trackTold 43 = .ok (.goto 4, 3) := by decide +kernel
theorem dX7_trackTold_46 : decode cX7_trackTold 46 = .ok (.iconst 0, 1) := by decide +kernel
theorem dX7_trackTold_47 : decode cX7_trackTold 47 = .ok (.invokestatic 92, 3) := by decide +kernel
theorem dX7_trackTold_50 : decode cX7_trackTold 50 = .ok (.iadd, 1) := by decide +kernel
theorem dX7_trackTold_51 : decode cX7_trackTold 51 = .ok (.istore_n 3, 1) := by decide +kernel
theorem dX7_trackTold_52 : decode cX7_trackTold 52 = .ok (.iload 4, 2) := by decide +kernel
theorem dX7_trackTold_54 : decode cX7_trackTold 54 = .ok (.iload 8, 2) := by decide +kernel
theorem dX7_trackTold_56 : decode cX7_trackTold 56 = .ok (.invokestatic 144, 3) := by decide +kernel
theorem dX7_trackTold_59 : decode cX7_trackTold 59 = .ok (.invokestatic 92, 3) := by decide +kernel
theorem dX7_trackTold_62 : decode cX7_trackTold 62 = .ok (.iadd, 1) := by decide +kernel
theorem dX7_trackTold_63 : decode cX7_trackTold 63 = .ok (.istore 4, 2) := by decide +kernel
theorem dX7_trackTold_65 : decode cX7_trackTold 65 = .ok (.iinc 7 1, 3) := by decide +kernel
theorem dX7_trackTold_68 : decode cX7_trackTold 68 = .ok (.goto (-48), 3) := by decide +kernel
theorem dX7_trackTold_71 : decode cX7_trackTold 71 = .ok (.iload_n 2, 1) := by decide +kernel
theorem dX7_trackTold_72 : decode cX7_trackTold 72 = .ok (.ifCond .ne 15, 3) := by decide +kernel
theorem dX7_trackTold_75 : decode cX7_trackTold 75 = .ok (.aload_n 0, 1) := by decide +kernel
theorem dX7_trackTold_76 : decode cX7_trackTold 76 = .ok (.getfield 9, 3) := by decide +kernel
theorem dX7_trackTold_79 : decode cX7_trackTold 79 = .ok (.iconst 4, 1) := by decide +kernel
theorem dX7_trackTold_80 : decode cX7_trackTold 80 = .ok (.iload_n 1, 1) := by decide +kernel
theorem dX7_trackTold_81 : decode cX7_trackTold 81 = .ok (.iadd, 1) := by decide +kernel
theorem dX7_trackTold_82 : decode cX7_trackTold 82 = .ok (.aaload, 1) := by decide +kernel
theorem dX7_trackTold_83 : decode cX7_trackTold 83 = .ok (.arraylength, 1) := by decide +kernel
theorem dX7_trackTold_84 : decode cX7_trackTold 84 = .ok (.goto 28, 3) := by decide +kernel
theorem dX7_trackTold_87 : decode cX7_trackTold 87 = .ok (.iload_n 2, 1) := by decide +kernel
theorem dX7_trackTold_88 : decode cX7_trackTold 88 = .ok (.iconst 1, 1) := by decide +kernel
theorem dX7_trackTold_89 : decode cX7_trackTold 89 = .ok (.if_icmp .ne 12, 3) := by decide +kernel
theorem dX7_trackTold_92 : decode cX7_trackTold 92 = .ok (.aload_n 0, 1) := by decide +kernel
theorem dX7_trackTold_93 : decode cX7_trackTold 93 = .ok (.iload_n 1, 1) := by decide +kernel
theorem dX7_trackTold_94 : decode cX7_trackTold 94 = .ok (.invokevirtual 153, 3) := by decide +kernel
theorem dX7_trackTold_97 : decode cX7_trackTold 97 = .ok (.arraylength, 1) := by decide +kernel
theorem dX7_trackTold_98 : decode cX7_trackTold 98 = .ok (.goto 14, 3) := by decide +kernel
theorem dX7_trackTold_101 : decode cX7_trackTold 101 = .ok (.iload_n 2, 1) := by decide +kernel
theorem dX7_trackTold_102 : decode cX7_trackTold 102 = .ok (.iconst 2, 1) := by decide +kernel
theorem dX7_trackTold_103 : decode cX7_trackTold 103 = .ok (.if_icmp .ne 7, 3) := by decide +kernel
theorem dX7_trackTold_106 : decode cX7_trackTold 106 = .ok (.iload_n 3, 1) := by decide +kernel
theorem dX7_trackTold_107 : decode cX7_trackTold 107 = .ok (.goto 5, 3) := by decide +kernel
theorem dX7_trackTold_110 : decode cX7_trackTold 110 = .ok (.iload 4, 2) := by decide +kernel
theorem dX7_trackTold_112 : decode cX7_trackTold 112 = .ok (.ireturn, 1) := by decide +kernel
theorem dX7_ofTrack_0 : decode cX7_ofTrack 0 = .ok (.aload_n 0, 1) := by decide +kernel
theorem dX7_ofTrack_1 : decode cX7_ofTrack 1 = .ok (.iload_n 1, 1) := by decide +kernel
theorem dX7_ofTrack_2 : decode cX7_ofTrack 2 = .ok (.invokestatic 129, 3) := by decide +kernel
theorem dX7_ofTrack_5 : decode cX7_ofTrack 5 = .ok (.iconst 1, 1) := by decide +kernel
theorem dX7_ofTrack_6 : decode cX7_ofTrack 6 = .ok (.invokevirtual 71, 3) := by decide +kernel
theorem dX7_ofTrack_9 : decode cX7_ofTrack 9 = .ok (.ifCond .ne 25, 3) := by decide +kernel
theorem dX7_ofTrack_12 : decode cX7_ofTrack 12 = .ok (.aload_n 0, 1) := by decide +kernel
theorem dX7_ofTrack_13 : decode cX7_ofTrack 13 = .ok (.iload_n 2, 1) := by decide +kernel
theorem dX7_ofTrack_14 : decode cX7_ofTrack 14 = .ok (.iconst 0, 1) := by decide +kernel
theorem dX7_ofTrack_15 : decode cX7_ofTrack 15 = .ok (.iconst 3, 1) := by decide +kernel
theorem dX7_ofTrack_16 : decode cX7_ofTrack 16 = .ok (.invokestatic 22, 3) := by decide +kernel
theorem dX7_ofTrack_19 : decode cX7_ofTrack 19 = .ok (.ifCond .ne 7, 3) := by decide +kernel
theorem dX7_ofTrack_22 : decode cX7_ofTrack 22 = .ok (.iconst 1, 1) := by decide +kernel
theorem dX7_ofTrack_23 : decode cX7_ofTrack 23 = .ok (.goto 4, 3) := by decide +kernel
theorem dX7_ofTrack_26 : decode cX7_ofTrack 26 = .ok (.iconst 0, 1) := by decide +kernel
theorem dX7_ofTrack_27 : decode cX7_ofTrack 27 = .ok (.iconst 2, 1) := by decide +kernel
theorem dX7_ofTrack_28 : decode cX7_ofTrack 28 = .ok (.invokevirtual 45, 3) := by decide +kernel
theorem dX7_ofTrack_31 : decode cX7_ofTrack 31 = .ok (.ifCond .eq 7, 3) := by decide +kernel
theorem dX7_ofTrack_34 : decode cX7_ofTrack 34 = .ok (.iconst 0, 1) := by decide +kernel
theorem dX7_ofTrack_35 : decode cX7_ofTrack 35 = .ok (.goto 9, 3) := by decide +kernel
theorem dX7_ofTrack_38 : decode cX7_ofTrack 38 = .ok (.aload_n 0, 1) := by decide +kernel
theorem dX7_ofTrack_39 : decode cX7_ofTrack 39 = .ok (.iload_n 1, 1) := by decide +kernel
theorem dX7_ofTrack_40 : decode cX7_ofTrack 40 = .ok (.iload_n 2, 1) := by decide +kernel
theorem dX7_ofTrack_41 : decode cX7_ofTrack 41 = .ok (.invokevirtual 229, 3) := by decide +kernel
theorem dX7_ofTrack_44 : decode cX7_ofTrack 44 = .ok (.ireturn, 1) := by decide +kernel
theorem dX7_isNoPlace_0 : decode cX7_isNoPlace 0 = .ok (.iload_n 1, 1) := by decide +kernel
theorem dX7_isNoPlace_1 : decode cX7_isNoPlace 1 = .ok (.invokestatic 129, 3) := by decide +kernel
theorem dX7_isNoPlace_4 : decode cX7_isNoPlace 4 = .ok (.ifCond .ne 22, 3) := by decide +kernel
theorem dX7_isNoPlace_7 : decode cX7_isNoPlace 7 = .ok (.iload_n 2, 1) := by decide +kernel
theorem dX7_isNoPlace_8 : decode cX7_isNoPlace 8 = .ok (.iconst 0, 1) := by decide +kernel
theorem dX7_isNoPlace_9 : decode cX7_isNoPlace 9 = .ok (.aload_n 0, 1) := by decide +kernel
theorem dX7_isNoPlace_10 : decode cX7_isNoPlace 10 = .ok (.getfield 9, 3) := by decide +kernel
theorem dX7_isNoPlace_13 : decode cX7_isNoPlace 13 = .ok (.iconst 4, 1) := by decide +kernel
theorem dX7_isNoPlace_14 : decode cX7_isNoPlace 14 = .ok (.iload_n 1, 1) := by decide +kernel
theorem dX7_isNoPlace_15 : decode cX7_isNoPlace 15 = .ok (.iadd, 1) := by decide +kernel
theorem dX7_isNoPlace_16 : decode cX7_isNoPlace 16 = .ok (.aaload, 1) := by decide +kernel
theorem dX7_isNoPlace_17 : decode cX7_isNoPlace 17 = .ok (.arraylength, 1) := by decide +kernel
theorem dX7_isNoPlace_18 : decode cX7_isNoPlace 18 = .ok (.iconst 1, 1) := by decide +kernel
theorem dX7_isNoPlace_19 : decode cX7_isNoPlace 19 = .ok (.isub, 1) := by decide +kernel
theorem dX7_isNoPlace_20 : decode cX7_isNoPlace 20 = .ok (.invokestatic 22, 3) := by decide +kernel
theorem dX7_isNoPlace_23 : decode cX7_isNoPlace 23 = .ok (.ifCond .ne 7, 3) := by decide +kernel
theorem dX7_isNoPlace_26 : decode cX7_isNoPlace 26 = .ok (.iconst 1, 1) := by decide +kernel
theorem dX7_isNoPlace_27 : decode cX7_isNoPlace 27 = .ok (.goto 4, 3) := by decide +kernel
theorem dX7_isNoPlace_30 : decode cX7_isNoPlace 30 = .ok (.iconst 0, 1) := by decide +kernel
theorem dX7_isNoPlace_31 : decode cX7_isNoPlace 31 = .ok (.ireturn, 1) := by decide +kernel
theorem dX7_unit_0 : decode cX7_unit 0 = .ok (.aload_n 0, 1) := by decide +kernel
theorem dX7_unit_1 : decode cX7_unit 1 = .ok (.aload_n 0, 1) := by decide +kernel
theorem dX7_unit_2 : decode cX7_unit 2 = .ok (.iload_n 1, 1) := by decide +kernel
theorem dX7_unit_3 : decode cX7_unit 3 = .ok (.iload_n 2, 1) := by decide +kernel
theorem dX7_unit_4 : decode cX7_unit 4 = .ok (.invokevirtual 232, 3) := by decide +kernel
theorem dX7_unit_7 : decode cX7_unit 7 = .ok (.iconst 1, 1) := by decide +kernel
theorem dX7_unit_8 : decode cX7_unit 8 = .ok (.invokevirtual 71, 3) := by decide +kernel
theorem dX7_unit_11 : decode cX7_unit 11 = .ok (.ifCond .eq 7, 3) := by decide +kernel
theorem dX7_unit_14 : decode cX7_unit 14 = .ok (.iconst 0, 1) := by decide +kernel
theorem dX7_unit_15 : decode cX7_unit 15 = .ok (.goto 13, 3) := by decide +kernel
theorem dX7_unit_18 : decode cX7_unit 18 = .ok (.aload_n 0, 1) := by decide +kernel
theorem dX7_unit_19 : decode cX7_unit 19 = .ok (.getfield 9, 3) := by decide +kernel
theorem dX7_unit_22 : decode cX7_unit 22 = .ok (.iconst 4, 1) := by decide +kernel
theorem dX7_unit_23 : decode cX7_unit 23 = .ok (.iload_n 1, 1) := by decide +kernel
theorem dX7_unit_24 : decode cX7_unit 24 = .ok (.iadd, 1) := by decide +kernel
theorem dX7_unit_25 : decode cX7_unit 25 = .ok (.aaload, 1) := by decide +kernel
theorem dX7_unit_26 : decode cX7_unit 26 = .ok (.iload_n 2, 1) := by decide +kernel
theorem dX7_unit_27 : decode cX7_unit 27 = .ok (.iaload, 1) := by decide +kernel
theorem dX7_unit_28 : decode cX7_unit 28 = .ok (.ireturn, 1) := by decide +kernel
theorem dX7_codeAt_0 : decode cX7_codeAt 0 = .ok (.aload_n 0, 1) := by decide +kernel
theorem dX7_codeAt_1 : decode cX7_codeAt 1 = .ok (.aload_n 0, 1) := by decide +kernel
theorem dX7_codeAt_2 : decode cX7_codeAt 2 = .ok (.iload_n 1, 1) := by decide +kernel
theorem dX7_codeAt_3 : decode cX7_codeAt 3 = .ok (.iload_n 2, 1) := by decide +kernel
theorem dX7_codeAt_4 : decode cX7_codeAt 4 = .ok (.invokevirtual 232, 3) := by decide +kernel
theorem dX7_codeAt_7 : decode cX7_codeAt 7 = .ok (.iconst 1, 1) := by decide +kernel
theorem dX7_codeAt_8 : decode cX7_codeAt 8 = .ok (.invokevirtual 71, 3) := by decide +kernel
theorem dX7_codeAt_11 : decode cX7_codeAt 11 = .ok (.ifCond .eq 7, 3) := by decide +kernel
theorem dX7_codeAt_14 : decode cX7_codeAt 14 = .ok (.iconst 0, 1) := by decide +kernel
theorem dX7_codeAt_15 : decode cX7_codeAt 15 = .ok (.goto 9, 3) := by decide +kernel
theorem dX7_codeAt_18 : decode cX7_codeAt 18 = .ok (.aload_n 0, 1) := by decide +kernel
theorem dX7_codeAt_19 : decode cX7_codeAt 19 = .ok (.iload_n 1, 1) := by decide +kernel
theorem dX7_codeAt_20 : decode cX7_codeAt 20 = .ok (.iload_n 2, 1) := by decide +kernel
theorem dX7_codeAt_21 : decode cX7_codeAt 21 = .ok (.invokevirtual 150, 3) := by decide +kernel
theorem dX7_codeAt_24 : decode cX7_codeAt 24 = .ok (.ireturn, 1) := by decide +kernel
theorem dX7_nth_0 : decode cX7_nth 0 = .ok (.aload_n 0, 1) := by decide +kernel
theorem dX7_nth_1 : decode cX7_nth 1 = .ok (.iload_n 1, 1) := by decide +kernel
theorem dX7_nth_2 : decode cX7_nth 2 = .ok (.invokestatic 129, 3) := by decide +kernel
theorem dX7_nth_5 : decode cX7_nth 5 = .ok (.ifCond .ne 19, 3) := by decide +kernel
theorem dX7_nth_8 : decode cX7_nth 8 = .ok (.iload_n 2, 1) := by decide +kernel
theorem dX7_nth_9 : decode cX7_nth 9 = .ok (.iconst 0, 1) := by decide +kernel
theorem dX7_nth_10 : decode cX7_nth 10 = .ok (.aload_n 0, 1) := by decide +kernel
theorem dX7_nth_11 : decode cX7_nth 11 = .ok (.iload_n 1, 1) := by decide +kernel
theorem dX7_nth_12 : decode cX7_nth 12 = .ok (.invokevirtual 153, 3) := by decide +kernel
theorem dX7_nth_15 : decode cX7_nth 15 = .ok (.arraylength, 1) := by decide +kernel
theorem dX7_nth_16 : decode cX7_nth 16 = .ok (.iconst 1, 1) := by decide +kernel
theorem dX7_nth_17 : decode cX7_nth 17 = .ok (.isub, 1) := by decide +kernel
theorem dX7_nth_18 : decode cX7_nth 18 = .ok (.invokestatic 22, 3) := by decide +kernel
theorem dX7_nth_21 : decode cX7_nth 21 = .ok (.ifCond .ne 7, 3) := by decide +kernel
theorem dX7_nth_24 : decode cX7_nth 24 = .ok (.iconst 1, 1) := by decide +kernel
theorem dX7_nth_25 : decode cX7_nth 25 = .ok (.goto 4, 3) := by decide +kernel
theorem dX7_nth_28 : decode cX7_nth 28 = .ok (.iconst 0, 1) := by decide +kernel
theorem dX7_nth_29 : decode cX7_nth 29 = .ok (.iconst 1, 1) := by decide +kernel
theorem dX7_nth_30 : decode cX7_nth 30 = .ok (.invokevirtual 71, 3) := by decide +kernel
theorem dX7_nth_33 : decode cX7_nth 33 = .ok (.ifCond .eq 7, 3) := by decide +kernel
theorem dX7_nth_36 : decode cX7_nth 36 = .ok (.iconst 0, 1) := by decide +kernel
theorem dX7_nth_37 : decode cX7_nth 37 = .ok (.goto 10, 3) := by decide +kernel
theorem dX7_nth_40 : decode cX7_nth 40 = .ok (.aload_n 0, 1) := by decide +kernel
theorem dX7_nth_41 : decode cX7_nth 41 = .ok (.iload_n 1, 1) := by decide +kernel
theorem dX7_nth_42 : decode cX7_nth 42 = .ok (.invokevirtual 153, 3) := by decide +kernel
theorem dX7_nth_45 : decode cX7_nth 45 = .ok (.iload_n 2, 1) := by decide +kernel
theorem dX7_nth_46 : decode cX7_nth 46 = .ok (.iaload, 1) := by decide +kernel
theorem dX7_nth_47 : decode cX7_nth 47 = .ok (.ireturn, 1) := by decide +kernel
theorem dX7_houseOf_0 : decode cX7_houseOf 0 = .ok (.iconst 0, 1) := by decide +kernel
theorem dX7_houseOf_1 : decode cX7_houseOf 1 = .ok (.istore_n 2, 1) := by decide +kernel
theorem dX7_houseOf_2 : decode cX7_houseOf 2 = .ok (.iconst 0, 1) := by decide +kernel
theorem dX7_houseOf_3 : decode cX7_houseOf 3 = .ok (.istore_n 3, 1) := by decide +kernel
theorem dX7_houseOf_4 : decode cX7_houseOf 4 = .ok (.iload_n 3, 1) := by decide +kernel
theorem dX7_houseOf_5 : decode cX7_houseOf 5 = .ok (.iconst 4, 1) := by decide +kernel
theorem dX7_houseOf_6 : decode cX7_houseOf 6 = .ok (.if_icmp .ge 19, 3) := by decide +kernel
theorem dX7_houseOf_9 : decode cX7_houseOf 9 = .ok (.iload_n 2, 1) := by decide +kernel
theorem dX7_houseOf_10 : decode cX7_houseOf 10 = .ok (.aload_n 0, 1) := by decide +kernel
theorem dX7_houseOf_11 : decode cX7_houseOf 11 = .ok (.getfield 9, 3) := by decide +kernel
theorem dX7_houseOf_14 : decode cX7_houseOf 14 = .ok (.iload_n 3, 1) := by decide +kernel
theorem dX7_houseOf_15 : decode cX7_houseOf 15 = .ok (.aaload, 1) := by decide +kernel
theorem dX7_houseOf_16 : decode cX7_houseOf 16 = .ok (.arraylength, 1) := by decide +kernel
theorem dX7_houseOf_17 : decode cX7_houseOf 17 = .ok (.iadd, 1) := by decide +kernel
theorem dX7_houseOf_18 : decode cX7_houseOf 18 = .ok (.istore_n 2, 1) := by decide +kernel
theorem dX7_houseOf_19 : decode cX7_houseOf 19 = .ok (.iinc 3 1, 3) := by decide +kernel
theorem dX7_houseOf_22 : decode cX7_houseOf 22 = .ok (.goto (-18), 3) := by decide +kernel
theorem dX7_houseOf_25 : decode cX7_houseOf 25 = .ok (.iload_n 1, 1) := by decide +kernel
theorem dX7_houseOf_26 : decode cX7_houseOf 26 = .ok (.ifCond .ne 7, 3) := by decide +kernel
theorem dX7_houseOf_29 : decode cX7_houseOf 29 = .ok (.iload_n 2, 1) := by decide +kernel
theorem dX7_houseOf_30 : decode cX7_houseOf 30 = .ok (.goto 45, 3) := by decide +kernel
theorem dX7_houseOf_33 : decode cX7_houseOf 33 = .ok (.iload_n 1, 1) := by decide +kernel
theorem dX7_houseOf_34 : decode cX7_houseOf 34 = .ok (.iconst 1, 1) := by decide +kernel
theorem dX7_houseOf_35 : decode cX7_houseOf 35 = .ok (.if_icmp .ne 21, 3) := by decide +kernel
theorem dX7_houseOf_38 : decode cX7_houseOf 38 = .ok (.aload_n 0, 1) := by decide +kernel
theorem dX7_houseOf_39 : decode cX7_houseOf 39 = .ok (.getfield 9, 3) := by decide +kernel
theorem dX7_houseOf_42 : decode cX7_houseOf 42 = .ok (.iconst 4, 1) := by decide +kernel
theorem dX7_houseOf_43 : decode cX7_houseOf 43 = .ok (.aaload, 1) := by decide +kernel
theorem dX7_houseOf_44 : decode cX7_houseOf 44 = .ok (.arraylength, 1) := by decide +kernel
theorem dX7_houseOf_45 : decode cX7_houseOf 45 = .ok (.aload_n 0, 1) := by decide +kernel
theorem dX7_houseOf_46 : decode cX7_houseOf 46 = .ok (.getfield 9, 3) := by decide +kernel
theorem dX7_houseOf_49 : decode cX7_houseOf 49 = .ok (.iconst 5, 1) := by decide +kernel
theorem dX7_houseOf_50 : decode cX7_houseOf 50 = .ok (.aaload, 1) := by decide +kernel
theorem dX7_houseOf_51 : decode cX7_houseOf 51 = .ok (.arraylength, 1) := by decide +kernel
theorem dX7_houseOf_52 : decode cX7_houseOf 52 = .ok (.iadd, 1) := by decide +kernel
theorem dX7_houseOf_53 : decode cX7_houseOf 53 = .ok (.goto 22, 3) := by decide +kernel
theorem dX7_houseOf_56 : decode cX7_houseOf 56 = .ok (.iload_n 1, 1) := by decide +kernel
theorem dX7_houseOf_57 : decode cX7_houseOf 57 = .ok (.iconst 2, 1) := by decide +kernel
theorem dX7_houseOf_58 : decode cX7_houseOf 58 = .ok (.if_icmp .ne 13, 3) := by decide +kernel
theorem dX7_houseOf_61 : decode cX7_houseOf 61 = .ok (.aload_n 0, 1) := by decide +kernel
theorem dX7_houseOf_62 : decode cX7_houseOf 62 = .ok (.getfield 18, 3) := by decide +kernel
theorem dX7_houseOf_65 : decode cX7_houseOf 65 = .ok (.invokevirtual 53, 3) := by decide +kernel
theorem dX7_houseOf_68 : decode cX7_houseOf 68 = .ok (.goto 7, 3) := by decide +kernel
theorem dX7_houseOf_71 : decode cX7_houseOf 71 = .ok (.aload_n 0, 1) := by decide +kernel
theorem dX7_houseOf_72 : decode cX7_houseOf 72 = .ok (.getfield 161, 3) := by decide +kernel
theorem dX7_houseOf_75 : decode cX7_houseOf 75 = .ok (.ireturn, 1) := by decide +kernel
theorem dX7_house_0 : decode cX7_house 0 = .ok (.aload_n 0, 1) := by decide +kernel
theorem dX7_house_1 : decode cX7_house 1 = .ok (.iload_n 1, 1) := by decide +kernel
theorem dX7_house_2 : decode cX7_house 2 = .ok (.iconst 0, 1) := by decide +kernel
theorem dX7_house_3 : decode cX7_house 3 = .ok (.iconst 3, 1) := by decide +kernel
theorem dX7_house_4 : decode cX7_house 4 = .ok (.invokestatic 22, 3) := by decide +kernel
theorem dX7_house_7 : decode cX7_house 7 = .ok (.ifCond .ne 7, 3) := by decide +kernel
theorem dX7_house_10 : decode cX7_house 10 = .ok (.iconst 1, 1) := by decide +kernel
theorem dX7_house_11 : decode cX7_house 11 = .ok (.goto 4, 3) := by decide +kernel
theorem dX7_house_14 : decode cX7_house 14 = .ok (.iconst 0, 1) := by decide +kernel
theorem dX7_house_15 : decode cX7_house 15 = .ok (.iconst 1, 1) := by decide +kernel
theorem dX7_house_16 : decode cX7_house 16 = .ok (.invokevirtual 71, 3) := by decide +kernel
theorem dX7_house_19 : decode cX7_house 19 = .ok (.ifCond .eq 7, 3) := by decide +kernel
theorem dX7_house_22 : decode cX7_house 22 = .ok (.iconst 0, 1) := by decide +kernel
theorem dX7_house_23 : decode cX7_house 23 = .ok (.goto 8, 3) := by decide +kernel
theorem dX7_house_26 : decode cX7_house 26 = .ok (.aload_n 0, 1) := by decide +kernel
theorem dX7_house_27 : decode cX7_house 27 = .ok (.iload_n 1, 1) := by decide +kernel
theorem dX7_house_28 : decode cX7_house 28 = .ok (.invokevirtual 235, 3) := by decide +kernel
theorem dX7_house_31 : decode cX7_house 31 = .ok (.ireturn, 1) := by decide +kernel
theorem dX7_isSound_0 : decode cX7_isSound 0 = .ok (.aload_n 0, 1) := by decide +kernel
theorem dX7_isSound_1 : decode cX7_isSound 1 = .ok (.iconst 0, 1) := by decide +kernel
theorem dX7_isSound_2 : decode cX7_isSound 2 = .ok (.putfield 41, 3) := by decide +kernel
theorem dX7_isSound_5 : decode cX7_isSound 5 = .ok (.aload_n 0, 1) := by decide +kernel
theorem dX7_isSound_6 : decode cX7_isSound 6 = .ok (.getfield 9, 3) := by decide +kernel
theorem dX7_isSound_9 : decode cX7_isSound 9 = .ok (.iconst 4, 1) := by decide +kernel
theorem dX7_isSound_10 : decode cX7_isSound 10 = .ok (.aaload, 1) := by decide +kernel
theorem dX7_isSound_11 : decode cX7_isSound 11 = .ok (.arraylength, 1) := by decide +kernel
theorem dX7_isSound_12 : decode cX7_isSound 12 = .ok (.bipush 24, 2) := by decide +kernel
theorem dX7_isSound_14 : decode cX7_isSound 14 = .ok (.if_icmp .gt 19, 3) := by decide +kernel
theorem dX7_isSound_17 : decode cX7_isSound 17 = .ok (.aload_n 0, 1) := by decide +kernel
theorem dX7_isSound_18 : decode cX7_isSound 18 = .ok (.getfield 9, 3) := by decide +kernel
theorem dX7_isSound_21 : decode cX7_isSound 21 = .ok (.iconst 5, 1) := by decide +kernel
theorem dX7_isSound_22 : decode cX7_isSound 22 = .ok (.aaload, 1) := by decide +kernel
theorem dX7_isSound_23 : decode cX7_isSound 23 = .ok (.arraylength, 1) := by decide +kernel
theorem dX7_isSound_24 : decode cX7_isSound 24 = .ok (.bipush 24, 2) := by decide +kernel
theorem dX7_isSound_26 : decode cX7_isSound 26 = .ok (.if_icmp .gt 7, 3) := by decide +kernel
theorem dX7_isSound_29 : decode cX7_isSound 29 = .ok (.iconst 1, 1) := by decide +kernel
theorem dX7_isSound_30 : decode cX7_isSound 30 = .ok (.goto 4, 3) := by decide +kernel
theorem dX7_isSound_33 : decode cX7_isSound 33 = .ok (.iconst 0, 1) := by decide +kernel
theorem dX7_isSound_34 : decode cX7_isSound 34 = .ok (.istore_n 1, 1) := by decide +kernel
theorem dX7_isSound_35 : decode cX7_isSound 35 = .ok (.iconst 0, 1) := by decide +kernel
theorem dX7_isSound_36 : decode cX7_isSound 36 = .ok (.istore_n 2, 1) := by decide +kernel
theorem dX7_isSound_37 : decode cX7_isSound 37 = .ok (.iload_n 2, 1) := by decide +kernel
theorem dX7_isSound_38 : decode cX7_isSound 38 = .ok (.iconst 4, 1) := by decide +kernel
theorem dX7_isSound_39 : decode cX7_isSound 39 = .ok (.if_icmp .ge 29, 3) := by decide +kernel
theorem dX7_isSound_42 : decode cX7_isSound 42 = .ok (.iload_n 1, 1) := by decide +kernel
theorem dX7_isSound_43 : decode cX7_isSound 43 = .ok (.aload_n 0, 1) := by decide +kernel
theorem dX7_isSound_44 : decode cX7_isSound 44 = .ok (.getfield 9, 3) := by decide +kernel
theorem dX7_isSound_47 : decode cX7_isSound 47 = .ok (.iload_n 2, 1) := by decide +kernel
theorem dX7_isSound_48 : decode cX7_isSound 48 = .ok (.aaload, 1) := by decide +kernel
theorem dX7_isSound_49 : decode cX7_isSound 49 = .ok (.arraylength, 1) := by decide +kernel
theorem dX7_isSound_50 : decode cX7_isSound 50 = .ok (.bipush 40, 2) := by decide +kernel
theorem dX7_isSound_52 : decode cX7_isSound 52 = .ok (.if_icmp .gt 7, 3) := by decide +kernel
theorem dX7_isSound_55 : decode cX7_isSound 55 = .ok (.iconst 1, 1) := by decide +kernel
theorem dX7_isSound_56 : decode cX7_isSound 56 = .ok (.goto 4, 3) := by decide +kernel
theorem dX7_isSound_59 : decode cX7_isSound 59 = .ok (.iconst 0, 1) := by decide +kernel
theorem dX7_isSound_60 : decode cX7_isSound 60 = .ok (.iand, 1) := by decide +kernel
theorem dX7_isSound_61 : decode cX7_isSound 61 = .ok (.istore_n 1, 1) := by decide +kernel
theorem dX7_isSound_62 : decode cX7_isSound 62 = .ok (.iinc 2 1, 3) := by decide +kernel
theorem dX7_isSound_65 : decode cX7_isSound 65 = .ok (.goto (-28), 3) := by decide +kernel
theorem dX7_isSound_68 : decode cX7_isSound 68 = .ok (.iload_n 1, 1) := by decide +kernel
theorem dX7_isSound_69 : decode cX7_isSound 69 = .ok (.ireturn, 1) := by decide +kernel
theorem dX7_digest_0 : decode cX7_digest 0 = .ok (.ldc2_w 238, 3) := by decide +kernel
theorem dX7_digest_3 : decode cX7_digest 3 = .ok (.lstore_n 1, 1) := by decide +kernel
theorem dX7_digest_4 : decode cX7_digest 4 = .ok (.iconst 0, 1) := by decide +kernel
theorem dX7_digest_5 : decode cX7_digest 5 = .ok (.istore_n 3, 1) := by decide +kernel
theorem dX7_digest_6 : decode cX7_digest 6 = .ok (.iload_n 3, 1) := by decide +kernel
theorem dX7_digest_7 : decode cX7_digest 7 = .ok (.iconst 4, 1) := by decide +kernel
theorem dX7_digest_8 : decode cX7_digest 8 = .ok (.if_icmp .ge 255, 3) := by decide +kernel
theorem dX7_digest_11 : decode cX7_digest 11 = .ok (.lload_n 1, 1) := by decide +kernel
theorem dX7_digest_12 : decode cX7_digest 12 = .ok (.ldc2_w 240, 3) := by decide +kernel
theorem dX7_digest_15 : decode cX7_digest 15 = .ok (.lmul, 1) := by decide +kernel
theorem dX7_digest_16 : decode cX7_digest 16 = .ok (.aload_n 0, 1) := by decide +kernel
theorem dX7_digest_17 : decode cX7_digest 17 = .ok (.getfield 9, 3) := by decide +kernel
theorem dX7_digest_20 : decode cX7_digest 20 = .ok (.iload_n 3, 1) := by decide +kernel
theorem dX7_digest_21 : decode cX7_digest 21 = .ok (.aaload, 1) := by decide +kernel
theorem dX7_digest_22 : decode cX7_digest 22 = .ok (.arraylength, 1) := by decide +kernel
theorem dX7_digest_23 : decode cX7_digest 23 = .ok (.i2l, 1) := by decide +kernel
theorem dX7_digest_24 : decode cX7_digest 24 = .ok (.ladd, 1) := by decide +kernel
theorem dX7_digest_25 : decode cX7_digest 25 = .ok (.lstore_n 1, 1) := by decide +kernel
theorem dX7_digest_26 : decode cX7_digest 26 = .ok (.aload_n 0, 1) := by decide +kernel
theorem dX7_digest_27 : decode cX7_digest 27 = .ok (.getfield 9, 3) := by decide +kernel
theorem dX7_digest_30 : decode cX7_digest 30 = .ok (.iload_n 3, 1) := by decide +kernel
theorem dX7_digest_31 : decode cX7_digest 31 = .ok (.aaload, 1) := by decide +kernel
theorem dX7_digest_32 : decode cX7_digest 32 = .ok (.astore 4, 2) := by decide +kernel
theorem dX7_digest_34 : decode cX7_digest 34 = .ok (.aload 4, 2) := by decide +kernel
theorem dX7_digest_36 : decode cX7_digest 36 = .ok (.arraylength, 1) := by decide +kernel
theorem dX7_digest_37 : decode cX7_digest 37 = .ok (.istore 5, 2) := by decide +kernel
theorem dX7_digest_39 : decode cX7_digest 39 = .ok (.iconst 0, 1) := by decide +kernel
theorem dX7_digest_40 : decode cX7_digest 40 = .ok (.istore 6, 2) := by decide +kernel
theorem dX7_digest_42 : decode cX7_digest 42 = .ok (.iload 6, 2) := by decide +kernel
theorem dX7_digest_44 : decode cX7_digest 44 = .ok (.iload 5, 2) := by decide +kernel
theorem dX7_digest_46 : decode cX7_digest 46 = .ok (.if_icmp .ge 111, 3) := by decide +kernel
theorem dX7_digest_49 : decode cX7_digest 49 = .ok (.aload 4, 2) := by decide +kernel
theorem dX7_digest_51 : decode cX7_digest 51 = .ok (.iload 6, 2) := by decide +kernel
theorem dX7_digest_53 : decode cX7_digest 53 = .ok (.iaload, 1) := by decide +kernel
theorem dX7_digest_54 : decode cX7_digest 54 = .ok (.istore 7, 2) := by decide +kernel
theorem dX7_digest_56 : decode cX7_digest 56 = .ok (.bipush 6, 2) := by decide +kernel
theorem dX7_digest_58 : decode cX7_digest 58 = .ok (.newarray .int, 2) := by decide +kernel
theorem dX7_digest_60 : decode cX7_digest 60 = .ok (.dup, 1) := by decide +kernel
theorem dX7_digest_61 : decode cX7_digest 61 = .ok (.iconst 0, 1) := by decide +kernel
theorem dX7_digest_62 : decode cX7_digest 62 = .ok (.iload 7, 2) := by decide +kernel
theorem dX7_digest_64 : decode cX7_digest 64 = .ok (.iastore, 1) := by decide +kernel
theorem dX7_digest_65 : decode cX7_digest 65 = .ok (.dup, 1) := by decide +kernel
theorem dX7_digest_66 : decode cX7_digest 66 = .ok (.iconst 1, 1) := by decide +kernel
theorem dX7_digest_67 : decode cX7_digest 67 = .ok (.iload 7, 2) := by decide +kernel
theorem dX7_digest_69 : decode cX7_digest 69 = .ok (.invokestatic 167, 3) := by decide +kernel
theorem dX7_digest_72 : decode cX7_digest 72 = .ok (.iastore, 1) := by decide +kernel
theorem dX7_digest_73 : decode cX7_digest 73 = .ok (.dup, 1) := by decide +kernel
theorem dX7_digest_74 : decode cX7_digest 74 = .ok (.iconst 2, 1) := by decide +kernel
theorem dX7_digest_75 : decode cX7_digest 75 = .ok (.iload 7, 2) := by decide +kernel
theorem dX7_digest_77 : decode cX7_digest 77 = .ok (.invokestatic 86, 3) := by decide +kernel
theorem dX7_digest_80 : decode cX7_digest 80 = .ok (.iastore, 1) := by decide +kernel
theorem dX7_digest_81 : decode cX7_digest 81 = .ok (.dup, 1) := by decide +kernel
theorem dX7_digest_82 : decode cX7_digest 82 = .ok (.iconst 3, 1) := by decide +kernel
theorem dX7_digest_83 : decode cX7_digest 83 = .ok (.iload 7, 2) := by decide +kernel
theorem dX7_digest_85 : decode cX7_digest 85 = .ok (.invokestatic 89, 3) := by decide +kernel
theorem dX7_digest_88 : decode cX7_digest 88 = .ok (.iastore, 1) := by decide +kernel
theorem dX7_digest_89 : decode cX7_digest 89 = .ok (.dup, 1) := by decide +kernel
theorem dX7_digest_90 : decode cX7_digest 90 = .ok (.iconst 4, 1) := by decide +kernel
theorem dX7_digest_91 : decode cX7_digest 91 = .ok (.iload 7, 2) := by decide +kernel
theorem dX7_digest_93 : decode cX7_digest 93 = .ok (.invokestatic 33, 3) := by decide +kernel
theorem dX7_digest_96 : decode cX7_digest 96 = .ok (.iastore, 1) := by decide +kernel
theorem dX7_digest_97 : decode cX7_digest 97 = .ok (.dup, 1) := by decide +kernel
theorem dX7_digest_98 : decode cX7_digest 98 = .ok (.iconst 5, 1) := by decide +kernel
theorem dX7_digest_99 : decode cX7_digest 99 = .ok (.iload 7, 2) := by decide +kernel
theorem dX7_digest_101 : decode cX7_digest 101 = .ok (.bipush 16, 2) := by decide +kernel
theorem dX7_digest_103 : decode cX7_digest 103 = .ok (.invokestatic 115, 3) := by decide +kernel
theorem dX7_digest_106 : decode cX7_digest 106 = .ok (.iastore, 1) := by decide +kernel
theorem dX7_digest_107 : decode cX7_digest 107 = .ok (.astore 8, 2) := by decide +kernel
theorem dX7_digest_109 : decode cX7_digest 109 = .ok (.aload 8, 2) := by decide +kernel
theorem dX7_digest_111 : decode cX7_digest 111 = .ok (.astore 9, 2) := by decide +kernel
theorem dX7_digest_113 : decode cX7_digest 113 = .ok (.aload 9, 2) := by decide +kernel
theorem dX7_digest_115 : decode cX7_digest 115 = .ok (.arraylength, 1) := by decide +kernel
theorem dX7_digest_116 : decode cX7_digest 116 = .ok (.istore 10, 2) := by decide +kernel
theorem dX7_digest_118 : decode cX7_digest 118 = .ok (.iconst 0, 1) := by decide +kernel
theorem dX7_digest_119 : decode cX7_digest 119 = .ok (.istore 11, 2) := by decide +kernel
theorem dX7_digest_121 : decode cX7_digest 121 = .ok (.iload 11, 2) := by decide +kernel
theorem dX7_digest_123 : decode cX7_digest 123 = .ok (.iload 10, 2) := by decide +kernel
theorem dX7_digest_125 : decode cX7_digest 125 = .ok (.if_icmp .ge 26, 3) := by decide +kernel
theorem dX7_digest_128 : decode cX7_digest 128 = .ok (.aload 9, 2) := by decide +kernel
theorem dX7_digest_130 : decode cX7_digest 130 = .ok (.iload 11, 2) := by decide +kernel
theorem dX7_digest_132 : decode cX7_digest 132 = .ok (.iaload, 1) := by decide +kernel
theorem dX7_digest_133 : decode cX7_digest 133 = .ok (.istore 12, 2) := by decide +kernel
theorem dX7_digest_135 : decode cX7_digest 135 = .ok (.lload_n 1, 1) := by decide +kernel
theorem dX7_digest_136 : decode cX7_digest 136 = .ok (.ldc2_w 240, 3) := by decide +kernel
theorem dX7_digest_139 : decode cX7_digest 139 = .ok (.lmul, 1) := by decide +kernel
theorem dX7_digest_140 : decode cX7_digest 140 = .ok (.iload 12, 2) := by decide +kernel
theorem dX7_digest_142 : decode cX7_digest 142 = .ok (.i2l, 1) := by decide +kernel
theorem dX7_digest_143 : decode cX7_digest 143 = .ok (.ladd, 1) := by decide +kernel
theorem dX7_digest_144 : decode cX7_digest 144 = .ok (.lstore_n 1, 1) := by decide +kernel
theorem dX7_digest_145 : decode cX7_digest 145 = .ok (.iinc 11 1, 3) := by decide +kernel
theorem dX7_digest_148 : decode cX7_digest 148 = .ok (.goto (-27), 3) := by decide +kernel
theorem dX7_digest_151 : decode cX7_digest 151 = .ok (.iinc 6 1, 3) := by decide +kernel
theorem dX7_digest_154 : decode cX7_digest 154 = .ok (.goto (-112), 3) := by decide +kernel
theorem dX7_digest_157 : decode cX7_digest 157 = .ok (.iconst 0, 1) := by decide +kernel
theorem dX7_digest_158 : decode cX7_digest 158 = .ok (.istore 4, 2) := by decide +kernel
theorem dX7_digest_160 : decode cX7_digest 160 = .ok (.iload 4, 2) := by decide +kernel
theorem dX7_digest_162 : decode cX7_digest 162 = .ok (.iconst 5, 1) := by decide +kernel
theorem dX7_digest_163 : decode cX7_digest 163 = .ok (.if_icmp .ge 24, 3) := by decide +kernel
theorem dX7_digest_166 : decode cX7_digest 166 = .ok (.lload_n 1, 1) := by decide +kernel
theorem dX7_digest_167 : decode cX7_digest 167 = .ok (.ldc2_w 240, 3) := by decide +kernel
theorem dX7_digest_170 : decode cX7_digest 170 = .ok (.lmul, 1) := by decide +kernel
theorem dX7_digest_171 : decode cX7_digest 171 = .ok (.aload_n 0, 1) := by decide +kernel
theorem dX7_digest_172 : decode cX7_digest 172 = .ok (.iload_n 3, 1) := by decide +kernel
theorem dX7_digest_173 : decode cX7_digest 173 = .ok (.iload 4, 2) := by decide +kernel
theorem dX7_digest_175 : decode cX7_digest 175 = .ok (.invokevirtual 170, 3) := by decide +kernel
theorem dX7_digest_178 : decode cX7_digest 178 = .ok (.i2l, 1) := by decide +kernel
theorem dX7_digest_179 : decode cX7_digest 179 = .ok (.ladd, 1) := by decide +kernel
theorem dX7_digest_180 : decode cX7_digest 180 = .ok (.lstore_n 1, 1) := by decide +kernel
theorem dX7_digest_181 : decode cX7_digest 181 = .ok (.iinc 4 1, 3) := by decide +kernel
theorem dX7_digest_184 : decode cX7_digest 184 = .ok (.goto (-24), 3) := by decide +kernel
theorem dX7_digest_187 : decode cX7_digest 187 = .ok (.lload_n 1, 1) := by decide +kernel
theorem dX7_digest_188 : decode cX7_digest 188 = .ok (.ldc2_w 240, 3) := by decide +kernel
theorem dX7_digest_191 : decode cX7_digest 191 = .ok (.lmul, 1) := by decide +kernel
theorem dX7_digest_192 : decode cX7_digest 192 = .ok (.aload_n 0, 1) := by decide +kernel
theorem dX7_digest_193 : decode cX7_digest 193 = .ok (.iload_n 3, 1) := by decide +kernel
theorem dX7_digest_194 : decode cX7_digest 194 = .ok (.bipush 36, 2) := by decide +kernel
theorem dX7_digest_196 : decode cX7_digest 196 = .ok (.invokevirtual 201, 3) := by decide +kernel
theorem dX7_digest_199 : decode cX7_digest 199 = .ok (.i2l, 1) := by decide +kernel
theorem dX7_digest_200 : decode cX7_digest 200 = .ok (.ladd, 1) := by decide +kernel
theorem dX7_digest_201 : decode cX7_digest 201 = .ok (.ldc2_w 240, 3) := by decide +kernel
theorem dX7_digest_204 : decode cX7_digest 204 = .ok (.lmul, 1) := by decide +kernel
theorem dX7_digest_205 : decode cX7_digest 205 = .ok (.aload_n 0, 1) := by decide +kernel
theorem dX7_digest_206 : decode cX7_digest 206 = .ok (.iload_n 3, 1) := by decide +kernel
theorem dX7_digest_207 : decode cX7_digest 207 = .ok (.invokevirtual 209, 3) := by decide +kernel
theorem dX7_digest_210 : decode cX7_digest 210 = .ok (.i2l, 1) := by decide +kernel
theorem dX7_digest_211 : decode cX7_digest 211 = .ok (.ladd, 1) := by decide +kernel
theorem dX7_digest_212 : decode cX7_digest 212 = .ok (.lstore_n 1, 1) := by decide +kernel
theorem dX7_digest_213 : decode cX7_digest 213 = .ok (.lload_n 1, 1) := by decide +kernel
theorem dX7_digest_214 : decode cX7_digest 214 = .ok (.ldc2_w 240, 3) := by decide +kernel
theorem dX7_digest_217 : decode cX7_digest 217 = .ok (.lmul, 1) := by decide +kernel
theorem dX7_digest_218 : decode cX7_digest 218 = .ok (.aload_n 0, 1) := by decide +kernel
theorem dX7_digest_219 : decode cX7_digest 219 = .ok (.iload_n 3, 1) := by decide +kernel
theorem dX7_digest_220 : decode cX7_digest 220 = .ok (.invokevirtual 215, 3) := by decide +kernel
theorem dX7_digest_223 : decode cX7_digest 223 = .ok (.invokevirtual 53, 3) := by decide +kernel
theorem dX7_digest_226 : decode cX7_digest 226 = .ok (.i2l, 1) := by decide +kernel
theorem dX7_digest_227 : decode cX7_digest 227 = .ok (.ladd, 1) := by decide +kernel
theorem dX7_digest_228 : decode cX7_digest 228 = .ok (.ldc2_w 240, 3) := by decide +kernel
theorem dX7_digest_231 : decode cX7_digest 231 = .ok (.lmul, 1) := by decide +kernel
theorem dX7_digest_232 : decode cX7_digest 232 = .ok (.aload_n 0, 1) := by decide +kernel
theorem dX7_digest_233 : decode cX7_digest 233 = .ok (.getfield 9, 3) := by decide +kernel
theorem dX7_digest_236 : decode cX7_digest 236 = .ok (.iload_n 3, 1) := by decide +kernel
theorem dX7_digest_237 : decode cX7_digest 237 = .ok (.aaload, 1) := by decide +kernel
theorem dX7_digest_238 : decode cX7_digest 238 = .ok (.arraylength, 1) := by decide +kernel
theorem dX7_digest_239 : decode cX7_digest 239 = .ok (.i2l, 1) := by decide +kernel
theorem dX7_digest_240 : decode cX7_digest 240 = .ok (.ladd, 1) := by decide +kernel
theorem dX7_digest_241 : decode cX7_digest 241 = .ok (.ldc2_w 240, 3) := by decide +kernel
theorem dX7_digest_244 : decode cX7_digest 244 = .ok (.lmul, 1) := by decide +kernel
theorem dX7_digest_245 : decode cX7_digest 245 = .ok (.iconst 2, 1) := by decide +kernel
theorem dX7_digest_246 : decode cX7_digest 246 = .ok (.aload_n 0, 1) := by decide +kernel
theorem dX7_digest_247 : decode cX7_digest 247 = .ok (.getfield 9, 3) := by decide +kernel
theorem dX7_digest_250 : decode cX7_digest 250 = .ok (.iload_n 3, 1) := by decide +kernel
theorem dX7_digest_251 : decode cX7_digest 251 = .ok (.aaload, 1) := by decide +kernel
theorem dX7_digest_252 : decode cX7_digest 252 = .ok (.arraylength, 1) := by decide +kernel
theorem dX7_digest_253 : decode cX7_digest 253 = .ok (.imul, 1) := by decide +kernel
theorem dX7_digest_254 : decode cX7_digest 254 = .ok (.i2l, 1) := by decide +kernel
theorem dX7_digest_255 : decode cX7_digest 255 = .ok (.ladd, 1) := by decide +kernel
theorem dX7_digest_256 : decode cX7_digest 256 = .ok (.lstore_n 1, 1) := by decide +kernel
theorem dX7_digest_257 : decode cX7_digest 257 = .ok (.iinc 3 1, 3) := by decide +kernel
theorem dX7_digest_260 : decode cX7_digest 260 = .ok (.goto (-254), 3) := by decide +kernel
theorem dX7_digest_263 : decode cX7_digest 263 = .ok (.lload_n 1, 1) := by decide +kernel
theorem dX7_digest_264 : decode cX7_digest 264 = .ok (.ldc2_w 240, 3) := by decide +kernel
theorem dX7_digest_267 : decode cX7_digest 267 = .ok (.lmul, 1) := by decide +kernel
theorem dX7_digest_268 : decode cX7_digest 268 = .ok (.aload_n 0, 1) := by decide +kernel
theorem dX7_digest_269 : decode cX7_digest 269 = .ok (.aload_n 0, 1) := by decide +kernel
theorem dX7_digest_270 : decode cX7_digest 270 = .ok (.getfield 9, 3) := by decide +kernel
theorem dX7_digest_273 : decode cX7_digest 273 = .ok (.iconst 0, 1) := by decide +kernel
theorem dX7_digest_274 : decode cX7_digest 274 = .ok (.aaload, 1) := by decide +kernel
theorem dX7_digest_275 : decode cX7_digest 275 = .ok (.aload_n 0, 1) := by decide +kernel
theorem dX7_digest_276 : decode cX7_digest 276 = .ok (.getfield 9, 3) := by decide +kernel
theorem dX7_digest_279 : decode cX7_digest 279 = .ok (.iconst 1, 1) := by decide +kernel
theorem dX7_digest_280 : decode cX7_digest 280 = .ok (.aaload, 1) := by decide +kernel
theorem dX7_digest_281 : decode cX7_digest 281 = .ok (.invokevirtual 222, 3) := by decide +kernel
theorem dX7_digest_284 : decode cX7_digest 284 = .ok (.i2l, 1) := by decide +kernel
theorem dX7_digest_285 : decode cX7_digest 285 = .ok (.ladd, 1) := by decide +kernel
theorem dX7_digest_286 : decode cX7_digest 286 = .ok (.ldc2_w 240, 3) := by decide +kernel
theorem dX7_digest_289 : decode cX7_digest 289 = .ok (.lmul, 1) := by decide +kernel
theorem dX7_digest_290 : decode cX7_digest 290 = .ok (.aload_n 0, 1) := by decide +kernel
theorem dX7_digest_291 : decode cX7_digest 291 = .ok (.aload_n 0, 1) := by decide +kernel
theorem dX7_digest_292 : decode cX7_digest 292 = .ok (.getfield 9, 3) := by decide +kernel
theorem dX7_digest_295 : decode cX7_digest 295 = .ok (.iconst 2, 1) := by decide +kernel
theorem dX7_digest_296 : decode cX7_digest 296 = .ok (.aaload, 1) := by decide +kernel
theorem dX7_digest_297 : decode cX7_digest 297 = .ok (.aload_n 0, 1) := by decide +kernel
theorem dX7_digest_298 : decode cX7_digest 298 = .ok (.getfield 9, 3) := by decide +kernel
theorem dX7_digest_301 : decode cX7_digest 301 = .ok (.iconst 3, 1) := by decide +kernel
theorem dX7_digest_302 : decode cX7_digest 302 = .ok (.aaload, 1) := by decide +kernel
theorem dX7_digest_303 : decode cX7_digest 303 = .ok (.invokevirtual 222, 3) := by decide +kernel
theorem dX7_digest_306 : decode cX7_digest 306 = .ok (.i2l, 1) := by decide +kernel
theorem dX7_digest_307 : decode cX7_digest 307 = .ok (.ladd, 1) := by decide +kernel
theorem dX7_digest_308 : decode cX7_digest 308 = .ok (.lstore_n 1, 1) := by decide +kernel
theorem dX7_digest_309 : decode cX7_digest 309 = .ok (.lload_n 1, 1) := by decide +kernel
theorem dX7_digest_310 : decode cX7_digest 310 = .ok (.ldc2_w 240, 3) := by decide +kernel
theorem dX7_digest_313 : decode cX7_digest 313 = .ok (.lmul, 1) := by decide +kernel
theorem dX7_digest_314 : decode cX7_digest 314 = .ok (.aload_n 0, 1) := by decide +kernel
theorem dX7_digest_315 : decode cX7_digest 315 = .ok (.iconst 0, 1) := by decide +kernel
theorem dX7_digest_316 : decode cX7_digest 316 = .ok (.iconst 1, 1) := by decide +kernel
theorem dX7_digest_317 : decode cX7_digest 317 = .ok (.invokevirtual 219, 3) := by decide +kernel
theorem dX7_digest_320 : decode cX7_digest 320 = .ok (.invokestatic 92, 3) := by decide +kernel
theorem dX7_digest_323 : decode cX7_digest 323 = .ok (.i2l, 1) := by decide +kernel
theorem dX7_digest_324 : decode cX7_digest 324 = .ok (.ladd, 1) := by decide +kernel
theorem dX7_digest_325 : decode cX7_digest 325 = .ok (.lstore_n 1, 1) := by decide +kernel
theorem dX7_digest_326 : decode cX7_digest 326 = .ok (.iconst 0, 1) := by decide +kernel
theorem dX7_digest_327 : decode cX7_digest 327 = .ok (.istore_n 3, 1) := by decide +kernel
theorem dX7_digest_328 : decode cX7_digest 328 = .ok (.iload_n 3, 1) := by decide +kernel
theorem dX7_digest_329 : decode cX7_digest 329 = .ok (.iconst 2, 1) := by decide +kernel
theorem dX7_digest_330 : decode cX7_digest 330 = .ok (.if_icmp .ge 135, 3) := by decide +kernel
theorem dX7_digest_333 : decode cX7_digest 333 = .ok (.iconst 0, 1) := by decide +kernel
theorem dX7_digest_334 : decode cX7_digest 334 = .ok (.istore 4, 2) := by decide +kernel
theorem dX7_digest_336 : decode cX7_digest 336 = .ok (.iload 4, 2) := by decide +kernel
theorem dX7_digest_338 : decode cX7_digest 338 = .ok (.iconst 4, 1) := by decide +kernel
theorem dX7_digest_339 : decode cX7_digest 339 = .ok (.if_icmp .ge 24, 3) := by decide +kernel
theorem dX7_digest_342 : decode cX7_digest 342 = .ok (.lload_n 1, 1) := by decide +kernel
theorem dX7_digest_343 : decode cX7_digest 343 = .ok (.ldc2_w 240, 3) := by decide +kernel
theorem dX7_digest_346 : decode cX7_digest 346 = .ok (.lmul, 1) := by decide +kernel
theorem dX7_digest_347 : decode cX7_digest 347 = .ok (.aload_n 0, 1) := by decide +kernel
theorem dX7_digest_348 : decode cX7_digest 348 = .ok (.iload_n 3, 1) := by decide +kernel
theorem dX7_digest_349 : decode cX7_digest 349 = .ok (.iload 4, 2) := by decide +kernel
theorem dX7_digest_351 : decode cX7_digest 351 = .ok (.invokevirtual 229, 3) := by decide +kernel
theorem dX7_digest_354 : decode cX7_digest 354 = .ok (.i2l, 1) := by decide +kernel
theorem dX7_digest_355 : decode cX7_digest 355 = .ok (.ladd, 1) := by decide +kernel
theorem dX7_digest_356 : decode cX7_digest 356 = .ok (.lstore_n 1, 1) := by decide +kernel
theorem dX7_digest_357 : decode cX7_digest 357 = .ok (.iinc 4 1, 3) := by decide +kernel
theorem dX7_digest_360 : decode cX7_digest 360 = .ok (.goto (-24), 3) := by decide +kernel
theorem dX7_digest_363 : decode cX7_digest 363 = .ok (.iconst 0, 1) := by decide +kernel
theorem dX7_digest_364 : decode cX7_digest 364 = .ok (.istore 4, 2) := by decide +kernel
theorem dX7_digest_366 : decode cX7_digest 366 = .ok (.iload 4, 2) := by decide +kernel
theorem dX7_digest_368 : decode cX7_digest 368 = .ok (.aload_n 0, 1) := by decide +kernel
theorem dX7_digest_369 : decode cX7_digest 369 = .ok (.getfield 9, 3) := by decide +kernel
theorem dX7_digest_372 : decode cX7_digest 372 = .ok (.iconst 4, 1) := by decide +kernel
theorem dX7_digest_373 : decode cX7_digest 373 = .ok (.iload_n 3, 1) := by decide +kernel
theorem dX7_digest_374 : decode cX7_digest 374 = .ok (.iadd, 1) := by decide +kernel
theorem dX7_digest_375 : decode cX7_digest 375 = .ok (.aaload, 1) := by decide +kernel
theorem dX7_digest_376 : decode cX7_digest 376 = .ok (.arraylength, 1) := by decide +kernel
theorem dX7_digest_377 : decode cX7_digest 377 = .ok (.if_icmp .ge 82, 3) := by decide +kernel
theorem dX7_digest_380 : decode cX7_digest 380 = .ok (.lload_n 1, 1) := by decide +kernel
theorem dX7_digest_381 : decode cX7_digest 381 = .ok (.ldc2_w 240, 3) := by decide +kernel
theorem dX7_digest_384 : decode cX7_digest 384 = .ok (.lmul, 1) := by decide +kernel
theorem dX7_digest_385 : decode cX7_digest 385 = .ok (.aload_n 0, 1) := by decide +kernel
theorem dX7_digest_386 : decode cX7_digest 386 = .ok (.getfield 9, 3) := by decide +kernel
theorem dX7_digest_389 : decode cX7_digest 389 = .ok (.iconst 4, 1) := by decide +kernel
theorem dX7_digest_390 : decode cX7_digest 390 = .ok (.iload_n 3, 1) := by decide +kernel
theorem dX7_digest_391 : decode cX7_digest 391 = .ok (.iadd, 1) := by decide +kernel
theorem dX7_digest_392 : decode cX7_digest 392 = .ok (.aaload, 1) := by decide +kernel
theorem dX7_digest_393 : decode cX7_digest 393 = .ok (.iload 4, 2) := by decide +kernel
theorem dX7_digest_395 : decode cX7_digest 395 = .ok (.iaload, 1) := by decide +kernel
theorem dX7_digest_396 : decode cX7_digest 396 = .ok (.i2l, 1) := by decide +kernel
theorem dX7_digest_397 : decode cX7_digest 397 = .ok (.ladd, 1) := by decide +kernel
theorem dX7_digest_398 : decode cX7_digest 398 = .ok (.lstore_n 1, 1) := by decide +kernel
theorem dX7_digest_399 : decode cX7_digest 399 = .ok (.iconst 0, 1) := by decide +kernel
theorem dX7_digest_400 : decode cX7_digest 400 = .ok (.istore 5, 2) := by decide +kernel
theorem dX7_digest_402 : decode cX7_digest 402 = .ok (.iload 5, 2) := by decide +kernel
theorem dX7_digest_404 : decode cX7_digest 404 = .ok (.iconst 4, 1) := by decide +kernel
theorem dX7_digest_405 : decode cX7_digest 405 = .ok (.if_icmp .ge 33, 3) := by decide +kernel
theorem dX7_digest_408 : decode cX7_digest 408 = .ok (.lload_n 1, 1) := by decide +kernel
theorem dX7_digest_409 : decode cX7_digest 409 = .ok (.ldc2_w 240, 3) := by decide +kernel
theorem dX7_digest_412 : decode cX7_digest 412 = .ok (.lmul, 1) := by decide +kernel
theorem dX7_digest_413 : decode cX7_digest 413 = .ok (.aload_n 0, 1) := by decide +kernel
theorem dX7_digest_414 : decode cX7_digest 414 = .ok (.getfield 9, 3) := by decide +kernel
theorem dX7_digest_417 : decode cX7_digest 417 = .ok (.iconst 4, 1) := by decide +kernel
theorem dX7_digest_418 : decode cX7_digest 418 = .ok (.iload_n 3, 1) := by decide +kernel
theorem dX7_digest_419 : decode cX7_digest 419 = .ok (.iadd, 1) := by decide +kernel
theorem dX7_digest_420 : decode cX7_digest 420 = .ok (.aaload, 1) := by decide +kernel
theorem dX7_digest_421 : decode cX7_digest 421 = .ok (.iload 4, 2) := by decide +kernel
theorem dX7_digest_423 : decode cX7_digest 423 = .ok (.iaload, 1) := by decide +kernel
theorem dX7_digest_424 : decode cX7_digest 424 = .ok (.iload 5, 2) := by decide +kernel
theorem dX7_digest_426 : decode cX7_digest 426 = .ok (.invokestatic 226, 3) := by decide +kernel
theorem dX7_digest_429 : decode cX7_digest 429 = .ok (.i2l, 1) := by decide +kernel
theorem dX7_digest_430 : decode cX7_digest 430 = .ok (.ladd, 1) := by decide +kernel
theorem dX7_digest_431 : decode cX7_digest 431 = .ok (.lstore_n 1, 1) := by decide +kernel
theorem dX7_digest_432 : decode cX7_digest 432 = .ok (.iinc 5 1, 3) := by decide +kernel
theorem dX7_digest_435 : decode cX7_digest 435 = .ok (.goto (-33), 3) := by decide +kernel
theorem dX7_digest_438 : decode cX7_digest 438 = .ok (.lload_n 1, 1) := by decide +kernel
theorem dX7_digest_439 : decode cX7_digest 439 = .ok (.ldc2_w 240, 3) := by decide +kernel
theorem dX7_digest_442 : decode cX7_digest 442 = .ok (.lmul, 1) := by decide +kernel
theorem dX7_digest_443 : decode cX7_digest 443 = .ok (.aload_n 0, 1) := by decide +kernel
theorem dX7_digest_444 : decode cX7_digest 444 = .ok (.iload_n 3, 1) := by decide +kernel
theorem dX7_digest_445 : decode cX7_digest 445 = .ok (.iload 4, 2) := by decide +kernel
theorem dX7_digest_447 : decode cX7_digest 447 = .ok (.invokevirtual 150, 3) := by decide +kernel
theorem dX7_digest_450 : decode cX7_digest 450 = .ok (.i2l, 1) := by decide +kernel
theorem dX7_digest_451 : decode cX7_digest 451 = .ok (.ladd, 1) := by decide +kernel
theorem dX7_digest_452 : decode cX7_digest 452 = .ok (.lstore_n 1, 1) := by decide +kernel
theorem dX7_digest_453 : decode cX7_digest 453 = .ok (.iinc 4 1, 3) := by decide +kernel
theorem dX7_digest_456 : decode cX7_digest 456 = .ok (.goto (-90), 3) := by decide +kernel
theorem dX7_digest_459 : decode cX7_digest 459 = .ok (.iinc 3 1, 3) := by decide +kernel
theorem dX7_digest_462 : decode cX7_digest 462 = .ok (.goto (-134), 3) := by decide +kernel
theorem dX7_digest_465 : decode cX7_digest 465 = .ok (.iconst 0, 1) := by decide +kernel
theorem dX7_digest_466 : decode cX7_digest 466 = .ok (.istore_n 3, 1) := by decide +kernel
theorem dX7_digest_467 : decode cX7_digest 467 = .ok (.iload_n 3, 1) := by decide +kernel
theorem dX7_digest_468 : decode cX7_digest 468 = .ok (.iconst 4, 1) := by decide +kernel
theorem dX7_digest_469 : decode cX7_digest 469 = .ok (.if_icmp .ge 22, 3) := by decide +kernel
theorem dX7_digest_472 : decode cX7_digest 472 = .ok (.lload_n 1, 1) := by decide +kernel
theorem dX7_digest_473 : decode cX7_digest 473 = .ok (.ldc2_w 240, 3) := by decide +kernel
theorem dX7_digest_476 : decode cX7_digest 476 = .ok (.lmul, 1) := by decide +kernel
theorem dX7_digest_477 : decode cX7_digest 477 = .ok (.aload_n 0, 1) := by decide +kernel
theorem dX7_digest_478 : decode cX7_digest 478 = .ok (.iload_n 3, 1) := by decide +kernel
theorem dX7_digest_479 : decode cX7_digest 479 = .ok (.invokevirtual 235, 3) := by decide +kernel
theorem dX7_digest_482 : decode cX7_digest 482 = .ok (.i2l, 1) := by decide +kernel
theorem dX7_digest_483 : decode cX7_digest 483 = .ok (.ladd, 1) := by decide +kernel
theorem dX7_digest_484 : decode cX7_digest 484 = .ok (.lstore_n 1, 1) := by decide +kernel
theorem dX7_digest_485 : decode cX7_digest 485 = .ok (.iinc 3 1, 3) := by decide +kernel
theorem dX7_digest_488 : decode cX7_digest 488 = .ok (.goto (-21), 3) := by decide +kernel
theorem dX7_digest_491 : decode cX7_digest 491 = .ok (.lload_n 1, 1) := by decide +kernel
theorem dX7_digest_492 : decode cX7_digest 492 = .ok (.ldc2_w 240, 3) := by decide +kernel
theorem dX7_digest_495 : decode cX7_digest 495 = .ok (.lmul, 1) := by decide +kernel
theorem dX7_digest_496 : decode cX7_digest 496 = .ok (.aload_n 0, 1) := by decide +kernel
theorem dX7_digest_497 : decode cX7_digest 497 = .ok (.invokevirtual 242, 3) := by decide +kernel
theorem dX7_digest_500 : decode cX7_digest 500 = .ok (.invokestatic 92, 3) := by decide +kernel
theorem dX7_digest_503 : decode cX7_digest 503 = .ok (.i2l, 1) := by decide +kernel
theorem dX7_digest_504 : decode cX7_digest 504 = .ok (.ladd, 1) := by decide +kernel
theorem dX7_digest_505 : decode cX7_digest 505 = .ok (.lreturn, 1) := by decide +kernel
