/-! THE INSTRUCTIONS that the cases meet -/
theorem gwpc {xs : List Int32} {call : CT} {y : Nat} {Q : QT} {pc pc' : Nat} {L : LoS} {st : List Value} {h : AH} {mc ms : Nat} (e : pc = pc') (g : gw xs call y Q pc' L st h mc ms) : gw xs call y Q pc L st h mc ms := by
  rw [e]
  exact g
theorem m9_0 : smI 9 0 = some (.iconst 0, 1, 0, 0, 0, 0) := by decide +kernel
theorem m9_1 : smI 9 1 = some (.istore_n 2, 2, 0, 0, 0, 0) := by decide +kernel
theorem m9_2 : smI 9 2 = some (.aload_n 0, 3, 0, 0, 0, 0) := by decide +kernel
theorem m9_3 : smI 9 3 = some (.arraylength, 4, 0, 0, 0, 0) := by decide +kernel
theorem m9_4 : smI 9 4 = some (.istore_n 3, 5, 0, 0, 0, 0) := by decide +kernel
theorem m9_5 : smI 9 5 = some (.iload_n 2, 6, 0, 0, 0, 0) := by decide +kernel
theorem m9_6 : smI 9 6 = some (.iload_n 3, 7, 0, 0, 0, 0) := by decide +kernel
theorem m9_7 : smI 9 7 = some (.if_icmp .ge 13, 10, 0, 20, 0, 0) := by decide +kernel
theorem m9_10 : smI 9 10 = some (.aload_n 0, 11, 0, 0, 0, 0) := by decide +kernel
theorem m9_11 : smI 9 11 = some (.iload_n 2, 12, 0, 0, 0, 0) := by decide +kernel
theorem m9_12 : smI 9 12 = some (.iload_n 1, 13, 0, 0, 0, 0) := by decide +kernel
theorem m9_13 : smI 9 13 = some (.iastore, 14, 0, 0, 0, 0) := by decide +kernel
theorem m9_14 : smI 9 14 = some (.iinc 2 1, 17, 0, 0, 0, 1) := by decide +kernel
theorem m9_17 : smI 9 17 = some (.goto (-12), 20, 0, 5, 0, 0) := by decide +kernel
theorem m9_20 : smI 9 20 = some (.return_, 21, 0, 0, 0, 0) := by decide +kernel
theorem m11_0 : smI 11 0 = some (.aload_n 0, 1, 0, 0, 0, 0) := by decide +kernel
theorem m11_1 : smI 11 1 = some (.aload_n 1, 2, 0, 0, 0, 0) := by decide +kernel
theorem m11_2 : smI 11 2 = some (.getfield 9, 5, 0, 0, 0, 0) := by decide +kernel
theorem m11_5 : smI 11 5 = some (.putfield 9, 8, 0, 0, 0, 0) := by decide +kernel
theorem m11_8 : smI 11 8 = some (.aload_n 1, 9, 0, 0, 0, 0) := by decide +kernel
theorem m11_9 : smI 11 9 = some (.getfield 15, 12, 0, 0, 1, 0) := by decide +kernel
theorem m11_12 : smI 11 12 = some (.iconst 0, 13, 0, 0, 0, 0) := by decide +kernel
theorem m11_13 : smI 11 13 = some (.aload_n 0, 14, 0, 0, 0, 0) := by decide +kernel
theorem m11_14 : smI 11 14 = some (.getfield 15, 17, 0, 0, 1, 0) := by decide +kernel
theorem m11_17 : smI 11 17 = some (.iconst 0, 18, 0, 0, 0, 0) := by decide +kernel
theorem m11_18 : smI 11 18 = some (.bipush 50, 20, 0, 0, 0, 50) := by decide +kernel
theorem m11_20 : smI 11 20 = some (.invokestatic 28, 23, 4, 0, 5, 0) := by decide +kernel
theorem m11_23 : smI 11 23 = some (.aload_n 0, 24, 0, 0, 0, 0) := by decide +kernel
theorem m11_24 : smI 11 24 = some (.aload_n 1, 25, 0, 0, 0, 0) := by decide +kernel
theorem m11_25 : smI 11 25 = some (.getfield 19, 28, 0, 0, 2, 0) := by decide +kernel
theorem m11_28 : smI 11 28 = some (.putfield 19, 31, 0, 0, 2, 0) := by decide +kernel
theorem m11_31 : smI 11 31 = some (.aload_n 1, 32, 0, 0, 0, 0) := by decide +kernel
theorem m11_32 : smI 11 32 = some (.getfield 22, 35, 0, 0, 3, 0) := by decide +kernel
theorem m11_35 : smI 11 35 = some (.iconst 0, 36, 0, 0, 0, 0) := by decide +kernel
theorem m11_36 : smI 11 36 = some (.aload_n 0, 37, 0, 0, 0, 0) := by decide +kernel
theorem m11_37 : smI 11 37 = some (.getfield 22, 40, 0, 0, 3, 0) := by decide +kernel
theorem m11_40 : smI 11 40 = some (.iconst 0, 41, 0, 0, 0, 0) := by decide +kernel
theorem m11_41 : smI 11 41 = some (.bipush 20, 43, 0, 0, 0, 20) := by decide +kernel
theorem m11_43 : smI 11 43 = some (.invokestatic 28, 46, 4, 0, 5, 0) := by decide +kernel
theorem m11_46 : smI 11 46 = some (.aload_n 0, 47, 0, 0, 0, 0) := by decide +kernel
theorem m11_47 : smI 11 47 = some (.aload_n 1, 48, 0, 0, 0, 0) := by decide +kernel
theorem m11_48 : smI 11 48 = some (.getfield 25, 51, 0, 0, 4, 0) := by decide +kernel
theorem m11_51 : smI 11 51 = some (.putfield 25, 54, 0, 0, 4, 0) := by decide +kernel
theorem m11_54 : smI 11 54 = some (.return_, 55, 0, 0, 0, 0) := by decide +kernel
theorem m16_0 : smI 16 0 = some (.iload_n 0, 1, 0, 0, 0, 0) := by decide +kernel
theorem m16_1 : smI 16 1 = some (.tableswitch 43 0 3 #[31, 34, 37, 40], 32, 0, 0, 0, 0) := by decide +kernel
theorem m16_32 : smI 16 32 = some (.ldc 65, 34, 0, 6, 0, 0) := by decide +kernel
theorem m16_34 : smI 16 34 = some (.areturn, 35, 0, 0, 0, 0) := by decide +kernel
theorem m16_35 : smI 16 35 = some (.ldc 67, 37, 0, 7, 0, 0) := by decide +kernel
theorem m16_37 : smI 16 37 = some (.areturn, 38, 0, 0, 0, 0) := by decide +kernel
theorem m16_38 : smI 16 38 = some (.ldc 69, 40, 0, 8, 0, 0) := by decide +kernel
theorem m16_40 : smI 16 40 = some (.areturn, 41, 0, 0, 0, 0) := by decide +kernel
theorem m16_41 : smI 16 41 = some (.ldc 71, 43, 0, 9, 0, 0) := by decide +kernel
theorem m16_43 : smI 16 43 = some (.areturn, 44, 0, 0, 0, 0) := by decide +kernel
theorem m16_44 : smI 16 44 = some (.ldc 73, 46, 0, 10, 0, 0) := by decide +kernel
theorem m16_46 : smI 16 46 = some (.areturn, 47, 0, 0, 0, 0) := by decide +kernel
theorem m17_0 : smI 17 0 = some (.aload_n 0, 1, 0, 0, 0, 0) := by decide +kernel
theorem m17_1 : smI 17 1 = some (.getfield 31, 4, 0, 2, 6, 0) := by decide +kernel
theorem m17_4 : smI 17 4 = some (.ifCond .ge 26, 7, 0, 30, 0, 0) := by decide +kernel
theorem m17_7 : smI 17 7 = some (.aload_n 0, 8, 0, 0, 0, 0) := by decide +kernel
theorem m17_8 : smI 17 8 = some (.getfield 28, 11, 0, 2, 5, 0) := by decide +kernel
theorem m17_11 : smI 17 11 = some (.aload_n 0, 12, 0, 0, 0, 0) := by decide +kernel
theorem m17_12 : smI 17 12 = some (.getfield 19, 15, 0, 2, 3, 0) := by decide +kernel
theorem m17_15 : smI 17 15 = some (.if_icmp .ge 15, 18, 0, 30, 0, 0) := by decide +kernel
theorem m17_30 : smI 17 30 = some (.iconst (-1), 31, 0, 0, 0, -1) := by decide +kernel
theorem m17_31 : smI 17 31 = some (.ireturn, 32, 0, 0, 0, 0) := by decide +kernel
theorem m18_0 : smI 18 0 = some (.aload_n 0, 1, 0, 0, 0, 0) := by decide +kernel
theorem m18_1 : smI 18 1 = some (.invokevirtual 75, 4, 20, 17, 0, 0) := by decide +kernel
theorem m18_4 : smI 18 4 = some (.istore_n 2, 5, 0, 0, 0, 0) := by decide +kernel
theorem m18_5 : smI 18 5 = some (.iload_n 2, 6, 0, 0, 0, 0) := by decide +kernel
theorem m18_6 : smI 18 6 = some (.ifCond .lt 12, 9, 0, 18, 0, 0) := by decide +kernel
theorem m18_18 : smI 18 18 = some (.iconst 0, 19, 0, 0, 0, 0) := by decide +kernel
theorem m18_19 : smI 18 19 = some (.ireturn, 20, 0, 0, 0, 0) := by decide +kernel
theorem m20_0 : smI 20 0 = some (.iload_n 0, 1, 0, 0, 0, 0) := by decide +kernel
theorem m20_1 : smI 20 1 = some (.bipush 48, 3, 0, 0, 0, 48) := by decide +kernel
theorem m20_3 : smI 20 3 = some (.if_icmp .lt 13, 6, 0, 16, 0, 0) := by decide +kernel
theorem m20_16 : smI 20 16 = some (.iconst 0, 17, 0, 0, 0, 0) := by decide +kernel
theorem m20_17 : smI 20 17 = some (.ireturn, 18, 0, 0, 0, 0) := by decide +kernel
theorem m22_0 : smI 22 0 = some (.aload_n 0, 1, 0, 0, 0, 0) := by decide +kernel
theorem m22_1 : smI 22 1 = some (.getfield 31, 4, 0, 2, 6, 0) := by decide +kernel
theorem m22_4 : smI 22 4 = some (.ifCond .ge 11, 7, 0, 15, 0, 0) := by decide +kernel
theorem m22_7 : smI 22 7 = some (.aload_n 0, 8, 0, 0, 0, 0) := by decide +kernel
theorem m22_8 : smI 22 8 = some (.aload_n 0, 9, 0, 0, 0, 0) := by decide +kernel
theorem m22_9 : smI 22 9 = some (.getfield 28, 12, 0, 2, 5, 0) := by decide +kernel
theorem m22_12 : smI 22 12 = some (.putfield 31, 15, 0, 2, 6, 0) := by decide +kernel
theorem m22_15 : smI 22 15 = some (.return_, 16, 0, 0, 0, 0) := by decide +kernel
theorem m23_0 : smI 23 0 = some (.aload_n 0, 1, 0, 0, 0, 0) := by decide +kernel
theorem m23_1 : smI 23 1 = some (.invokevirtual 75, 4, 20, 17, 0, 0) := by decide +kernel
theorem m23_4 : smI 23 4 = some (.istore_n 2, 5, 0, 0, 0, 0) := by decide +kernel
theorem m23_5 : smI 23 5 = some (.iload_n 2, 6, 0, 0, 0, 0) := by decide +kernel
theorem m23_6 : smI 23 6 = some (.ifCond .ge 7, 9, 0, 13, 0, 0) := by decide +kernel
theorem m23_9 : smI 23 9 = some (.iconst (-1), 10, 0, 0, 0, -1) := by decide +kernel
theorem m23_10 : smI 23 10 = some (.goto 12, 13, 0, 22, 0, 0) := by decide +kernel
theorem m23_22 : smI 23 22 = some (.istore_n 3, 23, 0, 0, 0, 0) := by decide +kernel
theorem m23_23 : smI 23 23 = some (.iload_n 2, 24, 0, 0, 0, 0) := by decide +kernel
theorem m23_24 : smI 23 24 = some (.invokestatic 85, 27, 0, 20, 1, 0) := by decide +kernel
theorem m23_27 : smI 23 27 = some (.ifCond .eq 10, 30, 0, 37, 0, 0) := by decide +kernel
theorem m23_37 : smI 23 37 = some (.iload_n 3, 38, 0, 0, 0, 0) := by decide +kernel
theorem m23_38 : smI 23 38 = some (.ifCond .lt 21, 41, 0, 59, 0, 0) := by decide +kernel
theorem m23_59 : smI 23 59 = some (.iload_n 2, 60, 0, 0, 0, 0) := by decide +kernel
theorem m23_60 : smI 23 60 = some (.bipush 33, 62, 0, 0, 0, 33) := by decide +kernel
theorem m23_62 : smI 23 62 = some (.if_icmp .ne 34, 65, 0, 96, 0, 0) := by decide +kernel
theorem m23_96 : smI 23 96 = some (.iload_n 2, 97, 0, 0, 0, 0) := by decide +kernel
theorem m23_97 : smI 23 97 = some (.bipush 40, 99, 0, 0, 0, 40) := by decide +kernel
theorem m23_99 : smI 23 99 = some (.if_icmp .ne 42, 102, 0, 141, 0, 0) := by decide +kernel
theorem m23_141 : smI 23 141 = some (.aload_n 0, 142, 0, 0, 0, 0) := by decide +kernel
theorem m23_142 : smI 23 142 = some (.invokevirtual 47, 145, 20, 22, 0, 0) := by decide +kernel
theorem m23_145 : smI 23 145 = some (.return_, 146, 0, 0, 0, 0) := by decide +kernel
theorem m24_0 : smI 24 0 = some (.iload_n 1, 1, 0, 0, 0, 0) := by decide +kernel
theorem m24_1 : smI 24 1 = some (.iconst 5, 2, 0, 0, 0, 5) := by decide +kernel
theorem m24_2 : smI 24 2 = some (.if_icmp .lt 9, 5, 0, 11, 0, 0) := by decide +kernel
theorem m24_5 : smI 24 5 = some (.aload_n 0, 6, 0, 0, 0, 0) := by decide +kernel
theorem m24_6 : smI 24 6 = some (.iload_n 2, 7, 0, 0, 0, 0) := by decide +kernel
theorem m24_7 : smI 24 7 = some (.invokevirtual 50, 10, 20, 23, 1, 0) := by decide +kernel
theorem m24_10 : smI 24 10 = some (.return_, 11, 0, 0, 0, 0) := by decide +kernel
theorem m24_11 : smI 24 11 = some (.aload_n 0, 12, 0, 0, 0, 0) := by decide +kernel
theorem m24_12 : smI 24 12 = some (.iload_n 1, 13, 0, 0, 0, 0) := by decide +kernel
theorem m24_13 : smI 24 13 = some (.iconst 1, 14, 0, 0, 0, 1) := by decide +kernel
theorem m24_14 : smI 24 14 = some (.iadd, 15, 0, 0, 0, 0) := by decide +kernel
theorem m24_15 : smI 24 15 = some (.iload_n 2, 16, 0, 0, 0, 0) := by decide +kernel
theorem m24_16 : smI 24 16 = some (.invokevirtual 43, 19, 20, 24, 2, 0) := by decide +kernel
theorem m24_19 : smI 24 19 = some (.iload_n 1, 20, 0, 0, 0, 0) := by decide +kernel
theorem m24_20 : smI 24 20 = some (.iconst 2, 21, 0, 0, 0, 2) := by decide +kernel
theorem m24_21 : smI 24 21 = some (.if_icmp .ne 7, 24, 0, 28, 0, 0) := by decide +kernel
theorem m24_24 : smI 24 24 = some (.iconst 1, 25, 0, 0, 0, 1) := by decide +kernel
theorem m24_25 : smI 24 25 = some (.goto 5, 28, 0, 30, 0, 0) := by decide +kernel
theorem m24_28 : smI 24 28 = some (.bipush 50, 30, 0, 0, 0, 50) := by decide +kernel
theorem m24_30 : smI 24 30 = some (.istore_n 3, 31, 0, 0, 0, 0) := by decide +kernel
theorem m24_31 : smI 24 31 = some (.iconst 0, 32, 0, 0, 0, 0) := by decide +kernel
theorem m24_32 : smI 24 32 = some (.istore 4, 34, 0, 0, 0, 0) := by decide +kernel
theorem m24_34 : smI 24 34 = some (.iload 4, 36, 0, 0, 0, 0) := by decide +kernel
theorem m24_36 : smI 24 36 = some (.iload_n 3, 37, 0, 0, 0, 0) := by decide +kernel
theorem m24_37 : smI 24 37 = some (.if_icmp .ge 39, 40, 0, 76, 0, 0) := by decide +kernel
theorem m24_40 : smI 24 40 = some (.aload_n 0, 41, 0, 0, 0, 0) := by decide +kernel
theorem m24_41 : smI 24 41 = some (.iload_n 1, 42, 0, 0, 0, 0) := by decide +kernel
theorem m24_42 : smI 24 42 = some (.invokestatic 54, 45, 0, 16, 1, 0) := by decide +kernel
theorem m24_45 : smI 24 45 = some (.invokevirtual 58, 48, 20, 18, 1, 0) := by decide +kernel
theorem m24_48 : smI 24 48 = some (.istore 5, 50, 0, 0, 0, 0) := by decide +kernel
theorem m24_50 : smI 24 50 = some (.iload 5, 52, 0, 0, 0, 0) := by decide +kernel
theorem m24_52 : smI 24 52 = some (.ifCond .ne 4, 55, 0, 56, 0, 0) := by decide +kernel
theorem m24_55 : smI 24 55 = some (.return_, 56, 0, 0, 0, 0) := by decide +kernel
theorem m25_0 : smI 25 0 = some (.aload_n 0, 1, 0, 0, 0, 0) := by decide +kernel
theorem m25_1 : smI 25 1 = some (.iload_n 1, 2, 0, 0, 0, 0) := by decide +kernel
theorem m25_2 : smI 25 2 = some (.aload_n 0, 3, 0, 0, 0, 0) := by decide +kernel
theorem m25_3 : smI 25 3 = some (.getfield 34, 6, 0, 2, 2, 0) := by decide +kernel
theorem m25_6 : smI 25 6 = some (.arraylength, 7, 0, 0, 0, 0) := by decide +kernel
theorem m25_7 : smI 25 7 = some (.invokestatic 37, 10, 3, 0, 2, 0) := by decide +kernel
theorem m25_10 : smI 25 10 = some (.putfield 19, 13, 0, 2, 3, 0) := by decide +kernel
theorem m25_13 : smI 25 13 = some (.aload_n 0, 14, 0, 0, 0, 0) := by decide +kernel
theorem m25_14 : smI 25 14 = some (.aload_n 2, 15, 0, 0, 0, 0) := by decide +kernel
theorem m25_15 : smI 25 15 = some (.putfield 24, 18, 0, 2, 4, 0) := by decide +kernel
theorem m25_18 : smI 25 18 = some (.aload_n 0, 19, 0, 0, 0, 0) := by decide +kernel
theorem m25_19 : smI 25 19 = some (.iconst 0, 20, 0, 0, 0, 0) := by decide +kernel
theorem m25_20 : smI 25 20 = some (.putfield 15, 23, 0, 2, 1, 0) := by decide +kernel
theorem m25_23 : smI 25 23 = some (.aload_n 0, 24, 0, 0, 0, 0) := by decide +kernel
theorem m25_24 : smI 25 24 = some (.iconst 0, 25, 0, 0, 0, 0) := by decide +kernel
theorem m25_25 : smI 25 25 = some (.putfield 28, 28, 0, 2, 5, 0) := by decide +kernel
theorem m25_28 : smI 25 28 = some (.aload_n 0, 29, 0, 0, 0, 0) := by decide +kernel
theorem m25_29 : smI 25 29 = some (.iconst (-1), 30, 0, 0, 0, -1) := by decide +kernel
theorem m25_30 : smI 25 30 = some (.putfield 31, 33, 0, 2, 6, 0) := by decide +kernel
theorem m25_33 : smI 25 33 = some (.aload_n 0, 34, 0, 0, 0, 0) := by decide +kernel
theorem m25_34 : smI 25 34 = some (.iconst 0, 35, 0, 0, 0, 0) := by decide +kernel
theorem m25_35 : smI 25 35 = some (.iconst 0, 36, 0, 0, 0, 0) := by decide +kernel
theorem m25_36 : smI 25 36 = some (.invokevirtual 43, 39, 20, 24, 2, 0) := by decide +kernel
theorem m25_39 : smI 25 39 = some (.aload_n 0, 40, 0, 0, 0, 0) := by decide +kernel
theorem m25_40 : smI 25 40 = some (.getfield 28, 43, 0, 2, 5, 0) := by decide +kernel
theorem m25_43 : smI 25 43 = some (.aload_n 0, 44, 0, 0, 0, 0) := by decide +kernel
theorem m25_44 : smI 25 44 = some (.getfield 19, 47, 0, 2, 3, 0) := by decide +kernel
theorem m25_47 : smI 25 47 = some (.if_icmp .ge 7, 50, 0, 54, 0, 0) := by decide +kernel
theorem m25_54 : smI 25 54 = some (.aload_n 0, 55, 0, 0, 0, 0) := by decide +kernel
theorem m25_55 : smI 25 55 = some (.getfield 31, 58, 0, 2, 6, 0) := by decide +kernel
theorem m25_58 : smI 25 58 = some (.ireturn, 59, 0, 0, 0, 0) := by decide +kernel
theorem m27_0 : smI 27 0 = some (.aload_n 0, 1, 0, 0, 0, 0) := by decide +kernel
theorem m27_1 : smI 27 1 = some (.iload_n 1, 2, 0, 0, 0, 0) := by decide +kernel
theorem m27_2 : smI 27 2 = some (.putfield 9, 5, 0, 3, 0, 0) := by decide +kernel
theorem m27_5 : smI 27 5 = some (.aload_n 0, 6, 0, 0, 0, 0) := by decide +kernel
theorem m27_6 : smI 27 6 = some (.iload_n 2, 7, 0, 0, 0, 0) := by decide +kernel
theorem m27_7 : smI 27 7 = some (.putfield 15, 10, 0, 3, 1, 0) := by decide +kernel
theorem m27_10 : smI 27 10 = some (.aload_n 0, 11, 0, 0, 0, 0) := by decide +kernel
theorem m27_11 : smI 27 11 = some (.getfield 18, 14, 0, 3, 2, 0) := by decide +kernel
theorem m27_14 : smI 27 14 = some (.iconst 0, 15, 0, 0, 0, 0) := by decide +kernel
theorem m27_15 : smI 27 15 = some (.invokestatic 22, 18, 0, 9, 2, 0) := by decide +kernel
theorem m27_18 : smI 27 18 = some (.return_, 19, 0, 0, 0, 0) := by decide +kernel
theorem m31_0 : smI 31 0 = some (.aload_n 1, 1, 0, 0, 0, 0) := by decide +kernel
theorem m31_1 : smI 31 1 = some (.getfield 9, 4, 0, 4, 0, 0) := by decide +kernel
theorem m31_4 : smI 31 4 = some (.iconst 0, 5, 0, 0, 0, 0) := by decide +kernel
theorem m31_5 : smI 31 5 = some (.aload_n 0, 6, 0, 0, 0, 0) := by decide +kernel
theorem m31_6 : smI 31 6 = some (.getfield 9, 9, 0, 4, 0, 0) := by decide +kernel
theorem m31_9 : smI 31 9 = some (.iconst 0, 10, 0, 0, 0, 0) := by decide +kernel
theorem m31_10 : smI 31 10 = some (.bipush 8, 12, 0, 0, 0, 8) := by decide +kernel
theorem m31_12 : smI 31 12 = some (.invokestatic 54, 15, 4, 0, 5, 0) := by decide +kernel
theorem m31_15 : smI 31 15 = some (.aload_n 1, 16, 0, 0, 0, 0) := by decide +kernel
theorem m31_16 : smI 31 16 = some (.getfield 15, 19, 0, 4, 1, 0) := by decide +kernel
theorem m31_19 : smI 31 19 = some (.iconst 0, 20, 0, 0, 0, 0) := by decide +kernel
theorem m31_20 : smI 31 20 = some (.aload_n 0, 21, 0, 0, 0, 0) := by decide +kernel
theorem m31_21 : smI 31 21 = some (.getfield 15, 24, 0, 4, 1, 0) := by decide +kernel
theorem m31_24 : smI 31 24 = some (.iconst 0, 25, 0, 0, 0, 0) := by decide +kernel
theorem m31_25 : smI 31 25 = some (.bipush 8, 27, 0, 0, 0, 8) := by decide +kernel
theorem m31_27 : smI 31 27 = some (.invokestatic 54, 30, 4, 0, 5, 0) := by decide +kernel
theorem m31_30 : smI 31 30 = some (.aload_n 1, 31, 0, 0, 0, 0) := by decide +kernel
theorem m31_31 : smI 31 31 = some (.getfield 18, 34, 0, 4, 2, 0) := by decide +kernel
theorem m31_34 : smI 31 34 = some (.iconst 0, 35, 0, 0, 0, 0) := by decide +kernel
theorem m31_35 : smI 31 35 = some (.aload_n 0, 36, 0, 0, 0, 0) := by decide +kernel
theorem m31_36 : smI 31 36 = some (.getfield 18, 39, 0, 4, 2, 0) := by decide +kernel
theorem m31_39 : smI 31 39 = some (.iconst 0, 40, 0, 0, 0, 0) := by decide +kernel
theorem m31_40 : smI 31 40 = some (.bipush 8, 42, 0, 0, 0, 8) := by decide +kernel
theorem m31_42 : smI 31 42 = some (.invokestatic 54, 45, 4, 0, 5, 0) := by decide +kernel
theorem m31_45 : smI 31 45 = some (.aload_n 1, 46, 0, 0, 0, 0) := by decide +kernel
theorem m31_46 : smI 31 46 = some (.getfield 21, 49, 0, 4, 3, 0) := by decide +kernel
theorem m31_49 : smI 31 49 = some (.iconst 0, 50, 0, 0, 0, 0) := by decide +kernel
theorem m31_50 : smI 31 50 = some (.aload_n 0, 51, 0, 0, 0, 0) := by decide +kernel
theorem m31_51 : smI 31 51 = some (.getfield 21, 54, 0, 4, 3, 0) := by decide +kernel
theorem m31_54 : smI 31 54 = some (.iconst 0, 55, 0, 0, 0, 0) := by decide +kernel
theorem m31_55 : smI 31 55 = some (.bipush 8, 57, 0, 0, 0, 8) := by decide +kernel
theorem m31_57 : smI 31 57 = some (.invokestatic 54, 60, 4, 0, 5, 0) := by decide +kernel
theorem m31_60 : smI 31 60 = some (.aload_n 1, 61, 0, 0, 0, 0) := by decide +kernel
theorem m31_61 : smI 31 61 = some (.getfield 24, 64, 0, 4, 4, 0) := by decide +kernel
theorem m31_64 : smI 31 64 = some (.iconst 0, 65, 0, 0, 0, 0) := by decide +kernel
theorem m31_65 : smI 31 65 = some (.aload_n 0, 66, 0, 0, 0, 0) := by decide +kernel
theorem m31_66 : smI 31 66 = some (.getfield 24, 69, 0, 4, 4, 0) := by decide +kernel
theorem m31_69 : smI 31 69 = some (.iconst 0, 70, 0, 0, 0, 0) := by decide +kernel
theorem m31_70 : smI 31 70 = some (.bipush 8, 72, 0, 0, 0, 8) := by decide +kernel
theorem m31_72 : smI 31 72 = some (.invokestatic 54, 75, 4, 0, 5, 0) := by decide +kernel
theorem m31_75 : smI 31 75 = some (.aload_n 1, 76, 0, 0, 0, 0) := by decide +kernel
theorem m31_76 : smI 31 76 = some (.getfield 27, 79, 0, 4, 5, 0) := by decide +kernel
theorem m31_79 : smI 31 79 = some (.iconst 0, 80, 0, 0, 0, 0) := by decide +kernel
theorem m31_80 : smI 31 80 = some (.aload_n 0, 81, 0, 0, 0, 0) := by decide +kernel
theorem m31_81 : smI 31 81 = some (.getfield 27, 84, 0, 4, 5, 0) := by decide +kernel
theorem m31_84 : smI 31 84 = some (.iconst 0, 85, 0, 0, 0, 0) := by decide +kernel
theorem m31_85 : smI 31 85 = some (.bipush 8, 87, 0, 0, 0, 8) := by decide +kernel
theorem m31_87 : smI 31 87 = some (.invokestatic 54, 90, 4, 0, 5, 0) := by decide +kernel
theorem m31_90 : smI 31 90 = some (.aload_n 1, 91, 0, 0, 0, 0) := by decide +kernel
theorem m31_91 : smI 31 91 = some (.getfield 30, 94, 0, 4, 6, 0) := by decide +kernel
theorem m31_94 : smI 31 94 = some (.iconst 0, 95, 0, 0, 0, 0) := by decide +kernel
theorem m31_95 : smI 31 95 = some (.aload_n 0, 96, 0, 0, 0, 0) := by decide +kernel
theorem m31_96 : smI 31 96 = some (.getfield 30, 99, 0, 4, 6, 0) := by decide +kernel
theorem m31_99 : smI 31 99 = some (.iconst 0, 100, 0, 0, 0, 0) := by decide +kernel
theorem m31_100 : smI 31 100 = some (.bipush 8, 102, 0, 0, 0, 8) := by decide +kernel
theorem m31_102 : smI 31 102 = some (.invokestatic 54, 105, 4, 0, 5, 0) := by decide +kernel
theorem m31_105 : smI 31 105 = some (.aload_n 0, 106, 0, 0, 0, 0) := by decide +kernel
theorem m31_106 : smI 31 106 = some (.aload_n 1, 107, 0, 0, 0, 0) := by decide +kernel
theorem m31_107 : smI 31 107 = some (.getfield 37, 110, 0, 4, 8, 0) := by decide +kernel
theorem m31_110 : smI 31 110 = some (.putfield 37, 113, 0, 4, 8, 0) := by decide +kernel
theorem m31_113 : smI 31 113 = some (.aload_n 0, 114, 0, 0, 0, 0) := by decide +kernel
theorem m31_114 : smI 31 114 = some (.aload_n 1, 115, 0, 0, 0, 0) := by decide +kernel
theorem m31_115 : smI 31 115 = some (.getfield 41, 118, 0, 4, 9, 0) := by decide +kernel
theorem m31_118 : smI 31 118 = some (.putfield 41, 121, 0, 4, 9, 0) := by decide +kernel
theorem m31_121 : smI 31 121 = some (.aload_n 0, 122, 0, 0, 0, 0) := by decide +kernel
theorem m31_122 : smI 31 122 = some (.aload_n 1, 123, 0, 0, 0, 0) := by decide +kernel
theorem m31_123 : smI 31 123 = some (.getfield 44, 126, 0, 4, 10, 0) := by decide +kernel
theorem m31_126 : smI 31 126 = some (.putfield 44, 129, 0, 4, 10, 0) := by decide +kernel
theorem m31_129 : smI 31 129 = some (.aload_n 0, 130, 0, 0, 0, 0) := by decide +kernel
theorem m31_130 : smI 31 130 = some (.aload_n 1, 131, 0, 0, 0, 0) := by decide +kernel
theorem m31_131 : smI 31 131 = some (.getfield 47, 134, 0, 4, 11, 0) := by decide +kernel
theorem m31_134 : smI 31 134 = some (.putfield 47, 137, 0, 4, 11, 0) := by decide +kernel
theorem m31_137 : smI 31 137 = some (.aload_n 0, 138, 0, 0, 0, 0) := by decide +kernel
theorem m31_138 : smI 31 138 = some (.aload_n 1, 139, 0, 0, 0, 0) := by decide +kernel
theorem m31_139 : smI 31 139 = some (.getfield 51, 142, 0, 4, 12, 0) := by decide +kernel
theorem m31_142 : smI 31 142 = some (.putfield 51, 145, 0, 4, 12, 0) := by decide +kernel
theorem m31_145 : smI 31 145 = some (.return_, 146, 0, 0, 0, 0) := by decide +kernel
theorem m32_0 : smI 32 0 = some (.aload_n 0, 1, 0, 0, 0, 0) := by decide +kernel
theorem m32_1 : smI 32 1 = some (.getfield 47, 4, 0, 4, 11, 0) := by decide +kernel
theorem m32_4 : smI 32 4 = some (.ifnonnull 15, 7, 0, 19, 0, 0) := by decide +kernel
theorem m32_7 : smI 32 7 = some (.iload_n 2, 8, 0, 0, 0, 0) := by decide +kernel
theorem m32_8 : smI 32 8 = some (.bipush 9, 10, 0, 0, 0, 9) := by decide +kernel
theorem m32_10 : smI 32 10 = some (.iadd, 11, 0, 0, 0, 0) := by decide +kernel
theorem m32_11 : smI 32 11 = some (.iload_n 1, 12, 0, 0, 0, 0) := by decide +kernel
theorem m32_12 : smI 32 12 = some (.bipush 9, 14, 0, 0, 0, 9) := by decide +kernel
theorem m32_14 : smI 32 14 = some (.idiv, 15, 0, 0, 0, 0) := by decide +kernel
theorem m32_15 : smI 32 15 = some (.isub, 16, 0, 0, 0, 0) := by decide +kernel
theorem m32_16 : smI 32 16 = some (.goto 13, 19, 0, 29, 0, 0) := by decide +kernel
theorem m32_29 : smI 32 29 = some (.bipush 99, 31, 0, 0, 0, 99) := by decide +kernel
theorem m32_31 : smI 32 31 = some (.invokestatic 66, 34, 1, 51, 2, 0) := by decide +kernel
theorem m32_34 : smI 32 34 = some (.ireturn, 35, 0, 0, 0, 0) := by decide +kernel
theorem m33_0 : smI 33 0 = some (.aload_n 0, 1, 0, 0, 0, 0) := by decide +kernel
theorem m33_1 : smI 33 1 = some (.getfield 51, 4, 0, 4, 12, 0) := by decide +kernel
theorem m33_4 : smI 33 4 = some (.ifnonnull 7, 7, 0, 11, 0, 0) := by decide +kernel
theorem m33_7 : smI 33 7 = some (.iconst 0, 8, 0, 0, 0, 0) := by decide +kernel
theorem m33_8 : smI 33 8 = some (.goto 17, 11, 0, 25, 0, 0) := by decide +kernel
theorem m33_25 : smI 33 25 = some (.ireturn, 26, 0, 0, 0, 0) := by decide +kernel
theorem m36_0 : smI 36 0 = some (.iconst 0, 1, 0, 0, 0, 0) := by decide +kernel
theorem m36_1 : smI 36 1 = some (.istore_n 1, 2, 0, 0, 0, 0) := by decide +kernel
theorem m36_2 : smI 36 2 = some (.iload_n 1, 3, 0, 0, 0, 0) := by decide +kernel
theorem m36_3 : smI 36 3 = some (.aload_n 0, 4, 0, 0, 0, 0) := by decide +kernel
theorem m36_4 : smI 36 4 = some (.getfield 44, 7, 0, 4, 10, 0) := by decide +kernel
theorem m36_7 : smI 36 7 = some (.if_icmp .ge 20, 10, 0, 27, 0, 0) := by decide +kernel
theorem m36_27 : smI 36 27 = some (.return_, 28, 0, 0, 0, 0) := by decide +kernel
theorem m38_0 : smI 38 0 = some (.iconst 0, 1, 0, 0, 0, 0) := by decide +kernel
theorem m38_1 : smI 38 1 = some (.istore_n 1, 2, 0, 0, 0, 0) := by decide +kernel
theorem m38_2 : smI 38 2 = some (.iconst 0, 3, 0, 0, 0, 0) := by decide +kernel
theorem m38_3 : smI 38 3 = some (.istore_n 2, 4, 0, 0, 0, 0) := by decide +kernel
theorem m38_4 : smI 38 4 = some (.iload_n 2, 5, 0, 0, 0, 0) := by decide +kernel
theorem m38_5 : smI 38 5 = some (.aload_n 0, 6, 0, 0, 0, 0) := by decide +kernel
theorem m38_6 : smI 38 6 = some (.getfield 44, 9, 0, 4, 10, 0) := by decide +kernel
theorem m38_9 : smI 38 9 = some (.if_icmp .ge 36, 12, 0, 45, 0, 0) := by decide +kernel
theorem m38_45 : smI 38 45 = some (.iload_n 1, 46, 0, 0, 0, 0) := by decide +kernel
theorem m38_46 : smI 38 46 = some (.ireturn, 47, 0, 0, 0, 0) := by decide +kernel
theorem m44_0 : smI 44 0 = some (.iconst 0, 1, 0, 0, 0, 0) := by decide +kernel
theorem m44_1 : smI 44 1 = some (.istore_n 3, 2, 0, 0, 0, 0) := by decide +kernel
theorem m44_2 : smI 44 2 = some (.iload_n 3, 3, 0, 0, 0, 0) := by decide +kernel
theorem m44_3 : smI 44 3 = some (.aload_n 0, 4, 0, 0, 0, 0) := by decide +kernel
theorem m44_4 : smI 44 4 = some (.getfield 44, 7, 0, 4, 10, 0) := by decide +kernel
theorem m44_7 : smI 44 7 = some (.if_icmp .ge 24, 10, 0, 31, 0, 0) := by decide +kernel
theorem m44_31 : smI 44 31 = some (.return_, 32, 0, 0, 0, 0) := by decide +kernel
theorem m45_0 : smI 45 0 = some (.iconst 0, 1, 0, 0, 0, 0) := by decide +kernel
theorem m45_1 : smI 45 1 = some (.istore_n 1, 2, 0, 0, 0, 0) := by decide +kernel
theorem m45_2 : smI 45 2 = some (.iconst 0, 3, 0, 0, 0, 0) := by decide +kernel
theorem m45_3 : smI 45 3 = some (.istore_n 2, 4, 0, 0, 0, 0) := by decide +kernel
theorem m45_4 : smI 45 4 = some (.iload_n 2, 5, 0, 0, 0, 0) := by decide +kernel
theorem m45_5 : smI 45 5 = some (.aload_n 0, 6, 0, 0, 0, 0) := by decide +kernel
theorem m45_6 : smI 45 6 = some (.getfield 44, 9, 0, 4, 10, 0) := by decide +kernel
theorem m45_9 : smI 45 9 = some (.if_icmp .ge 18, 12, 0, 27, 0, 0) := by decide +kernel
theorem m45_27 : smI 45 27 = some (.iload_n 1, 28, 0, 0, 0, 0) := by decide +kernel
theorem m45_28 : smI 45 28 = some (.ireturn, 29, 0, 0, 0, 0) := by decide +kernel
theorem m46_0 : smI 46 0 = some (.iconst 0, 1, 0, 0, 0, 0) := by decide +kernel
theorem m46_1 : smI 46 1 = some (.istore_n 1, 2, 0, 0, 0, 0) := by decide +kernel
theorem m46_2 : smI 46 2 = some (.iconst 0, 3, 0, 0, 0, 0) := by decide +kernel
theorem m46_3 : smI 46 3 = some (.istore_n 2, 4, 0, 0, 0, 0) := by decide +kernel
theorem m46_4 : smI 46 4 = some (.iload_n 2, 5, 0, 0, 0, 0) := by decide +kernel
theorem m46_5 : smI 46 5 = some (.aload_n 0, 6, 0, 0, 0, 0) := by decide +kernel
theorem m46_6 : smI 46 6 = some (.getfield 44, 9, 0, 4, 10, 0) := by decide +kernel
theorem m46_9 : smI 46 9 = some (.if_icmp .ge 20, 12, 0, 29, 0, 0) := by decide +kernel
theorem m46_29 : smI 46 29 = some (.iload_n 1, 30, 0, 0, 0, 0) := by decide +kernel
theorem m46_30 : smI 46 30 = some (.ireturn, 31, 0, 0, 0, 0) := by decide +kernel
theorem m47_0 : smI 47 0 = some (.iconst 0, 1, 0, 0, 0, 0) := by decide +kernel
theorem m47_1 : smI 47 1 = some (.istore_n 1, 2, 0, 0, 0, 0) := by decide +kernel
theorem m47_2 : smI 47 2 = some (.iconst 0, 3, 0, 0, 0, 0) := by decide +kernel
theorem m47_3 : smI 47 3 = some (.istore_n 2, 4, 0, 0, 0, 0) := by decide +kernel
theorem m47_4 : smI 47 4 = some (.iload_n 2, 5, 0, 0, 0, 0) := by decide +kernel
theorem m47_5 : smI 47 5 = some (.aload_n 0, 6, 0, 0, 0, 0) := by decide +kernel
theorem m47_6 : smI 47 6 = some (.getfield 44, 9, 0, 4, 10, 0) := by decide +kernel
theorem m47_9 : smI 47 9 = some (.if_icmp .ge 18, 12, 0, 27, 0, 0) := by decide +kernel
theorem m47_27 : smI 47 27 = some (.iload_n 1, 28, 0, 0, 0, 0) := by decide +kernel
theorem m47_28 : smI 47 28 = some (.ireturn, 29, 0, 0, 0, 0) := by decide +kernel
theorem m48_0 : smI 48 0 = some (.iconst 0, 1, 0, 0, 0, 0) := by decide +kernel
theorem m48_1 : smI 48 1 = some (.istore_n 1, 2, 0, 0, 0, 0) := by decide +kernel
theorem m48_2 : smI 48 2 = some (.iconst 0, 3, 0, 0, 0, 0) := by decide +kernel
theorem m48_3 : smI 48 3 = some (.istore_n 2, 4, 0, 0, 0, 0) := by decide +kernel
theorem m48_4 : smI 48 4 = some (.iload_n 2, 5, 0, 0, 0, 0) := by decide +kernel
theorem m48_5 : smI 48 5 = some (.aload_n 0, 6, 0, 0, 0, 0) := by decide +kernel
theorem m48_6 : smI 48 6 = some (.getfield 44, 9, 0, 4, 10, 0) := by decide +kernel
theorem m48_9 : smI 48 9 = some (.if_icmp .ge 21, 12, 0, 30, 0, 0) := by decide +kernel
theorem m48_30 : smI 48 30 = some (.iload_n 1, 31, 0, 0, 0, 0) := by decide +kernel
theorem m48_31 : smI 48 31 = some (.ireturn, 32, 0, 0, 0, 0) := by decide +kernel
theorem m51_0 : smI 51 0 = some (.iload_n 0, 1, 0, 0, 0, 0) := by decide +kernel
theorem m51_1 : smI 51 1 = some (.ifCond .ge 7, 4, 0, 8, 0, 0) := by decide +kernel
theorem m51_4 : smI 51 4 = some (.iconst 0, 5, 0, 0, 0, 0) := by decide +kernel
theorem m51_5 : smI 51 5 = some (.goto 13, 8, 0, 18, 0, 0) := by decide +kernel
theorem m51_8 : smI 51 8 = some (.iload_n 0, 9, 0, 0, 0, 0) := by decide +kernel
theorem m51_9 : smI 51 9 = some (.iload_n 1, 10, 0, 0, 0, 0) := by decide +kernel
theorem m51_10 : smI 51 10 = some (.if_icmp .le 7, 13, 0, 17, 0, 0) := by decide +kernel
theorem m51_13 : smI 51 13 = some (.iload_n 1, 14, 0, 0, 0, 0) := by decide +kernel
theorem m51_14 : smI 51 14 = some (.goto 4, 17, 0, 18, 0, 0) := by decide +kernel
theorem m51_17 : smI 51 17 = some (.iload_n 0, 18, 0, 0, 0, 0) := by decide +kernel
theorem m51_18 : smI 51 18 = some (.ireturn, 19, 0, 0, 0, 0) := by decide +kernel
theorem m54_0 : smI 54 0 = some (.iload_n 0, 1, 0, 0, 0, 0) := by decide +kernel
theorem m54_1 : smI 54 1 = some (.ifCond .lt 12, 4, 0, 13, 0, 0) := by decide +kernel
theorem m54_4 : smI 54 4 = some (.iload_n 0, 5, 0, 0, 0, 0) := by decide +kernel
theorem m54_5 : smI 54 5 = some (.iload_n 1, 6, 0, 0, 0, 0) := by decide +kernel
theorem m54_6 : smI 54 6 = some (.if_icmp .gt 7, 9, 0, 13, 0, 0) := by decide +kernel
theorem m54_9 : smI 54 9 = some (.iconst 1, 10, 0, 0, 0, 1) := by decide +kernel
theorem m54_10 : smI 54 10 = some (.goto 4, 13, 0, 14, 0, 0) := by decide +kernel
theorem m54_13 : smI 54 13 = some (.iconst 0, 14, 0, 0, 0, 0) := by decide +kernel
theorem m54_14 : smI 54 14 = some (.ireturn, 15, 0, 0, 0, 0) := by decide +kernel
theorem m55_0 : smI 55 0 = some (.aload_n 0, 1, 0, 0, 0, 0) := by decide +kernel
theorem m55_1 : smI 55 1 = some (.getfield 66, 4, 0, 6, 10, 0) := by decide +kernel
theorem m55_4 : smI 55 4 = some (.iload_n 1, 5, 0, 0, 0, 0) := by decide +kernel
theorem m55_5 : smI 55 5 = some (.dup2, 6, 0, 0, 0, 0) := by decide +kernel
theorem m55_6 : smI 55 6 = some (.iaload, 7, 0, 0, 0, 0) := by decide +kernel
theorem m55_7 : smI 55 7 = some (.iconst 1, 8, 0, 0, 0, 1) := by decide +kernel
theorem m55_8 : smI 55 8 = some (.iadd, 9, 0, 0, 0, 0) := by decide +kernel
theorem m55_9 : smI 55 9 = some (.iastore, 10, 0, 0, 0, 0) := by decide +kernel
theorem m55_10 : smI 55 10 = some (.ldc_w 296, 13, 0, 0, 0, -1000000000) := by decide +kernel
theorem m55_13 : smI 55 13 = some (.iload_n 1, 14, 0, 0, 0, 0) := by decide +kernel
theorem m55_14 : smI 55 14 = some (.isub, 15, 0, 0, 0, 0) := by decide +kernel
theorem m55_15 : smI 55 15 = some (.ireturn, 16, 0, 0, 0, 0) := by decide +kernel
theorem m56_0 : smI 56 0 = some (.iload_n 1, 1, 0, 0, 0, 0) := by decide +kernel
theorem m56_1 : smI 56 1 = some (.bipush 7, 3, 0, 0, 0, 7) := by decide +kernel
theorem m56_3 : smI 56 3 = some (.invokestatic 69, 6, 0, 54, 2, 0) := by decide +kernel
theorem m56_6 : smI 56 6 = some (.ifCond .eq 12, 9, 0, 18, 0, 0) := by decide +kernel
theorem m56_9 : smI 56 9 = some (.iload_n 2, 10, 0, 0, 0, 0) := by decide +kernel
theorem m56_10 : smI 56 10 = some (.bipush 30, 12, 0, 0, 0, 30) := by decide +kernel
theorem m56_12 : smI 56 12 = some (.invokestatic 69, 15, 0, 54, 2, 0) := by decide +kernel
theorem m56_15 : smI 56 15 = some (.ifCond .ne 9, 18, 0, 24, 0, 0) := by decide +kernel
theorem m56_18 : smI 56 18 = some (.aload_n 0, 19, 0, 0, 0, 0) := by decide +kernel
theorem m56_19 : smI 56 19 = some (.iconst 1, 20, 0, 0, 0, 1) := by decide +kernel
theorem m56_20 : smI 56 20 = some (.invokevirtual 73, 23, 20, 55, 1, 0) := by decide +kernel
theorem m56_23 : smI 56 23 = some (.ireturn, 24, 0, 0, 0, 0) := by decide +kernel
theorem m56_24 : smI 56 24 = some (.aload_n 0, 25, 0, 0, 0, 0) := by decide +kernel
theorem m56_25 : smI 56 25 = some (.getfield 10, 28, 0, 6, 0, 0) := by decide +kernel
theorem m56_28 : smI 56 28 = some (.getfield 77, 31, 0, 4, 0, 0) := by decide +kernel
theorem m56_31 : smI 56 31 = some (.iload_n 1, 32, 0, 0, 0, 0) := by decide +kernel
theorem m56_32 : smI 56 32 = some (.iaload, 33, 0, 0, 0, 0) := by decide +kernel
theorem m56_33 : smI 56 33 = some (.istore_n 3, 34, 0, 0, 0, 0) := by decide +kernel
theorem m56_34 : smI 56 34 = some (.aload_n 0, 35, 0, 0, 0, 0) := by decide +kernel
theorem m56_35 : smI 56 35 = some (.getfield 10, 38, 0, 6, 0, 0) := by decide +kernel
theorem m56_38 : smI 56 38 = some (.getfield 77, 41, 0, 4, 0, 0) := by decide +kernel
theorem m56_41 : smI 56 41 = some (.iload_n 1, 42, 0, 0, 0, 0) := by decide +kernel
theorem m56_42 : smI 56 42 = some (.iload_n 2, 43, 0, 0, 0, 0) := by decide +kernel
theorem m56_43 : smI 56 43 = some (.iastore, 44, 0, 0, 0, 0) := by decide +kernel
theorem m56_44 : smI 56 44 = some (.iload_n 3, 45, 0, 0, 0, 0) := by decide +kernel
theorem m56_45 : smI 56 45 = some (.ireturn, 46, 0, 0, 0, 0) := by decide +kernel
theorem m57_0 : smI 57 0 = some (.iload_n 1, 1, 0, 0, 0, 0) := by decide +kernel
theorem m57_1 : smI 57 1 = some (.bipush 7, 3, 0, 0, 0, 7) := by decide +kernel
theorem m57_3 : smI 57 3 = some (.invokestatic 69, 6, 0, 54, 2, 0) := by decide +kernel
theorem m57_6 : smI 57 6 = some (.ifCond .ne 9, 9, 0, 15, 0, 0) := by decide +kernel
theorem m57_9 : smI 57 9 = some (.aload_n 0, 10, 0, 0, 0, 0) := by decide +kernel
theorem m57_10 : smI 57 10 = some (.iconst 1, 11, 0, 0, 0, 1) := by decide +kernel
theorem m57_11 : smI 57 11 = some (.invokevirtual 73, 14, 20, 55, 1, 0) := by decide +kernel
theorem m57_14 : smI 57 14 = some (.ireturn, 15, 0, 0, 0, 0) := by decide +kernel
theorem m57_15 : smI 57 15 = some (.aload_n 0, 16, 0, 0, 0, 0) := by decide +kernel
theorem m57_16 : smI 57 16 = some (.getfield 10, 19, 0, 6, 0, 0) := by decide +kernel
theorem m57_19 : smI 57 19 = some (.getfield 77, 22, 0, 4, 0, 0) := by decide +kernel
theorem m57_22 : smI 57 22 = some (.iload_n 1, 23, 0, 0, 0, 0) := by decide +kernel
theorem m57_23 : smI 57 23 = some (.iaload, 24, 0, 0, 0, 0) := by decide +kernel
theorem m57_24 : smI 57 24 = some (.ireturn, 25, 0, 0, 0, 0) := by decide +kernel
theorem m58_0 : smI 58 0 = some (.iload_n 1, 1, 0, 0, 0, 0) := by decide +kernel
theorem m58_1 : smI 58 1 = some (.iconst 1, 2, 0, 0, 0, 1) := by decide +kernel
theorem m58_2 : smI 58 2 = some (.if_icmp .lt 8, 5, 0, 10, 0, 0) := by decide +kernel
theorem m58_5 : smI 58 5 = some (.iload_n 1, 6, 0, 0, 0, 0) := by decide +kernel
theorem m58_6 : smI 58 6 = some (.iconst 4, 7, 0, 0, 0, 4) := by decide +kernel
theorem m58_7 : smI 58 7 = some (.if_icmp .le 9, 10, 0, 16, 0, 0) := by decide +kernel
theorem m58_10 : smI 58 10 = some (.aload_n 0, 11, 0, 0, 0, 0) := by decide +kernel
theorem m58_11 : smI 58 11 = some (.iconst 1, 12, 0, 0, 0, 1) := by decide +kernel
theorem m58_12 : smI 58 12 = some (.invokevirtual 73, 15, 20, 55, 1, 0) := by decide +kernel
theorem m58_15 : smI 58 15 = some (.ireturn, 16, 0, 0, 0, 0) := by decide +kernel
theorem m58_16 : smI 58 16 = some (.aload_n 0, 17, 0, 0, 0, 0) := by decide +kernel
theorem m58_17 : smI 58 17 = some (.getfield 10, 20, 0, 6, 0, 0) := by decide +kernel
theorem m58_20 : smI 58 20 = some (.getfield 80, 23, 0, 4, 8, 0) := by decide +kernel
theorem m58_23 : smI 58 23 = some (.istore_n 2, 24, 0, 0, 0, 0) := by decide +kernel
theorem m58_24 : smI 58 24 = some (.aload_n 0, 25, 0, 0, 0, 0) := by decide +kernel
theorem m58_25 : smI 58 25 = some (.getfield 10, 28, 0, 6, 0, 0) := by decide +kernel
theorem m58_28 : smI 58 28 = some (.iload_n 1, 29, 0, 0, 0, 0) := by decide +kernel
theorem m58_29 : smI 58 29 = some (.putfield 80, 32, 0, 4, 8, 0) := by decide +kernel
theorem m58_32 : smI 58 32 = some (.iload_n 2, 33, 0, 0, 0, 0) := by decide +kernel
theorem m58_33 : smI 58 33 = some (.ireturn, 34, 0, 0, 0, 0) := by decide +kernel
theorem m59_0 : smI 59 0 = some (.iload_n 1, 1, 0, 0, 0, 0) := by decide +kernel
theorem m59_1 : smI 59 1 = some (.bipush 69, 3, 0, 0, 0, 69) := by decide +kernel
theorem m59_3 : smI 59 3 = some (.invokestatic 69, 6, 0, 54, 2, 0) := by decide +kernel
theorem m59_6 : smI 59 6 = some (.ifCond .eq 21, 9, 0, 27, 0, 0) := by decide +kernel
theorem m59_9 : smI 59 9 = some (.iload_n 2, 10, 0, 0, 0, 0) := by decide +kernel
theorem m59_10 : smI 59 10 = some (.bipush 99, 12, 0, 0, 0, 99) := by decide +kernel
theorem m59_12 : smI 59 12 = some (.invokestatic 69, 15, 0, 54, 2, 0) := by decide +kernel
theorem m59_15 : smI 59 15 = some (.ifCond .eq 12, 18, 0, 27, 0, 0) := by decide +kernel
theorem m59_18 : smI 59 18 = some (.iload_n 3, 19, 0, 0, 0, 0) := by decide +kernel
theorem m59_19 : smI 59 19 = some (.bipush 9, 21, 0, 0, 0, 9) := by decide +kernel
theorem m59_21 : smI 59 21 = some (.invokestatic 69, 24, 0, 54, 2, 0) := by decide +kernel
theorem m59_24 : smI 59 24 = some (.ifCond .ne 9, 27, 0, 33, 0, 0) := by decide +kernel
theorem m59_27 : smI 59 27 = some (.aload_n 0, 28, 0, 0, 0, 0) := by decide +kernel
theorem m59_28 : smI 59 28 = some (.iconst 1, 29, 0, 0, 0, 1) := by decide +kernel
theorem m59_29 : smI 59 29 = some (.invokevirtual 73, 32, 20, 55, 1, 0) := by decide +kernel
theorem m59_32 : smI 59 32 = some (.ireturn, 33, 0, 0, 0, 0) := by decide +kernel
theorem m59_33 : smI 59 33 = some (.aload_n 0, 34, 0, 0, 0, 0) := by decide +kernel
theorem m59_34 : smI 59 34 = some (.getfield 10, 37, 0, 6, 0, 0) := by decide +kernel
theorem m59_37 : smI 59 37 = some (.getfield 83, 40, 0, 4, 10, 0) := by decide +kernel
theorem m59_40 : smI 59 40 = some (.bipush 8, 42, 0, 0, 0, 8) := by decide +kernel
theorem m59_42 : smI 59 42 = some (.if_icmp .lt 9, 45, 0, 51, 0, 0) := by decide +kernel
theorem m59_51 : smI 59 51 = some (.aload_n 0, 52, 0, 0, 0, 0) := by decide +kernel
theorem m59_52 : smI 59 52 = some (.getfield 10, 55, 0, 6, 0, 0) := by decide +kernel
theorem m59_55 : smI 59 55 = some (.getfield 83, 58, 0, 4, 10, 0) := by decide +kernel
theorem m59_58 : smI 59 58 = some (.istore 4, 60, 0, 0, 0, 0) := by decide +kernel
theorem m59_60 : smI 59 60 = some (.aload_n 0, 61, 0, 0, 0, 0) := by decide +kernel
theorem m59_61 : smI 59 61 = some (.getfield 10, 64, 0, 6, 0, 0) := by decide +kernel
theorem m59_64 : smI 59 64 = some (.getfield 86, 67, 0, 4, 1, 0) := by decide +kernel
theorem m59_67 : smI 59 67 = some (.iload 4, 69, 0, 0, 0, 0) := by decide +kernel
theorem m59_69 : smI 59 69 = some (.iload_n 1, 70, 0, 0, 0, 0) := by decide +kernel
theorem m59_70 : smI 59 70 = some (.bipush 10, 72, 0, 0, 0, 10) := by decide +kernel
theorem m59_72 : smI 59 72 = some (.idiv, 73, 0, 0, 0, 0) := by decide +kernel
theorem m59_73 : smI 59 73 = some (.iastore, 74, 0, 0, 0, 0) := by decide +kernel
theorem m59_74 : smI 59 74 = some (.aload_n 0, 75, 0, 0, 0, 0) := by decide +kernel
theorem m59_75 : smI 59 75 = some (.getfield 10, 78, 0, 6, 0, 0) := by decide +kernel
theorem m59_78 : smI 59 78 = some (.getfield 89, 81, 0, 4, 2, 0) := by decide +kernel
theorem m59_81 : smI 59 81 = some (.iload 4, 83, 0, 0, 0, 0) := by decide +kernel
theorem m59_83 : smI 59 83 = some (.iload_n 1, 84, 0, 0, 0, 0) := by decide +kernel
theorem m59_84 : smI 59 84 = some (.bipush 10, 86, 0, 0, 0, 10) := by decide +kernel
theorem m59_86 : smI 59 86 = some (.irem, 87, 0, 0, 0, 0) := by decide +kernel
theorem m59_87 : smI 59 87 = some (.iastore, 88, 0, 0, 0, 0) := by decide +kernel
theorem m59_88 : smI 59 88 = some (.aload_n 0, 89, 0, 0, 0, 0) := by decide +kernel
theorem m59_89 : smI 59 89 = some (.getfield 10, 92, 0, 6, 0, 0) := by decide +kernel
theorem m59_92 : smI 59 92 = some (.getfield 92, 95, 0, 4, 3, 0) := by decide +kernel
theorem m59_95 : smI 59 95 = some (.iload 4, 97, 0, 0, 0, 0) := by decide +kernel
theorem m59_97 : smI 59 97 = some (.iload_n 2, 98, 0, 0, 0, 0) := by decide +kernel
theorem m59_98 : smI 59 98 = some (.iastore, 99, 0, 0, 0, 0) := by decide +kernel
theorem m59_99 : smI 59 99 = some (.aload_n 0, 100, 0, 0, 0, 0) := by decide +kernel
theorem m59_100 : smI 59 100 = some (.getfield 10, 103, 0, 6, 0, 0) := by decide +kernel
theorem m59_103 : smI 59 103 = some (.getfield 95, 106, 0, 4, 4, 0) := by decide +kernel
theorem m59_106 : smI 59 106 = some (.iload 4, 108, 0, 0, 0, 0) := by decide +kernel
theorem m59_108 : smI 59 108 = some (.iload_n 3, 109, 0, 0, 0, 0) := by decide +kernel
theorem m59_109 : smI 59 109 = some (.iastore, 110, 0, 0, 0, 0) := by decide +kernel
theorem m59_110 : smI 59 110 = some (.aload_n 0, 111, 0, 0, 0, 0) := by decide +kernel
theorem m59_111 : smI 59 111 = some (.getfield 10, 114, 0, 6, 0, 0) := by decide +kernel
theorem m59_114 : smI 59 114 = some (.getfield 98, 117, 0, 4, 5, 0) := by decide +kernel
theorem m59_117 : smI 59 117 = some (.iload 4, 119, 0, 0, 0, 0) := by decide +kernel
theorem m59_119 : smI 59 119 = some (.iconst 0, 120, 0, 0, 0, 0) := by decide +kernel
theorem m59_120 : smI 59 120 = some (.iastore, 121, 0, 0, 0, 0) := by decide +kernel
theorem m59_121 : smI 59 121 = some (.aload_n 0, 122, 0, 0, 0, 0) := by decide +kernel
theorem m59_122 : smI 59 122 = some (.getfield 10, 125, 0, 6, 0, 0) := by decide +kernel
theorem m59_125 : smI 59 125 = some (.getfield 101, 128, 0, 4, 6, 0) := by decide +kernel
theorem m59_128 : smI 59 128 = some (.iload 4, 130, 0, 0, 0, 0) := by decide +kernel
theorem m59_130 : smI 59 130 = some (.iconst 0, 131, 0, 0, 0, 0) := by decide +kernel
theorem m59_131 : smI 59 131 = some (.bastore, 132, 0, 0, 0, 0) := by decide +kernel
theorem m59_132 : smI 59 132 = some (.aload_n 0, 133, 0, 0, 0, 0) := by decide +kernel
theorem m59_133 : smI 59 133 = some (.getfield 10, 136, 0, 6, 0, 0) := by decide +kernel
theorem m59_136 : smI 59 136 = some (.iload 4, 138, 0, 0, 0, 0) := by decide +kernel
theorem m59_138 : smI 59 138 = some (.iconst 1, 139, 0, 0, 0, 1) := by decide +kernel
theorem m59_139 : smI 59 139 = some (.iadd, 140, 0, 0, 0, 0) := by decide +kernel
theorem m59_140 : smI 59 140 = some (.putfield 83, 143, 0, 4, 10, 0) := by decide +kernel
theorem m59_143 : smI 59 143 = some (.iload 4, 145, 0, 0, 0, 0) := by decide +kernel
theorem m59_145 : smI 59 145 = some (.ireturn, 146, 0, 0, 0, 0) := by decide +kernel
theorem m60_0 : smI 60 0 = some (.iload_n 1, 1, 0, 0, 0, 0) := by decide +kernel
theorem m60_1 : smI 60 1 = some (.ifCond .lt 18, 4, 0, 19, 0, 0) := by decide +kernel
theorem m60_4 : smI 60 4 = some (.iload_n 1, 5, 0, 0, 0, 0) := by decide +kernel
theorem m60_5 : smI 60 5 = some (.aload_n 0, 6, 0, 0, 0, 0) := by decide +kernel
theorem m60_6 : smI 60 6 = some (.getfield 10, 9, 0, 6, 0, 0) := by decide +kernel
theorem m60_9 : smI 60 9 = some (.getfield 83, 12, 0, 4, 10, 0) := by decide +kernel
theorem m60_12 : smI 60 12 = some (.if_icmp .ge 7, 15, 0, 19, 0, 0) := by decide +kernel
theorem m60_19 : smI 60 19 = some (.iconst 0, 20, 0, 0, 0, 0) := by decide +kernel
theorem m60_20 : smI 60 20 = some (.ireturn, 21, 0, 0, 0, 0) := by decide +kernel
theorem m61_0 : smI 61 0 = some (.aload_n 0, 1, 0, 0, 0, 0) := by decide +kernel
theorem m61_1 : smI 61 1 = some (.iload_n 1, 2, 0, 0, 0, 0) := by decide +kernel
theorem m61_2 : smI 61 2 = some (.invokevirtual 105, 5, 20, 60, 1, 0) := by decide +kernel
theorem m61_5 : smI 61 5 = some (.ifCond .ne 9, 8, 0, 14, 0, 0) := by decide +kernel
theorem m61_8 : smI 61 8 = some (.aload_n 0, 9, 0, 0, 0, 0) := by decide +kernel
theorem m61_9 : smI 61 9 = some (.iconst 1, 10, 0, 0, 0, 1) := by decide +kernel
theorem m61_10 : smI 61 10 = some (.invokevirtual 73, 13, 20, 55, 1, 0) := by decide +kernel
theorem m61_13 : smI 61 13 = some (.ireturn, 14, 0, 0, 0, 0) := by decide +kernel
theorem m63_0 : smI 63 0 = some (.aload_n 0, 1, 0, 0, 0, 0) := by decide +kernel
theorem m63_1 : smI 63 1 = some (.iload_n 1, 2, 0, 0, 0, 0) := by decide +kernel
theorem m63_2 : smI 63 2 = some (.invokevirtual 105, 5, 20, 60, 1, 0) := by decide +kernel
theorem m63_5 : smI 63 5 = some (.ifCond .eq 22, 8, 0, 27, 0, 0) := by decide +kernel
theorem m63_27 : smI 63 27 = some (.aload_n 0, 28, 0, 0, 0, 0) := by decide +kernel
theorem m63_28 : smI 63 28 = some (.iconst 1, 29, 0, 0, 0, 1) := by decide +kernel
theorem m63_29 : smI 63 29 = some (.invokevirtual 73, 32, 20, 55, 1, 0) := by decide +kernel
theorem m63_32 : smI 63 32 = some (.ireturn, 33, 0, 0, 0, 0) := by decide +kernel
theorem m64_0 : smI 64 0 = some (.aload_n 0, 1, 0, 0, 0, 0) := by decide +kernel
theorem m64_1 : smI 64 1 = some (.iload_n 1, 2, 0, 0, 0, 0) := by decide +kernel
theorem m64_2 : smI 64 2 = some (.invokevirtual 105, 5, 20, 60, 1, 0) := by decide +kernel
theorem m64_5 : smI 64 5 = some (.ifCond .eq 12, 8, 0, 17, 0, 0) := by decide +kernel
theorem m64_17 : smI 64 17 = some (.aload_n 0, 18, 0, 0, 0, 0) := by decide +kernel
theorem m64_18 : smI 64 18 = some (.iconst 1, 19, 0, 0, 0, 1) := by decide +kernel
theorem m64_19 : smI 64 19 = some (.invokevirtual 73, 22, 20, 55, 1, 0) := by decide +kernel
theorem m64_22 : smI 64 22 = some (.ireturn, 23, 0, 0, 0, 0) := by decide +kernel
theorem m66_0 : smI 66 0 = some (.aload_n 0, 1, 0, 0, 0, 0) := by decide +kernel
theorem m66_1 : smI 66 1 = some (.iload_n 1, 2, 0, 0, 0, 0) := by decide +kernel
theorem m66_2 : smI 66 2 = some (.invokevirtual 105, 5, 20, 60, 1, 0) := by decide +kernel
theorem m66_5 : smI 66 5 = some (.ifCond .eq 12, 8, 0, 17, 0, 0) := by decide +kernel
theorem m66_17 : smI 66 17 = some (.aload_n 0, 18, 0, 0, 0, 0) := by decide +kernel
theorem m66_18 : smI 66 18 = some (.iconst 1, 19, 0, 0, 0, 1) := by decide +kernel
theorem m66_19 : smI 66 19 = some (.invokevirtual 73, 22, 20, 55, 1, 0) := by decide +kernel
theorem m66_22 : smI 66 22 = some (.ireturn, 23, 0, 0, 0, 0) := by decide +kernel
theorem m67_0 : smI 67 0 = some (.iload_n 3, 1, 0, 0, 0, 0) := by decide +kernel
theorem m67_1 : smI 67 1 = some (.iconst 1, 2, 0, 0, 0, 1) := by decide +kernel
theorem m67_2 : smI 67 2 = some (.if_icmp .lt 9, 5, 0, 11, 0, 0) := by decide +kernel
theorem m67_5 : smI 67 5 = some (.iload_n 3, 6, 0, 0, 0, 0) := by decide +kernel
theorem m67_6 : smI 67 6 = some (.bipush 8, 8, 0, 0, 0, 8) := by decide +kernel
theorem m67_8 : smI 67 8 = some (.if_icmp .le 9, 11, 0, 17, 0, 0) := by decide +kernel
theorem m67_11 : smI 67 11 = some (.aload_n 0, 12, 0, 0, 0, 0) := by decide +kernel
theorem m67_12 : smI 67 12 = some (.iconst 1, 13, 0, 0, 0, 1) := by decide +kernel
theorem m67_13 : smI 67 13 = some (.invokevirtual 73, 16, 20, 55, 1, 0) := by decide +kernel
theorem m67_16 : smI 67 16 = some (.ireturn, 17, 0, 0, 0, 0) := by decide +kernel
theorem m67_17 : smI 67 17 = some (.aload_n 0, 18, 0, 0, 0, 0) := by decide +kernel
theorem m67_18 : smI 67 18 = some (.getfield 28, 21, 0, 6, 4, 0) := by decide +kernel
theorem m67_21 : smI 67 21 = some (.getfield 121, 24, 0, 0, 2, 0) := by decide +kernel
theorem m67_24 : smI 67 24 = some (.bipush 50, 26, 0, 0, 0, 50) := by decide +kernel
theorem m67_26 : smI 67 26 = some (.iload_n 3, 27, 0, 0, 0, 0) := by decide +kernel
theorem m67_27 : smI 67 27 = some (.isub, 28, 0, 0, 0, 0) := by decide +kernel
theorem m67_28 : smI 67 28 = some (.if_icmp .le 9, 31, 0, 37, 0, 0) := by decide +kernel
theorem m67_37 : smI 67 37 = some (.iconst 0, 38, 0, 0, 0, 0) := by decide +kernel
theorem m67_38 : smI 67 38 = some (.istore 4, 40, 0, 0, 0, 0) := by decide +kernel
theorem m67_40 : smI 67 40 = some (.iload 4, 42, 0, 0, 0, 0) := by decide +kernel
theorem m67_42 : smI 67 42 = some (.iload_n 3, 43, 0, 0, 0, 0) := by decide +kernel
theorem m67_43 : smI 67 43 = some (.if_icmp .ge 49, 46, 0, 92, 0, 0) := by decide +kernel
theorem m67_46 : smI 67 46 = some (.aload_n 0, 47, 0, 0, 0, 0) := by decide +kernel
theorem m67_47 : smI 67 47 = some (.getfield 28, 50, 0, 6, 4, 0) := by decide +kernel
theorem m67_50 : smI 67 50 = some (.getfield 41, 53, 0, 0, 1, 0) := by decide +kernel
theorem m67_53 : smI 67 53 = some (.aload_n 0, 54, 0, 0, 0, 0) := by decide +kernel
theorem m67_54 : smI 67 54 = some (.getfield 28, 57, 0, 6, 4, 0) := by decide +kernel
theorem m67_57 : smI 67 57 = some (.getfield 121, 60, 0, 0, 2, 0) := by decide +kernel
theorem m67_60 : smI 67 60 = some (.lload_n 1, 61, 0, 0, 0, 0) := by decide +kernel
theorem m67_61 : smI 67 61 = some (.bipush 8, 63, 0, 0, 0, 8) := by decide +kernel
theorem m67_63 : smI 67 63 = some (.iload 4, 65, 0, 0, 0, 0) := by decide +kernel
theorem m67_65 : smI 67 65 = some (.imul, 66, 0, 0, 0, 0) := by decide +kernel
theorem m67_66 : smI 67 66 = some (.lushr, 67, 0, 0, 0, 0) := by decide +kernel
theorem m67_67 : smI 67 67 = some (.l2i, 68, 0, 0, 0, 0) := by decide +kernel
theorem m67_68 : smI 67 68 = some (.sipush 255, 71, 0, 0, 0, 255) := by decide +kernel
theorem m67_71 : smI 67 71 = some (.iand, 72, 0, 0, 0, 0) := by decide +kernel
theorem m67_72 : smI 67 72 = some (.iastore, 73, 0, 0, 0, 0) := by decide +kernel
theorem m67_73 : smI 67 73 = some (.aload_n 0, 74, 0, 0, 0, 0) := by decide +kernel
theorem m67_74 : smI 67 74 = some (.getfield 28, 77, 0, 6, 4, 0) := by decide +kernel
theorem m67_77 : smI 67 77 = some (.dup, 78, 0, 0, 0, 0) := by decide +kernel
theorem m67_78 : smI 67 78 = some (.getfield 121, 81, 0, 0, 2, 0) := by decide +kernel
theorem m67_81 : smI 67 81 = some (.iconst 1, 82, 0, 0, 0, 1) := by decide +kernel
theorem m67_82 : smI 67 82 = some (.iadd, 83, 0, 0, 0, 0) := by decide +kernel
theorem m67_83 : smI 67 83 = some (.putfield 121, 86, 0, 0, 2, 0) := by decide +kernel
theorem m67_86 : smI 67 86 = some (.iinc 4 1, 89, 0, 0, 0, 1) := by decide +kernel
theorem m67_89 : smI 67 89 = some (.goto (-49), 92, 0, 40, 0, 0) := by decide +kernel
theorem m67_92 : smI 67 92 = some (.aload_n 0, 93, 0, 0, 0, 0) := by decide +kernel
theorem m67_93 : smI 67 93 = some (.getfield 28, 96, 0, 6, 4, 0) := by decide +kernel
theorem m67_96 : smI 67 96 = some (.getfield 121, 99, 0, 0, 2, 0) := by decide +kernel
theorem m67_99 : smI 67 99 = some (.ireturn, 100, 0, 0, 0, 0) := by decide +kernel
theorem m68_0 : smI 68 0 = some (.iload_n 1, 1, 0, 0, 0, 0) := by decide +kernel
theorem m68_1 : smI 68 1 = some (.iconst 1, 2, 0, 0, 0, 1) := by decide +kernel
theorem m68_2 : smI 68 2 = some (.invokestatic 69, 5, 0, 54, 2, 0) := by decide +kernel
theorem m68_5 : smI 68 5 = some (.ifCond .ne 9, 8, 0, 14, 0, 0) := by decide +kernel
theorem m68_8 : smI 68 8 = some (.aload_n 0, 9, 0, 0, 0, 0) := by decide +kernel
theorem m68_9 : smI 68 9 = some (.iconst 1, 10, 0, 0, 0, 1) := by decide +kernel
theorem m68_10 : smI 68 10 = some (.invokevirtual 73, 13, 20, 55, 1, 0) := by decide +kernel
theorem m68_13 : smI 68 13 = some (.ireturn, 14, 0, 0, 0, 0) := by decide +kernel
theorem m68_14 : smI 68 14 = some (.aload_n 0, 15, 0, 0, 0, 0) := by decide +kernel
theorem m68_15 : smI 68 15 = some (.getfield 48, 18, 0, 6, 7, 0) := by decide +kernel
theorem m68_18 : smI 68 18 = some (.aload_n 0, 19, 0, 0, 0, 0) := by decide +kernel
theorem m68_19 : smI 68 19 = some (.getfield 28, 22, 0, 6, 4, 0) := by decide +kernel
theorem m68_22 : smI 68 22 = some (.getfield 121, 25, 0, 0, 2, 0) := by decide +kernel
theorem m68_25 : smI 68 25 = some (.iload_n 1, 26, 0, 0, 0, 0) := by decide +kernel
theorem m68_26 : smI 68 26 = some (.ifCond .ne 8, 29, 0, 34, 0, 0) := by decide +kernel
theorem m68_29 : smI 68 29 = some (.ldc 124, 31, 0, 3, 0, 0) := by decide +kernel
theorem m68_31 : smI 68 31 = some (.goto 5, 34, 0, 36, 0, 0) := by decide +kernel
theorem m68_34 : smI 68 34 = some (.ldc 126, 36, 0, 4, 0, 0) := by decide +kernel
theorem m68_36 : smI 68 36 = some (.invokevirtual 128, 39, 20, 25, 2, 0) := by decide +kernel
theorem m68_39 : smI 68 39 = some (.istore_n 2, 40, 0, 0, 0, 0) := by decide +kernel
theorem m68_40 : smI 68 40 = some (.aload_n 0, 41, 0, 0, 0, 0) := by decide +kernel
theorem m68_41 : smI 68 41 = some (.getfield 28, 44, 0, 6, 4, 0) := by decide +kernel
theorem m68_44 : smI 68 44 = some (.iconst 0, 45, 0, 0, 0, 0) := by decide +kernel
theorem m68_45 : smI 68 45 = some (.putfield 121, 48, 0, 0, 2, 0) := by decide +kernel
theorem m68_48 : smI 68 48 = some (.iload_n 2, 49, 0, 0, 0, 0) := by decide +kernel
theorem m68_49 : smI 68 49 = some (.ifCond .lt 8, 52, 0, 57, 0, 0) := by decide +kernel
theorem m68_52 : smI 68 52 = some (.bipush (-10), 54, 0, 0, 0, -10) := by decide +kernel
theorem m68_54 : smI 68 54 = some (.iload_n 2, 55, 0, 0, 0, 0) := by decide +kernel
theorem m68_55 : smI 68 55 = some (.isub, 56, 0, 0, 0, 0) := by decide +kernel
theorem m68_56 : smI 68 56 = some (.ireturn, 57, 0, 0, 0, 0) := by decide +kernel
theorem m69_0 : smI 69 0 = some (.iload_n 1, 1, 0, 0, 0, 0) := by decide +kernel
theorem m69_1 : smI 69 1 = some (.iconst 1, 2, 0, 0, 0, 1) := by decide +kernel
theorem m69_2 : smI 69 2 = some (.invokestatic 69, 5, 0, 54, 2, 0) := by decide +kernel
theorem m69_5 : smI 69 5 = some (.ifCond .ne 9, 8, 0, 14, 0, 0) := by decide +kernel
theorem m69_8 : smI 69 8 = some (.aload_n 0, 9, 0, 0, 0, 0) := by decide +kernel
theorem m69_9 : smI 69 9 = some (.iconst 1, 10, 0, 0, 0, 1) := by decide +kernel
theorem m69_10 : smI 69 10 = some (.invokevirtual 73, 13, 20, 55, 1, 0) := by decide +kernel
theorem m69_13 : smI 69 13 = some (.ireturn, 14, 0, 0, 0, 0) := by decide +kernel
theorem m69_14 : smI 69 14 = some (.iload_n 1, 15, 0, 0, 0, 0) := by decide +kernel
theorem m69_15 : smI 69 15 = some (.ifCond .ne 17, 18, 0, 32, 0, 0) := by decide +kernel
theorem m69_18 : smI 69 18 = some (.aload_n 0, 19, 0, 0, 0, 0) := by decide +kernel
theorem m69_19 : smI 69 19 = some (.getfield 10, 22, 0, 6, 0, 0) := by decide +kernel
theorem m69_22 : smI 69 22 = some (.iload_n 2, 23, 0, 0, 0, 0) := by decide +kernel
theorem m69_23 : smI 69 23 = some (.iload_n 3, 24, 0, 0, 0, 0) := by decide +kernel
theorem m69_24 : smI 69 24 = some (.iload 4, 26, 0, 0, 0, 0) := by decide +kernel
theorem m69_26 : smI 69 26 = some (.invokevirtual 150, 29, 20, 32, 3, 0) := by decide +kernel
theorem m69_29 : smI 69 29 = some (.goto 14, 32, 0, 43, 0, 0) := by decide +kernel
theorem m69_32 : smI 69 32 = some (.aload_n 0, 33, 0, 0, 0, 0) := by decide +kernel
theorem m69_33 : smI 69 33 = some (.getfield 10, 36, 0, 6, 0, 0) := by decide +kernel
theorem m69_36 : smI 69 36 = some (.iload_n 2, 37, 0, 0, 0, 0) := by decide +kernel
theorem m69_37 : smI 69 37 = some (.iload_n 3, 38, 0, 0, 0, 0) := by decide +kernel
theorem m69_38 : smI 69 38 = some (.iload 4, 40, 0, 0, 0, 0) := by decide +kernel
theorem m69_40 : smI 69 40 = some (.invokevirtual 154, 43, 20, 33, 3, 0) := by decide +kernel
theorem m69_43 : smI 69 43 = some (.ireturn, 44, 0, 0, 0, 0) := by decide +kernel
theorem m70_0 : smI 70 0 = some (.iload_n 1, 1, 0, 0, 0, 0) := by decide +kernel
theorem m70_1 : smI 70 1 = some (.iconst 1, 2, 0, 0, 0, 1) := by decide +kernel
theorem m70_2 : smI 70 2 = some (.if_icmp .lt 9, 5, 0, 11, 0, 0) := by decide +kernel
theorem m70_5 : smI 70 5 = some (.iload_n 1, 6, 0, 0, 0, 0) := by decide +kernel
theorem m70_6 : smI 70 6 = some (.bipush 60, 8, 0, 0, 0, 60) := by decide +kernel
theorem m70_8 : smI 70 8 = some (.if_icmp .le 9, 11, 0, 17, 0, 0) := by decide +kernel
theorem m70_11 : smI 70 11 = some (.aload_n 0, 12, 0, 0, 0, 0) := by decide +kernel
theorem m70_12 : smI 70 12 = some (.iconst 1, 13, 0, 0, 0, 1) := by decide +kernel
theorem m70_13 : smI 70 13 = some (.invokevirtual 73, 16, 20, 55, 1, 0) := by decide +kernel
theorem m70_16 : smI 70 16 = some (.ireturn, 17, 0, 0, 0, 0) := by decide +kernel
theorem m70_17 : smI 70 17 = some (.aload_n 0, 18, 0, 0, 0, 0) := by decide +kernel
theorem m70_18 : smI 70 18 = some (.getfield 10, 21, 0, 6, 0, 0) := by decide +kernel
theorem m70_21 : smI 70 21 = some (.getfield 157, 24, 0, 4, 9, 0) := by decide +kernel
theorem m70_24 : smI 70 24 = some (.sipush 9999, 27, 0, 0, 0, 9999) := by decide +kernel
theorem m70_27 : smI 70 27 = some (.iload_n 1, 28, 0, 0, 0, 0) := by decide +kernel
theorem m70_28 : smI 70 28 = some (.isub, 29, 0, 0, 0, 0) := by decide +kernel
theorem m70_29 : smI 70 29 = some (.if_icmp .le 9, 32, 0, 38, 0, 0) := by decide +kernel
theorem m70_38 : smI 70 38 = some (.aload_n 0, 39, 0, 0, 0, 0) := by decide +kernel
theorem m70_39 : smI 70 39 = some (.getfield 10, 42, 0, 6, 0, 0) := by decide +kernel
theorem m70_42 : smI 70 42 = some (.iload_n 1, 43, 0, 0, 0, 0) := by decide +kernel
theorem m70_43 : smI 70 43 = some (.invokevirtual 160, 46, 20, 41, 1, 0) := by decide +kernel
theorem m70_46 : smI 70 46 = some (.aload_n 0, 47, 0, 0, 0, 0) := by decide +kernel
theorem m70_47 : smI 70 47 = some (.getfield 10, 50, 0, 6, 0, 0) := by decide +kernel
theorem m70_50 : smI 70 50 = some (.invokevirtual 164, 53, 20, 45, 0, 0) := by decide +kernel
theorem m70_53 : smI 70 53 = some (.ireturn, 54, 0, 0, 0, 0) := by decide +kernel
theorem m72_0 : smI 72 0 = some (.iload_n 1, 1, 0, 0, 0, 0) := by decide +kernel
theorem m72_1 : smI 72 1 = some (.iconst 1, 2, 0, 0, 0, 1) := by decide +kernel
theorem m72_2 : smI 72 2 = some (.if_icmp .lt 9, 5, 0, 11, 0, 0) := by decide +kernel
theorem m72_5 : smI 72 5 = some (.iload_n 1, 6, 0, 0, 0, 0) := by decide +kernel
theorem m72_6 : smI 72 6 = some (.bipush 40, 8, 0, 0, 0, 40) := by decide +kernel
theorem m72_8 : smI 72 8 = some (.if_icmp .le 9, 11, 0, 17, 0, 0) := by decide +kernel
theorem m72_11 : smI 72 11 = some (.aload_n 0, 12, 0, 0, 0, 0) := by decide +kernel
theorem m72_12 : smI 72 12 = some (.iconst 1, 13, 0, 0, 0, 1) := by decide +kernel
theorem m72_13 : smI 72 13 = some (.invokevirtual 73, 16, 20, 55, 1, 0) := by decide +kernel
theorem m72_16 : smI 72 16 = some (.ireturn, 17, 0, 0, 0, 0) := by decide +kernel
theorem m72_17 : smI 72 17 = some (.aload_n 0, 18, 0, 0, 0, 0) := by decide +kernel
theorem m72_18 : smI 72 18 = some (.getfield 10, 21, 0, 6, 0, 0) := by decide +kernel
theorem m72_21 : smI 72 21 = some (.getfield 157, 24, 0, 4, 9, 0) := by decide +kernel
theorem m72_24 : smI 72 24 = some (.sipush 9999, 27, 0, 0, 0, 9999) := by decide +kernel
theorem m72_27 : smI 72 27 = some (.iload_n 1, 28, 0, 0, 0, 0) := by decide +kernel
theorem m72_28 : smI 72 28 = some (.isub, 29, 0, 0, 0, 0) := by decide +kernel
theorem m72_29 : smI 72 29 = some (.if_icmp .le 9, 32, 0, 38, 0, 0) := by decide +kernel
theorem m72_38 : smI 72 38 = some (.iconst 0, 39, 0, 0, 0, 0) := by decide +kernel
theorem m72_39 : smI 72 39 = some (.istore_n 2, 40, 0, 0, 0, 0) := by decide +kernel
theorem m72_63 : smI 72 63 = some (.aload_n 0, 64, 0, 0, 0, 0) := by decide +kernel
theorem m72_64 : smI 72 64 = some (.getfield 10, 67, 0, 6, 0, 0) := by decide +kernel
theorem m72_67 : smI 72 67 = some (.invokevirtual 164, 70, 20, 45, 0, 0) := by decide +kernel
theorem m72_70 : smI 72 70 = some (.ireturn, 71, 0, 0, 0, 0) := by decide +kernel
theorem m73_0 : smI 73 0 = some (.aload_n 0, 1, 0, 0, 0, 0) := by decide +kernel
theorem m73_1 : smI 73 1 = some (.getfield 10, 4, 0, 6, 0, 0) := by decide +kernel
theorem m73_4 : smI 73 4 = some (.invokevirtual 177, 7, 20, 36, 0, 0) := by decide +kernel
theorem m73_7 : smI 73 7 = some (.aload_n 0, 8, 0, 0, 0, 0) := by decide +kernel
theorem m73_8 : smI 73 8 = some (.getfield 10, 11, 0, 6, 0, 0) := by decide +kernel
theorem m73_11 : smI 73 11 = some (.invokevirtual 180, 14, 20, 38, 0, 0) := by decide +kernel
theorem m73_14 : smI 73 14 = some (.ireturn, 15, 0, 0, 0, 0) := by decide +kernel
theorem m75_0 : smI 75 0 = some (.iload_n 1, 1, 0, 0, 0, 0) := by decide +kernel
theorem m75_1 : smI 75 1 = some (.bipush 60, 3, 0, 0, 0, 60) := by decide +kernel
theorem m75_3 : smI 75 3 = some (.invokestatic 69, 6, 0, 54, 2, 0) := by decide +kernel
theorem m75_6 : smI 75 6 = some (.ifCond .eq 19, 9, 0, 25, 0, 0) := by decide +kernel
theorem m75_9 : smI 75 9 = some (.aload_n 0, 10, 0, 0, 0, 0) := by decide +kernel
theorem m75_10 : smI 75 10 = some (.iload_n 2, 11, 0, 0, 0, 0) := by decide +kernel
theorem m75_11 : smI 75 11 = some (.invokevirtual 105, 14, 20, 60, 1, 0) := by decide +kernel
theorem m75_14 : smI 75 14 = some (.ifCond .eq 11, 17, 0, 25, 0, 0) := by decide +kernel
theorem m75_25 : smI 75 25 = some (.aload_n 0, 26, 0, 0, 0, 0) := by decide +kernel
theorem m75_26 : smI 75 26 = some (.iconst 1, 27, 0, 0, 0, 1) := by decide +kernel
theorem m75_27 : smI 75 27 = some (.invokevirtual 73, 30, 20, 55, 1, 0) := by decide +kernel
theorem m75_30 : smI 75 30 = some (.ireturn, 31, 0, 0, 0, 0) := by decide +kernel
theorem m76_0 : smI 76 0 = some (.aload_n 0, 1, 0, 0, 0, 0) := by decide +kernel
theorem m76_1 : smI 76 1 = some (.iload_n 1, 2, 0, 0, 0, 0) := by decide +kernel
theorem m76_2 : smI 76 2 = some (.invokevirtual 105, 5, 20, 60, 1, 0) := by decide +kernel
theorem m76_5 : smI 76 5 = some (.ifCond .ne 9, 8, 0, 14, 0, 0) := by decide +kernel
theorem m76_8 : smI 76 8 = some (.aload_n 0, 9, 0, 0, 0, 0) := by decide +kernel
theorem m76_9 : smI 76 9 = some (.iconst 1, 10, 0, 0, 0, 1) := by decide +kernel
theorem m76_10 : smI 76 10 = some (.invokevirtual 73, 13, 20, 55, 1, 0) := by decide +kernel
theorem m76_13 : smI 76 13 = some (.ireturn, 14, 0, 0, 0, 0) := by decide +kernel
theorem m77_0 : smI 77 0 = some (.aload_n 0, 1, 0, 0, 0, 0) := by decide +kernel
theorem m77_1 : smI 77 1 = some (.invokevirtual 183, 4, 20, 74, 0, 0) := by decide +kernel
theorem m77_4 : smI 77 4 = some (.astore_n 1, 5, 0, 0, 0, 0) := by decide +kernel
theorem m77_5 : smI 77 5 = some (.aload_n 1, 6, 0, 0, 0, 0) := by decide +kernel
theorem m77_6 : smI 77 6 = some (.bipush 60, 8, 0, 0, 0, 60) := by decide +kernel
theorem m77_8 : smI 77 8 = some (.invokevirtual 160, 11, 20, 41, 1, 0) := by decide +kernel
theorem m77_11 : smI 77 11 = some (.iconst 0, 12, 0, 0, 0, 0) := by decide +kernel
theorem m77_12 : smI 77 12 = some (.istore_n 2, 13, 0, 0, 0, 0) := by decide +kernel
theorem m77_13 : smI 77 13 = some (.iconst 0, 14, 0, 0, 0, 0) := by decide +kernel
theorem m77_14 : smI 77 14 = some (.istore_n 3, 15, 0, 0, 0, 0) := by decide +kernel
theorem m77_15 : smI 77 15 = some (.iload_n 3, 16, 0, 0, 0, 0) := by decide +kernel
theorem m77_16 : smI 77 16 = some (.aload_n 0, 17, 0, 0, 0, 0) := by decide +kernel
theorem m77_17 : smI 77 17 = some (.getfield 10, 20, 0, 6, 0, 0) := by decide +kernel
theorem m77_20 : smI 77 20 = some (.getfield 83, 23, 0, 4, 10, 0) := by decide +kernel
theorem m77_23 : smI 77 23 = some (.if_icmp .ge 33, 26, 0, 56, 0, 0) := by decide +kernel
theorem m77_56 : smI 77 56 = some (.iload_n 2, 57, 0, 0, 0, 0) := by decide +kernel
theorem m77_57 : smI 77 57 = some (.ireturn, 58, 0, 0, 0, 0) := by decide +kernel
theorem m78_0 : smI 78 0 = some (.aload_n 0, 1, 0, 0, 0, 0) := by decide +kernel
theorem m78_1 : smI 78 1 = some (.iload_n 1, 2, 0, 0, 0, 0) := by decide +kernel
theorem m78_2 : smI 78 2 = some (.invokevirtual 105, 5, 20, 60, 1, 0) := by decide +kernel
theorem m78_5 : smI 78 5 = some (.ifCond .eq 14, 8, 0, 19, 0, 0) := by decide +kernel
theorem m78_19 : smI 78 19 = some (.aload_n 0, 20, 0, 0, 0, 0) := by decide +kernel
theorem m78_20 : smI 78 20 = some (.iconst 1, 21, 0, 0, 0, 1) := by decide +kernel
theorem m78_21 : smI 78 21 = some (.invokevirtual 73, 24, 20, 55, 1, 0) := by decide +kernel
theorem m78_24 : smI 78 24 = some (.ireturn, 25, 0, 0, 0, 0) := by decide +kernel
theorem m79_0 : smI 79 0 = some (.iconst 0, 1, 0, 0, 0, 0) := by decide +kernel
theorem m79_1 : smI 79 1 = some (.istore_n 3, 2, 0, 0, 0, 0) := by decide +kernel
theorem m79_2 : smI 79 2 = some (.iload_n 3, 3, 0, 0, 0, 0) := by decide +kernel
theorem m79_3 : smI 79 3 = some (.aload_n 0, 4, 0, 0, 0, 0) := by decide +kernel
theorem m79_4 : smI 79 4 = some (.getfield 10, 7, 0, 6, 0, 0) := by decide +kernel
theorem m79_7 : smI 79 7 = some (.getfield 83, 10, 0, 4, 10, 0) := by decide +kernel
theorem m79_10 : smI 79 10 = some (.if_icmp .ge 37, 13, 0, 47, 0, 0) := by decide +kernel
theorem m79_47 : smI 79 47 = some (.iconst 1, 48, 0, 0, 0, 1) := by decide +kernel
theorem m79_48 : smI 79 48 = some (.ireturn, 49, 0, 0, 0, 0) := by decide +kernel
theorem m80_0 : smI 80 0 = some (.iload_n 1, 1, 0, 0, 0, 0) := by decide +kernel
theorem m80_1 : smI 80 1 = some (.aload_n 0, 2, 0, 0, 0, 0) := by decide +kernel
theorem m80_2 : smI 80 2 = some (.getfield 10, 5, 0, 6, 0, 0) := by decide +kernel
theorem m80_5 : smI 80 5 = some (.getfield 83, 8, 0, 4, 10, 0) := by decide +kernel
theorem m80_8 : smI 80 8 = some (.iushr, 9, 0, 0, 0, 0) := by decide +kernel
theorem m80_9 : smI 80 9 = some (.ifCond .ne 14, 12, 0, 23, 0, 0) := by decide +kernel
theorem m80_12 : smI 80 12 = some (.iload_n 2, 13, 0, 0, 0, 0) := by decide +kernel
theorem m80_13 : smI 80 13 = some (.iconst 1, 14, 0, 0, 0, 1) := by decide +kernel
theorem m80_14 : smI 80 14 = some (.if_icmp .lt 9, 17, 0, 23, 0, 0) := by decide +kernel
theorem m80_17 : smI 80 17 = some (.iload_n 2, 18, 0, 0, 0, 0) := by decide +kernel
theorem m80_18 : smI 80 18 = some (.bipush 60, 20, 0, 0, 0, 60) := by decide +kernel
theorem m80_20 : smI 80 20 = some (.if_icmp .le 9, 23, 0, 29, 0, 0) := by decide +kernel
theorem m80_23 : smI 80 23 = some (.aload_n 0, 24, 0, 0, 0, 0) := by decide +kernel
theorem m80_24 : smI 80 24 = some (.iconst 1, 25, 0, 0, 0, 1) := by decide +kernel
theorem m80_25 : smI 80 25 = some (.invokevirtual 73, 28, 20, 55, 1, 0) := by decide +kernel
theorem m80_28 : smI 80 28 = some (.ireturn, 29, 0, 0, 0, 0) := by decide +kernel
theorem m80_29 : smI 80 29 = some (.iconst 0, 30, 0, 0, 0, 0) := by decide +kernel
theorem m80_30 : smI 80 30 = some (.istore_n 3, 31, 0, 0, 0, 0) := by decide +kernel
theorem m80_31 : smI 80 31 = some (.iload_n 3, 32, 0, 0, 0, 0) := by decide +kernel
theorem m80_32 : smI 80 32 = some (.bipush 10, 34, 0, 0, 0, 10) := by decide +kernel
theorem m80_34 : smI 80 34 = some (.if_icmp .ge 40, 37, 0, 74, 0, 0) := by decide +kernel
theorem m80_37 : smI 80 37 = some (.aload_n 0, 38, 0, 0, 0, 0) := by decide +kernel
theorem m80_38 : smI 80 38 = some (.invokevirtual 183, 41, 20, 74, 0, 0) := by decide +kernel
theorem m80_41 : smI 80 41 = some (.astore 4, 43, 0, 0, 0, 0) := by decide +kernel
theorem m80_43 : smI 80 43 = some (.aload 4, 45, 0, 0, 0, 0) := by decide +kernel
theorem m80_45 : smI 80 45 = some (.iload_n 1, 46, 0, 0, 0, 0) := by decide +kernel
theorem m80_46 : smI 80 46 = some (.iload_n 3, 47, 0, 0, 0, 0) := by decide +kernel
theorem m80_47 : smI 80 47 = some (.invokevirtual 195, 50, 20, 44, 2, 0) := by decide +kernel
theorem m80_50 : smI 80 50 = some (.aload 4, 52, 0, 0, 0, 0) := by decide +kernel
theorem m80_52 : smI 80 52 = some (.iload_n 2, 53, 0, 0, 0, 0) := by decide +kernel
theorem m80_53 : smI 80 53 = some (.invokevirtual 160, 56, 20, 41, 1, 0) := by decide +kernel
theorem m80_56 : smI 80 56 = some (.aload_n 0, 57, 0, 0, 0, 0) := by decide +kernel
theorem m80_57 : smI 80 57 = some (.aload 4, 59, 0, 0, 0, 0) := by decide +kernel
theorem m80_59 : smI 80 59 = some (.iload_n 1, 60, 0, 0, 0, 0) := by decide +kernel
theorem m80_60 : smI 80 60 = some (.invokevirtual 199, 63, 20, 79, 2, 0) := by decide +kernel
theorem m80_63 : smI 80 63 = some (.ifCond .eq 5, 66, 0, 68, 0, 0) := by decide +kernel
theorem m80_66 : smI 80 66 = some (.iload_n 3, 67, 0, 0, 0, 0) := by decide +kernel
theorem m80_67 : smI 80 67 = some (.ireturn, 68, 0, 0, 0, 0) := by decide +kernel
theorem m82_0 : smI 82 0 = some (.iload_n 1, 1, 0, 0, 0, 0) := by decide +kernel
theorem m82_1 : smI 82 1 = some (.iconst 3, 2, 0, 0, 0, 3) := by decide +kernel
theorem m82_2 : smI 82 2 = some (.invokestatic 69, 5, 0, 54, 2, 0) := by decide +kernel
theorem m82_5 : smI 82 5 = some (.ifCond .eq 11, 8, 0, 16, 0, 0) := by decide +kernel
theorem m82_8 : smI 82 8 = some (.iload_n 2, 9, 0, 0, 0, 0) := by decide +kernel
theorem m82_9 : smI 82 9 = some (.iconst 1, 10, 0, 0, 0, 1) := by decide +kernel
theorem m82_10 : smI 82 10 = some (.invokestatic 69, 13, 0, 54, 2, 0) := by decide +kernel
theorem m82_13 : smI 82 13 = some (.ifCond .ne 9, 16, 0, 22, 0, 0) := by decide +kernel
theorem m82_16 : smI 82 16 = some (.aload_n 0, 17, 0, 0, 0, 0) := by decide +kernel
theorem m82_17 : smI 82 17 = some (.iconst 1, 18, 0, 0, 0, 1) := by decide +kernel
theorem m82_18 : smI 82 18 = some (.invokevirtual 73, 21, 20, 55, 1, 0) := by decide +kernel
theorem m82_21 : smI 82 21 = some (.ireturn, 22, 0, 0, 0, 0) := by decide +kernel
theorem m82_22 : smI 82 22 = some (.aload_n 0, 23, 0, 0, 0, 0) := by decide +kernel
theorem m82_23 : smI 82 23 = some (.getfield 62, 26, 0, 6, 9, 0) := by decide +kernel
theorem m82_26 : smI 82 26 = some (.iload_n 1, 27, 0, 0, 0, 0) := by decide +kernel
theorem m82_27 : smI 82 27 = some (.aaload, 28, 0, 0, 0, 0) := by decide +kernel
theorem m82_28 : smI 82 28 = some (.astore_n 3, 29, 0, 0, 0, 0) := by decide +kernel
theorem m82_29 : smI 82 29 = some (.aload_n 3, 30, 0, 0, 0, 0) := by decide +kernel
theorem m82_30 : smI 82 30 = some (.getfield 206, 33, 0, 3, 0, 0) := by decide +kernel
theorem m82_33 : smI 82 33 = some (.ifCond .ne 9, 36, 0, 42, 0, 0) := by decide +kernel
theorem m82_36 : smI 82 36 = some (.aload_n 0, 37, 0, 0, 0, 0) := by decide +kernel
theorem m82_37 : smI 82 37 = some (.iconst 2, 38, 0, 0, 0, 2) := by decide +kernel
theorem m82_38 : smI 82 38 = some (.invokevirtual 73, 41, 20, 55, 1, 0) := by decide +kernel
theorem m82_41 : smI 82 41 = some (.ireturn, 42, 0, 0, 0, 0) := by decide +kernel
theorem m83_0 : smI 83 0 = some (.aload_n 0, 1, 0, 0, 0, 0) := by decide +kernel
theorem m83_1 : smI 83 1 = some (.iload_n 1, 2, 0, 0, 0, 0) := by decide +kernel
theorem m83_2 : smI 83 2 = some (.invokevirtual 105, 5, 20, 60, 1, 0) := by decide +kernel
theorem m83_5 : smI 83 5 = some (.ifCond .ne 9, 8, 0, 14, 0, 0) := by decide +kernel
theorem m83_8 : smI 83 8 = some (.aload_n 0, 9, 0, 0, 0, 0) := by decide +kernel
theorem m83_9 : smI 83 9 = some (.iconst 1, 10, 0, 0, 0, 1) := by decide +kernel
theorem m83_10 : smI 83 10 = some (.invokevirtual 73, 13, 20, 55, 1, 0) := by decide +kernel
theorem m83_13 : smI 83 13 = some (.ireturn, 14, 0, 0, 0, 0) := by decide +kernel
theorem m84_0 : smI 84 0 = some (.aload_n 0, 1, 0, 0, 0, 0) := by decide +kernel
theorem m84_1 : smI 84 1 = some (.iload_n 1, 2, 0, 0, 0, 0) := by decide +kernel
theorem m84_2 : smI 84 2 = some (.invokevirtual 105, 5, 20, 60, 1, 0) := by decide +kernel
theorem m84_5 : smI 84 5 = some (.ifCond .eq 12, 8, 0, 17, 0, 0) := by decide +kernel
theorem m84_17 : smI 84 17 = some (.aload_n 0, 18, 0, 0, 0, 0) := by decide +kernel
theorem m84_18 : smI 84 18 = some (.iconst 1, 19, 0, 0, 0, 1) := by decide +kernel
theorem m84_19 : smI 84 19 = some (.invokevirtual 73, 22, 20, 55, 1, 0) := by decide +kernel
theorem m84_22 : smI 84 22 = some (.ireturn, 23, 0, 0, 0, 0) := by decide +kernel
theorem m85_0 : smI 85 0 = some (.aload_n 0, 1, 0, 0, 0, 0) := by decide +kernel
theorem m85_1 : smI 85 1 = some (.iload_n 1, 2, 0, 0, 0, 0) := by decide +kernel
theorem m85_2 : smI 85 2 = some (.invokevirtual 105, 5, 20, 60, 1, 0) := by decide +kernel
theorem m85_5 : smI 85 5 = some (.ifCond .eq 12, 8, 0, 17, 0, 0) := by decide +kernel
theorem m85_17 : smI 85 17 = some (.aload_n 0, 18, 0, 0, 0, 0) := by decide +kernel
theorem m85_18 : smI 85 18 = some (.iconst 1, 19, 0, 0, 0, 1) := by decide +kernel
theorem m85_19 : smI 85 19 = some (.invokevirtual 73, 22, 20, 55, 1, 0) := by decide +kernel
theorem m85_22 : smI 85 22 = some (.ireturn, 23, 0, 0, 0, 0) := by decide +kernel
theorem m86_0 : smI 86 0 = some (.iload_n 1, 1, 0, 0, 0, 0) := by decide +kernel
theorem m86_1 : smI 86 1 = some (.iconst 1, 2, 0, 0, 0, 1) := by decide +kernel
theorem m86_2 : smI 86 2 = some (.if_icmp .lt 18, 5, 0, 20, 0, 0) := by decide +kernel
theorem m86_5 : smI 86 5 = some (.iload_n 1, 6, 0, 0, 0, 0) := by decide +kernel
theorem m86_6 : smI 86 6 = some (.bipush 99, 8, 0, 0, 0, 99) := by decide +kernel
theorem m86_8 : smI 86 8 = some (.if_icmp .gt 12, 11, 0, 20, 0, 0) := by decide +kernel
theorem m86_11 : smI 86 11 = some (.iload_n 2, 12, 0, 0, 0, 0) := by decide +kernel
theorem m86_12 : smI 86 12 = some (.bipush 60, 14, 0, 0, 0, 60) := by decide +kernel
theorem m86_14 : smI 86 14 = some (.invokestatic 69, 17, 0, 54, 2, 0) := by decide +kernel
theorem m86_17 : smI 86 17 = some (.ifCond .ne 9, 20, 0, 26, 0, 0) := by decide +kernel
theorem m86_20 : smI 86 20 = some (.aload_n 0, 21, 0, 0, 0, 0) := by decide +kernel
theorem m86_21 : smI 86 21 = some (.iconst 1, 22, 0, 0, 0, 1) := by decide +kernel
theorem m86_22 : smI 86 22 = some (.invokevirtual 73, 25, 20, 55, 1, 0) := by decide +kernel
theorem m86_25 : smI 86 25 = some (.ireturn, 26, 0, 0, 0, 0) := by decide +kernel
theorem m86_26 : smI 86 26 = some (.iconst 1, 27, 0, 0, 0, 1) := by decide +kernel
theorem m86_27 : smI 86 27 = some (.istore_n 3, 28, 0, 0, 0, 0) := by decide +kernel
theorem m86_28 : smI 86 28 = some (.iload_n 3, 29, 0, 0, 0, 0) := by decide +kernel
theorem m86_29 : smI 86 29 = some (.iconst 4, 30, 0, 0, 0, 4) := by decide +kernel
theorem m86_30 : smI 86 30 = some (.if_icmp .gt 38, 33, 0, 68, 0, 0) := by decide +kernel
theorem m86_33 : smI 86 33 = some (.aload_n 0, 34, 0, 0, 0, 0) := by decide +kernel
theorem m86_34 : smI 86 34 = some (.invokevirtual 183, 37, 20, 74, 0, 0) := by decide +kernel
theorem m86_37 : smI 86 37 = some (.astore 4, 39, 0, 0, 0, 0) := by decide +kernel
theorem m86_39 : smI 86 39 = some (.aload 4, 41, 0, 0, 0, 0) := by decide +kernel
theorem m86_41 : smI 86 41 = some (.iload_n 3, 42, 0, 0, 0, 0) := by decide +kernel
theorem m86_42 : smI 86 42 = some (.putfield 80, 45, 0, 4, 8, 0) := by decide +kernel
theorem m86_45 : smI 86 45 = some (.aload 4, 47, 0, 0, 0, 0) := by decide +kernel
theorem m86_47 : smI 86 47 = some (.iload_n 2, 48, 0, 0, 0, 0) := by decide +kernel
theorem m86_48 : smI 86 48 = some (.invokevirtual 160, 51, 20, 41, 1, 0) := by decide +kernel
theorem m86_51 : smI 86 51 = some (.aload 4, 53, 0, 0, 0, 0) := by decide +kernel
theorem m86_53 : smI 86 53 = some (.invokevirtual 226, 56, 20, 46, 0, 0) := by decide +kernel
theorem m86_56 : smI 86 56 = some (.iload_n 1, 57, 0, 0, 0, 0) := by decide +kernel
theorem m86_57 : smI 86 57 = some (.if_icmp .ge 5, 60, 0, 62, 0, 0) := by decide +kernel
theorem m86_60 : smI 86 60 = some (.iload_n 3, 61, 0, 0, 0, 0) := by decide +kernel
theorem m86_61 : smI 86 61 = some (.ireturn, 62, 0, 0, 0, 0) := by decide +kernel
theorem m87_0 : smI 87 0 = some (.iload_n 1, 1, 0, 0, 0, 0) := by decide +kernel
theorem m87_1 : smI 87 1 = some (.bipush 60, 3, 0, 0, 0, 60) := by decide +kernel
theorem m87_3 : smI 87 3 = some (.invokestatic 69, 6, 0, 54, 2, 0) := by decide +kernel
theorem m87_6 : smI 87 6 = some (.ifCond .ne 9, 9, 0, 15, 0, 0) := by decide +kernel
theorem m87_9 : smI 87 9 = some (.aload_n 0, 10, 0, 0, 0, 0) := by decide +kernel
theorem m87_10 : smI 87 10 = some (.iconst 1, 11, 0, 0, 0, 1) := by decide +kernel
theorem m87_11 : smI 87 11 = some (.invokevirtual 73, 14, 20, 55, 1, 0) := by decide +kernel
theorem m87_14 : smI 87 14 = some (.ireturn, 15, 0, 0, 0, 0) := by decide +kernel
theorem m87_15 : smI 87 15 = some (.aload_n 0, 16, 0, 0, 0, 0) := by decide +kernel
theorem m87_16 : smI 87 16 = some (.invokevirtual 183, 19, 20, 74, 0, 0) := by decide +kernel
theorem m87_19 : smI 87 19 = some (.astore_n 2, 20, 0, 0, 0, 0) := by decide +kernel
theorem m87_20 : smI 87 20 = some (.aload_n 2, 21, 0, 0, 0, 0) := by decide +kernel
theorem m87_21 : smI 87 21 = some (.iload_n 1, 22, 0, 0, 0, 0) := by decide +kernel
theorem m87_22 : smI 87 22 = some (.invokevirtual 160, 25, 20, 41, 1, 0) := by decide +kernel
theorem m87_25 : smI 87 25 = some (.aload_n 2, 26, 0, 0, 0, 0) := by decide +kernel
theorem m87_26 : smI 87 26 = some (.invokevirtual 229, 29, 20, 47, 0, 0) := by decide +kernel
theorem m87_29 : smI 87 29 = some (.aload_n 0, 30, 0, 0, 0, 0) := by decide +kernel
theorem m87_30 : smI 87 30 = some (.getfield 10, 33, 0, 6, 0, 0) := by decide +kernel
theorem m87_33 : smI 87 33 = some (.invokevirtual 229, 36, 20, 47, 0, 0) := by decide +kernel
theorem m87_36 : smI 87 36 = some (.isub, 37, 0, 0, 0, 0) := by decide +kernel
theorem m87_37 : smI 87 37 = some (.ireturn, 38, 0, 0, 0, 0) := by decide +kernel
theorem m89_0 : smI 89 0 = some (.aload_n 0, 1, 0, 0, 0, 0) := by decide +kernel
theorem m89_1 : smI 89 1 = some (.iload_n 1, 2, 0, 0, 0, 0) := by decide +kernel
theorem m89_2 : smI 89 2 = some (.invokevirtual 105, 5, 20, 60, 1, 0) := by decide +kernel
theorem m89_5 : smI 89 5 = some (.ifCond .eq 20, 8, 0, 25, 0, 0) := by decide +kernel
theorem m89_25 : smI 89 25 = some (.aload_n 0, 26, 0, 0, 0, 0) := by decide +kernel
theorem m89_26 : smI 89 26 = some (.iconst 1, 27, 0, 0, 0, 1) := by decide +kernel
theorem m89_27 : smI 89 27 = some (.invokevirtual 73, 30, 20, 55, 1, 0) := by decide +kernel
theorem m89_30 : smI 89 30 = some (.ireturn, 31, 0, 0, 0, 0) := by decide +kernel
theorem m90_0 : smI 90 0 = some (.aload_n 0, 1, 0, 0, 0, 0) := by decide +kernel
theorem m90_1 : smI 90 1 = some (.getfield 28, 4, 0, 6, 4, 0) := by decide +kernel
theorem m90_4 : smI 90 4 = some (.getfield 235, 7, 0, 0, 0, 0) := by decide +kernel
theorem m90_7 : smI 90 7 = some (.istore_n 2, 8, 0, 0, 0, 0) := by decide +kernel
theorem m90_8 : smI 90 8 = some (.aload_n 0, 9, 0, 0, 0, 0) := by decide +kernel
theorem m90_9 : smI 90 9 = some (.getfield 28, 12, 0, 6, 4, 0) := by decide +kernel
theorem m90_12 : smI 90 12 = some (.iload_n 1, 13, 0, 0, 0, 0) := by decide +kernel
theorem m90_13 : smI 90 13 = some (.putfield 235, 16, 0, 0, 0, 0) := by decide +kernel
theorem m90_16 : smI 90 16 = some (.iload_n 2, 17, 0, 0, 0, 0) := by decide +kernel
theorem m90_17 : smI 90 17 = some (.ireturn, 18, 0, 0, 0, 0) := by decide +kernel
theorem m93_0 : smI 93 0 = some (.aload_n 0, 1, 0, 0, 0, 0) := by decide +kernel
theorem m93_1 : smI 93 1 = some (.iload_n 1, 2, 0, 0, 0, 0) := by decide +kernel
theorem m93_2 : smI 93 2 = some (.invokevirtual 105, 5, 20, 60, 1, 0) := by decide +kernel
theorem m93_5 : smI 93 5 = some (.ifCond .eq 11, 8, 0, 16, 0, 0) := by decide +kernel
theorem m93_16 : smI 93 16 = some (.aload_n 0, 17, 0, 0, 0, 0) := by decide +kernel
theorem m93_17 : smI 93 17 = some (.iconst 1, 18, 0, 0, 0, 1) := by decide +kernel
theorem m93_18 : smI 93 18 = some (.invokevirtual 73, 21, 20, 55, 1, 0) := by decide +kernel
theorem m93_21 : smI 93 21 = some (.ireturn, 22, 0, 0, 0, 0) := by decide +kernel
theorem m94_0 : smI 94 0 = some (.iload_n 1, 1, 0, 0, 0, 0) := by decide +kernel
theorem m94_1 : smI 94 1 = some (.ifCond .lt 14, 4, 0, 15, 0, 0) := by decide +kernel
theorem m94_4 : smI 94 4 = some (.iload_n 1, 5, 0, 0, 0, 0) := by decide +kernel
theorem m94_5 : smI 94 5 = some (.aload_n 0, 6, 0, 0, 0, 0) := by decide +kernel
theorem m94_6 : smI 94 6 = some (.getfield 55, 9, 0, 6, 8, 0) := by decide +kernel
theorem m94_9 : smI 94 9 = some (.getfield 245, 12, 0, 5, 4, 0) := by decide +kernel
theorem m94_12 : smI 94 12 = some (.if_icmp .lt 9, 15, 0, 21, 0, 0) := by decide +kernel
theorem m94_15 : smI 94 15 = some (.aload_n 0, 16, 0, 0, 0, 0) := by decide +kernel
theorem m94_16 : smI 94 16 = some (.iconst 2, 17, 0, 0, 0, 2) := by decide +kernel
theorem m94_17 : smI 94 17 = some (.invokevirtual 73, 20, 20, 55, 1, 0) := by decide +kernel
theorem m94_20 : smI 94 20 = some (.ireturn, 21, 0, 0, 0, 0) := by decide +kernel
theorem m95_0 : smI 95 0 = some (.iload_n 1, 1, 0, 0, 0, 0) := by decide +kernel
theorem m95_1 : smI 95 1 = some (.iconst 3, 2, 0, 0, 0, 3) := by decide +kernel
theorem m95_2 : smI 95 2 = some (.invokestatic 69, 5, 0, 54, 2, 0) := by decide +kernel
theorem m95_5 : smI 95 5 = some (.ifCond .eq 25, 8, 0, 30, 0, 0) := by decide +kernel
theorem m95_8 : smI 95 8 = some (.iload_n 2, 9, 0, 0, 0, 0) := by decide +kernel
theorem m95_9 : smI 95 9 = some (.ifCond .eq 27, 12, 0, 36, 0, 0) := by decide +kernel
theorem m95_12 : smI 95 12 = some (.iload_n 2, 13, 0, 0, 0, 0) := by decide +kernel
theorem m95_13 : smI 95 13 = some (.bipush 8, 15, 0, 0, 0, 8) := by decide +kernel
theorem m95_15 : smI 95 15 = some (.if_icmp .eq 21, 18, 0, 36, 0, 0) := by decide +kernel
theorem m95_18 : smI 95 18 = some (.iload_n 2, 19, 0, 0, 0, 0) := by decide +kernel
theorem m95_19 : smI 95 19 = some (.bipush 16, 21, 0, 0, 0, 16) := by decide +kernel
theorem m95_21 : smI 95 21 = some (.if_icmp .eq 15, 24, 0, 36, 0, 0) := by decide +kernel
theorem m95_24 : smI 95 24 = some (.iload_n 2, 25, 0, 0, 0, 0) := by decide +kernel
theorem m95_25 : smI 95 25 = some (.bipush 32, 27, 0, 0, 0, 32) := by decide +kernel
theorem m95_27 : smI 95 27 = some (.if_icmp .eq 9, 30, 0, 36, 0, 0) := by decide +kernel
theorem m95_30 : smI 95 30 = some (.aload_n 0, 31, 0, 0, 0, 0) := by decide +kernel
theorem m95_31 : smI 95 31 = some (.iconst 1, 32, 0, 0, 0, 1) := by decide +kernel
theorem m95_32 : smI 95 32 = some (.invokevirtual 73, 35, 20, 55, 1, 0) := by decide +kernel
theorem m95_35 : smI 95 35 = some (.ireturn, 36, 0, 0, 0, 0) := by decide +kernel
theorem m95_36 : smI 95 36 = some (.iload_n 2, 37, 0, 0, 0, 0) := by decide +kernel
theorem m95_37 : smI 95 37 = some (.ifCond .ne 16, 40, 0, 53, 0, 0) := by decide +kernel
theorem m95_40 : smI 95 40 = some (.aload_n 0, 41, 0, 0, 0, 0) := by decide +kernel
theorem m95_41 : smI 95 41 = some (.getfield 62, 44, 0, 6, 9, 0) := by decide +kernel
theorem m95_44 : smI 95 44 = some (.iload_n 1, 45, 0, 0, 0, 0) := by decide +kernel
theorem m95_45 : smI 95 45 = some (.aaload, 46, 0, 0, 0, 0) := by decide +kernel
theorem m95_46 : smI 95 46 = some (.iconst 0, 47, 0, 0, 0, 0) := by decide +kernel
theorem m95_47 : smI 95 47 = some (.iconst 0, 48, 0, 0, 0, 0) := by decide +kernel
theorem m95_48 : smI 95 48 = some (.invokevirtual 264, 51, 20, 27, 2, 0) := by decide +kernel
theorem m95_51 : smI 95 51 = some (.iconst 1, 52, 0, 0, 0, 1) := by decide +kernel
theorem m95_52 : smI 95 52 = some (.ireturn, 53, 0, 0, 0, 0) := by decide +kernel
theorem m95_53 : smI 95 53 = some (.iload_n 3, 54, 0, 0, 0, 0) := by decide +kernel
theorem m95_54 : smI 95 54 = some (.ifCond .ge 9, 57, 0, 63, 0, 0) := by decide +kernel
theorem m95_57 : smI 95 57 = some (.aload_n 0, 58, 0, 0, 0, 0) := by decide +kernel
theorem m95_58 : smI 95 58 = some (.iconst 3, 59, 0, 0, 0, 3) := by decide +kernel
theorem m95_59 : smI 95 59 = some (.invokevirtual 73, 62, 20, 55, 1, 0) := by decide +kernel
theorem m95_62 : smI 95 62 = some (.ireturn, 63, 0, 0, 0, 0) := by decide +kernel
theorem m95_63 : smI 95 63 = some (.iload_n 3, 64, 0, 0, 0, 0) := by decide +kernel
theorem m95_64 : smI 95 64 = some (.bipush 40, 66, 0, 0, 0, 40) := by decide +kernel
theorem m95_66 : smI 95 66 = some (.if_icmp .le 9, 69, 0, 75, 0, 0) := by decide +kernel
theorem m95_69 : smI 95 69 = some (.aload_n 0, 70, 0, 0, 0, 0) := by decide +kernel
theorem m95_70 : smI 95 70 = some (.iconst 1, 71, 0, 0, 0, 1) := by decide +kernel
theorem m95_71 : smI 95 71 = some (.invokevirtual 73, 74, 20, 55, 1, 0) := by decide +kernel
theorem m95_74 : smI 95 74 = some (.ireturn, 75, 0, 0, 0, 0) := by decide +kernel
theorem m95_75 : smI 95 75 = some (.aload_n 0, 76, 0, 0, 0, 0) := by decide +kernel
theorem m95_76 : smI 95 76 = some (.getfield 62, 79, 0, 6, 9, 0) := by decide +kernel
theorem m95_79 : smI 95 79 = some (.iload_n 1, 80, 0, 0, 0, 0) := by decide +kernel
theorem m95_80 : smI 95 80 = some (.aaload, 81, 0, 0, 0, 0) := by decide +kernel
theorem m95_81 : smI 95 81 = some (.iload_n 2, 82, 0, 0, 0, 0) := by decide +kernel
theorem m95_82 : smI 95 82 = some (.iload_n 3, 83, 0, 0, 0, 0) := by decide +kernel
theorem m95_83 : smI 95 83 = some (.invokevirtual 264, 86, 20, 27, 2, 0) := by decide +kernel
theorem m95_86 : smI 95 86 = some (.iconst 1, 87, 0, 0, 0, 1) := by decide +kernel
theorem m95_87 : smI 95 87 = some (.ireturn, 88, 0, 0, 0, 0) := by decide +kernel
theorem m96_0 : smI 96 0 = some (.iload_n 1, 1, 0, 0, 0, 0) := by decide +kernel
theorem m96_1 : smI 96 1 = some (.iconst 3, 2, 0, 0, 0, 3) := by decide +kernel
theorem m96_2 : smI 96 2 = some (.invokestatic 69, 5, 0, 54, 2, 0) := by decide +kernel
theorem m96_5 : smI 96 5 = some (.ifCond .ne 9, 8, 0, 14, 0, 0) := by decide +kernel
theorem m96_8 : smI 96 8 = some (.aload_n 0, 9, 0, 0, 0, 0) := by decide +kernel
theorem m96_9 : smI 96 9 = some (.iconst 1, 10, 0, 0, 0, 1) := by decide +kernel
theorem m96_10 : smI 96 10 = some (.invokevirtual 73, 13, 20, 55, 1, 0) := by decide +kernel
theorem m96_13 : smI 96 13 = some (.ireturn, 14, 0, 0, 0, 0) := by decide +kernel
theorem m96_14 : smI 96 14 = some (.aload_n 0, 15, 0, 0, 0, 0) := by decide +kernel
theorem m96_15 : smI 96 15 = some (.getfield 62, 18, 0, 6, 9, 0) := by decide +kernel
theorem m96_18 : smI 96 18 = some (.iload_n 1, 19, 0, 0, 0, 0) := by decide +kernel
theorem m96_19 : smI 96 19 = some (.aaload, 20, 0, 0, 0, 0) := by decide +kernel
theorem m96_20 : smI 96 20 = some (.astore 4, 22, 0, 0, 0, 0) := by decide +kernel
theorem m96_22 : smI 96 22 = some (.aload 4, 24, 0, 0, 0, 0) := by decide +kernel
theorem m96_24 : smI 96 24 = some (.getfield 206, 27, 0, 3, 0, 0) := by decide +kernel
theorem m96_27 : smI 96 27 = some (.ifCond .ne 9, 30, 0, 36, 0, 0) := by decide +kernel
theorem m96_30 : smI 96 30 = some (.aload_n 0, 31, 0, 0, 0, 0) := by decide +kernel
theorem m96_31 : smI 96 31 = some (.iconst 2, 32, 0, 0, 0, 2) := by decide +kernel
theorem m96_32 : smI 96 32 = some (.invokevirtual 73, 35, 20, 55, 1, 0) := by decide +kernel
theorem m96_35 : smI 96 35 = some (.ireturn, 36, 0, 0, 0, 0) := by decide +kernel
theorem m97_0 : smI 97 0 = some (.iload_n 1, 1, 0, 0, 0, 0) := by decide +kernel
theorem m97_1 : smI 97 1 = some (.iconst 3, 2, 0, 0, 0, 3) := by decide +kernel
theorem m97_2 : smI 97 2 = some (.invokestatic 69, 5, 0, 54, 2, 0) := by decide +kernel
theorem m97_5 : smI 97 5 = some (.ifCond .eq 11, 8, 0, 16, 0, 0) := by decide +kernel
theorem m97_8 : smI 97 8 = some (.iload_n 3, 9, 0, 0, 0, 0) := by decide +kernel
theorem m97_9 : smI 97 9 = some (.iconst 3, 10, 0, 0, 0, 3) := by decide +kernel
theorem m97_10 : smI 97 10 = some (.invokestatic 69, 13, 0, 54, 2, 0) := by decide +kernel
theorem m97_13 : smI 97 13 = some (.ifCond .ne 9, 16, 0, 22, 0, 0) := by decide +kernel
theorem m97_16 : smI 97 16 = some (.aload_n 0, 17, 0, 0, 0, 0) := by decide +kernel
theorem m97_17 : smI 97 17 = some (.iconst 1, 18, 0, 0, 0, 1) := by decide +kernel
theorem m97_18 : smI 97 18 = some (.invokevirtual 73, 21, 20, 55, 1, 0) := by decide +kernel
theorem m97_21 : smI 97 21 = some (.ireturn, 22, 0, 0, 0, 0) := by decide +kernel
theorem m97_22 : smI 97 22 = some (.aload_n 0, 23, 0, 0, 0, 0) := by decide +kernel
theorem m97_23 : smI 97 23 = some (.getfield 62, 26, 0, 6, 9, 0) := by decide +kernel
theorem m97_26 : smI 97 26 = some (.iload_n 1, 27, 0, 0, 0, 0) := by decide +kernel
theorem m97_27 : smI 97 27 = some (.aaload, 28, 0, 0, 0, 0) := by decide +kernel
theorem m97_28 : smI 97 28 = some (.astore 6, 30, 0, 0, 0, 0) := by decide +kernel
theorem m97_30 : smI 97 30 = some (.aload_n 0, 31, 0, 0, 0, 0) := by decide +kernel
theorem m97_31 : smI 97 31 = some (.getfield 62, 34, 0, 6, 9, 0) := by decide +kernel
theorem m97_34 : smI 97 34 = some (.iload_n 3, 35, 0, 0, 0, 0) := by decide +kernel
theorem m97_35 : smI 97 35 = some (.aaload, 36, 0, 0, 0, 0) := by decide +kernel
theorem m97_36 : smI 97 36 = some (.astore 7, 38, 0, 0, 0, 0) := by decide +kernel
theorem m97_38 : smI 97 38 = some (.aload 6, 40, 0, 0, 0, 0) := by decide +kernel
theorem m97_40 : smI 97 40 = some (.getfield 206, 43, 0, 3, 0, 0) := by decide +kernel
theorem m97_43 : smI 97 43 = some (.ifCond .eq 11, 46, 0, 54, 0, 0) := by decide +kernel
theorem m97_54 : smI 97 54 = some (.aload_n 0, 55, 0, 0, 0, 0) := by decide +kernel
theorem m97_55 : smI 97 55 = some (.iconst 2, 56, 0, 0, 0, 2) := by decide +kernel
theorem m97_56 : smI 97 56 = some (.invokevirtual 73, 59, 20, 55, 1, 0) := by decide +kernel
theorem m97_59 : smI 97 59 = some (.ireturn, 60, 0, 0, 0, 0) := by decide +kernel
theorem m98_0 : smI 98 0 = some (.iload_n 1, 1, 0, 0, 0, 0) := by decide +kernel
theorem m98_1 : smI 98 1 = some (.iconst 3, 2, 0, 0, 0, 3) := by decide +kernel
theorem m98_2 : smI 98 2 = some (.invokestatic 69, 5, 0, 54, 2, 0) := by decide +kernel
theorem m98_5 : smI 98 5 = some (.ifCond .ne 9, 8, 0, 14, 0, 0) := by decide +kernel
theorem m98_8 : smI 98 8 = some (.aload_n 0, 9, 0, 0, 0, 0) := by decide +kernel
theorem m98_9 : smI 98 9 = some (.iconst 1, 10, 0, 0, 0, 1) := by decide +kernel
theorem m98_10 : smI 98 10 = some (.invokevirtual 73, 13, 20, 55, 1, 0) := by decide +kernel
theorem m98_13 : smI 98 13 = some (.ireturn, 14, 0, 0, 0, 0) := by decide +kernel
theorem m98_14 : smI 98 14 = some (.aload_n 0, 15, 0, 0, 0, 0) := by decide +kernel
theorem m98_15 : smI 98 15 = some (.getfield 62, 18, 0, 6, 9, 0) := by decide +kernel
theorem m98_18 : smI 98 18 = some (.iload_n 1, 19, 0, 0, 0, 0) := by decide +kernel
theorem m98_19 : smI 98 19 = some (.aaload, 20, 0, 0, 0, 0) := by decide +kernel
theorem m98_20 : smI 98 20 = some (.astore_n 2, 21, 0, 0, 0, 0) := by decide +kernel
theorem m98_21 : smI 98 21 = some (.aload_n 2, 22, 0, 0, 0, 0) := by decide +kernel
theorem m98_22 : smI 98 22 = some (.getfield 206, 25, 0, 3, 0, 0) := by decide +kernel
theorem m98_25 : smI 98 25 = some (.ifCond .ne 9, 28, 0, 34, 0, 0) := by decide +kernel
theorem m98_28 : smI 98 28 = some (.aload_n 0, 29, 0, 0, 0, 0) := by decide +kernel
theorem m98_29 : smI 98 29 = some (.iconst 2, 30, 0, 0, 0, 2) := by decide +kernel
theorem m98_30 : smI 98 30 = some (.invokevirtual 73, 33, 20, 55, 1, 0) := by decide +kernel
theorem m98_33 : smI 98 33 = some (.ireturn, 34, 0, 0, 0, 0) := by decide +kernel
theorem m99_0 : smI 99 0 = some (.iload_n 1, 1, 0, 0, 0, 0) := by decide +kernel
theorem m99_1 : smI 99 1 = some (.iconst 3, 2, 0, 0, 0, 3) := by decide +kernel
theorem m99_2 : smI 99 2 = some (.invokestatic 69, 5, 0, 54, 2, 0) := by decide +kernel
theorem m99_5 : smI 99 5 = some (.ifCond .ne 9, 8, 0, 14, 0, 0) := by decide +kernel
theorem m99_8 : smI 99 8 = some (.aload_n 0, 9, 0, 0, 0, 0) := by decide +kernel
theorem m99_9 : smI 99 9 = some (.iconst 1, 10, 0, 0, 0, 1) := by decide +kernel
theorem m99_10 : smI 99 10 = some (.invokevirtual 73, 13, 20, 55, 1, 0) := by decide +kernel
theorem m99_13 : smI 99 13 = some (.ireturn, 14, 0, 0, 0, 0) := by decide +kernel
theorem m99_14 : smI 99 14 = some (.aload_n 0, 15, 0, 0, 0, 0) := by decide +kernel
theorem m99_15 : smI 99 15 = some (.getfield 62, 18, 0, 6, 9, 0) := by decide +kernel
theorem m99_18 : smI 99 18 = some (.iload_n 1, 19, 0, 0, 0, 0) := by decide +kernel
theorem m99_19 : smI 99 19 = some (.aaload, 20, 0, 0, 0, 0) := by decide +kernel
theorem m99_20 : smI 99 20 = some (.astore_n 2, 21, 0, 0, 0, 0) := by decide +kernel
theorem m99_21 : smI 99 21 = some (.aload_n 2, 22, 0, 0, 0, 0) := by decide +kernel
theorem m99_22 : smI 99 22 = some (.getfield 206, 25, 0, 3, 0, 0) := by decide +kernel
theorem m99_25 : smI 99 25 = some (.ifCond .ne 9, 28, 0, 34, 0, 0) := by decide +kernel
theorem m99_28 : smI 99 28 = some (.aload_n 0, 29, 0, 0, 0, 0) := by decide +kernel
theorem m99_29 : smI 99 29 = some (.iconst 2, 30, 0, 0, 0, 2) := by decide +kernel
theorem m99_30 : smI 99 30 = some (.invokevirtual 73, 33, 20, 55, 1, 0) := by decide +kernel
theorem m99_33 : smI 99 33 = some (.ireturn, 34, 0, 0, 0, 0) := by decide +kernel
theorem m100_0 : smI 100 0 = some (.aload_n 0, 1, 0, 0, 0, 0) := by decide +kernel
theorem m100_1 : smI 100 1 = some (.getfield 22, 4, 0, 6, 3, 0) := by decide +kernel
theorem m100_4 : smI 100 4 = some (.aload_n 0, 5, 0, 0, 0, 0) := by decide +kernel
theorem m100_5 : smI 100 5 = some (.getfield 10, 8, 0, 6, 0, 0) := by decide +kernel
theorem m100_8 : smI 100 8 = some (.invokevirtual 222, 11, 20, 31, 1, 0) := by decide +kernel
theorem m100_11 : smI 100 11 = some (.aload_n 0, 12, 0, 0, 0, 0) := by decide +kernel
theorem m100_12 : smI 100 12 = some (.getfield 32, 15, 0, 6, 5, 0) := by decide +kernel
theorem m100_15 : smI 100 15 = some (.aload_n 0, 16, 0, 0, 0, 0) := by decide +kernel
theorem m100_16 : smI 100 16 = some (.getfield 28, 19, 0, 6, 4, 0) := by decide +kernel
theorem m100_19 : smI 100 19 = some (.invokevirtual 284, 22, 20, 11, 1, 0) := by decide +kernel
theorem m100_22 : smI 100 22 = some (.aload_n 0, 23, 0, 0, 0, 0) := by decide +kernel
theorem m100_23 : smI 100 23 = some (.dup, 24, 0, 0, 0, 0) := by decide +kernel
theorem m100_24 : smI 100 24 = some (.getfield 35, 27, 0, 6, 6, 0) := by decide +kernel
theorem m100_27 : smI 100 27 = some (.iconst 1, 28, 0, 0, 0, 1) := by decide +kernel
theorem m100_28 : smI 100 28 = some (.iadd, 29, 0, 0, 0, 0) := by decide +kernel
theorem m100_29 : smI 100 29 = some (.putfield 35, 32, 0, 6, 6, 0) := by decide +kernel
theorem m100_32 : smI 100 32 = some (.aload_n 0, 33, 0, 0, 0, 0) := by decide +kernel
theorem m100_33 : smI 100 33 = some (.getfield 35, 36, 0, 6, 6, 0) := by decide +kernel
theorem m100_36 : smI 100 36 = some (.ireturn, 37, 0, 0, 0, 0) := by decide +kernel
theorem m101_0 : smI 101 0 = some (.aload_n 0, 1, 0, 0, 0, 0) := by decide +kernel
theorem m101_1 : smI 101 1 = some (.getfield 35, 4, 0, 6, 6, 0) := by decide +kernel
theorem m101_4 : smI 101 4 = some (.ifCond .ne 9, 7, 0, 13, 0, 0) := by decide +kernel
theorem m101_7 : smI 101 7 = some (.aload_n 0, 8, 0, 0, 0, 0) := by decide +kernel
theorem m101_8 : smI 101 8 = some (.iconst 2, 9, 0, 0, 0, 2) := by decide +kernel
theorem m101_9 : smI 101 9 = some (.invokevirtual 73, 12, 20, 55, 1, 0) := by decide +kernel
theorem m101_12 : smI 101 12 = some (.ireturn, 13, 0, 0, 0, 0) := by decide +kernel
theorem m102_0 : smI 102 0 = some (.aload_n 0, 1, 0, 0, 0, 0) := by decide +kernel
theorem m102_1 : smI 102 1 = some (.getfield 28, 4, 0, 6, 4, 0) := by decide +kernel
theorem m102_4 : smI 102 4 = some (.getfield 287, 7, 0, 0, 4, 0) := by decide +kernel
theorem m102_7 : smI 102 7 = some (.bipush 20, 9, 0, 0, 0, 20) := by decide +kernel
theorem m102_9 : smI 102 9 = some (.if_icmp .lt 9, 12, 0, 18, 0, 0) := by decide +kernel
theorem m102_18 : smI 102 18 = some (.aload_n 0, 19, 0, 0, 0, 0) := by decide +kernel
theorem m102_19 : smI 102 19 = some (.getfield 28, 22, 0, 6, 4, 0) := by decide +kernel
theorem m102_22 : smI 102 22 = some (.getfield 290, 25, 0, 0, 3, 0) := by decide +kernel
theorem m102_25 : smI 102 25 = some (.aload_n 0, 26, 0, 0, 0, 0) := by decide +kernel
theorem m102_26 : smI 102 26 = some (.getfield 28, 29, 0, 6, 4, 0) := by decide +kernel
theorem m102_29 : smI 102 29 = some (.getfield 287, 32, 0, 0, 4, 0) := by decide +kernel
theorem m102_32 : smI 102 32 = some (.iload_n 1, 33, 0, 0, 0, 0) := by decide +kernel
theorem m102_33 : smI 102 33 = some (.iastore, 34, 0, 0, 0, 0) := by decide +kernel
theorem m102_34 : smI 102 34 = some (.aload_n 0, 35, 0, 0, 0, 0) := by decide +kernel
theorem m102_35 : smI 102 35 = some (.getfield 28, 38, 0, 6, 4, 0) := by decide +kernel
theorem m102_38 : smI 102 38 = some (.dup, 39, 0, 0, 0, 0) := by decide +kernel
theorem m102_39 : smI 102 39 = some (.getfield 287, 42, 0, 0, 4, 0) := by decide +kernel
theorem m102_42 : smI 102 42 = some (.iconst 1, 43, 0, 0, 0, 1) := by decide +kernel
theorem m102_43 : smI 102 43 = some (.iadd, 44, 0, 0, 0, 0) := by decide +kernel
theorem m102_44 : smI 102 44 = some (.putfield 287, 47, 0, 0, 4, 0) := by decide +kernel
theorem m102_47 : smI 102 47 = some (.aload_n 0, 48, 0, 0, 0, 0) := by decide +kernel
theorem m102_48 : smI 102 48 = some (.getfield 28, 51, 0, 6, 4, 0) := by decide +kernel
theorem m102_51 : smI 102 51 = some (.getfield 287, 54, 0, 0, 4, 0) := by decide +kernel
theorem m102_54 : smI 102 54 = some (.ireturn, 55, 0, 0, 0, 0) := by decide +kernel
theorem m103_0 : smI 103 0 = some (.aload_n 0, 1, 0, 0, 0, 0) := by decide +kernel
theorem m103_1 : smI 103 1 = some (.getfield 28, 4, 0, 6, 4, 0) := by decide +kernel
theorem m103_4 : smI 103 4 = some (.getfield 287, 7, 0, 0, 4, 0) := by decide +kernel
theorem m103_7 : smI 103 7 = some (.istore_n 1, 8, 0, 0, 0, 0) := by decide +kernel
theorem m103_8 : smI 103 8 = some (.aload_n 0, 9, 0, 0, 0, 0) := by decide +kernel
theorem m103_9 : smI 103 9 = some (.getfield 28, 12, 0, 6, 4, 0) := by decide +kernel
theorem m103_12 : smI 103 12 = some (.iconst 0, 13, 0, 0, 0, 0) := by decide +kernel
theorem m103_13 : smI 103 13 = some (.putfield 287, 16, 0, 0, 4, 0) := by decide +kernel
theorem m103_16 : smI 103 16 = some (.aload_n 0, 17, 0, 0, 0, 0) := by decide +kernel
theorem m103_17 : smI 103 17 = some (.invokevirtual 183, 20, 20, 74, 0, 0) := by decide +kernel
theorem m103_20 : smI 103 20 = some (.astore_n 2, 21, 0, 0, 0, 0) := by decide +kernel
theorem m103_21 : smI 103 21 = some (.iconst 0, 22, 0, 0, 0, 0) := by decide +kernel
theorem m103_22 : smI 103 22 = some (.istore_n 3, 23, 0, 0, 0, 0) := by decide +kernel
theorem m103_23 : smI 103 23 = some (.iload_n 3, 24, 0, 0, 0, 0) := by decide +kernel
theorem m103_24 : smI 103 24 = some (.iload_n 1, 25, 0, 0, 0, 0) := by decide +kernel
theorem m103_25 : smI 103 25 = some (.if_icmp .ge 34, 28, 0, 59, 0, 0) := by decide +kernel
theorem m103_59 : smI 103 59 = some (.iconst 0, 60, 0, 0, 0, 0) := by decide +kernel
theorem m103_60 : smI 103 60 = some (.ireturn, 61, 0, 0, 0, 0) := by decide +kernel
theorem m104_0 : smI 104 0 = some (.iload_n 1, 1, 0, 0, 0, 0) := by decide +kernel
theorem m104_1 : smI 104 1 = some (.tableswitch 135 0 9 #[55, 63, 71, 79, 87, 95, 103, 111, 119, 127], 56, 0, 0, 0, 0) := by decide +kernel
theorem m104_56 : smI 104 56 = some (.aload_n 0, 57, 0, 0, 0, 0) := by decide +kernel
theorem m104_57 : smI 104 57 = some (.getfield 10, 60, 0, 6, 0, 0) := by decide +kernel
theorem m104_60 : smI 104 60 = some (.getfield 83, 63, 0, 4, 10, 0) := by decide +kernel
theorem m104_63 : smI 104 63 = some (.ireturn, 64, 0, 0, 0, 0) := by decide +kernel
theorem m104_64 : smI 104 64 = some (.aload_n 0, 65, 0, 0, 0, 0) := by decide +kernel
theorem m104_65 : smI 104 65 = some (.getfield 10, 68, 0, 6, 0, 0) := by decide +kernel
theorem m104_68 : smI 104 68 = some (.getfield 80, 71, 0, 4, 8, 0) := by decide +kernel
theorem m104_71 : smI 104 71 = some (.ireturn, 72, 0, 0, 0, 0) := by decide +kernel
theorem m104_72 : smI 104 72 = some (.aload_n 0, 73, 0, 0, 0, 0) := by decide +kernel
theorem m104_73 : smI 104 73 = some (.getfield 10, 76, 0, 6, 0, 0) := by decide +kernel
theorem m104_76 : smI 104 76 = some (.getfield 157, 79, 0, 4, 9, 0) := by decide +kernel
theorem m104_79 : smI 104 79 = some (.ireturn, 80, 0, 0, 0, 0) := by decide +kernel
theorem m104_80 : smI 104 80 = some (.aload_n 0, 81, 0, 0, 0, 0) := by decide +kernel
theorem m104_81 : smI 104 81 = some (.getfield 10, 84, 0, 6, 0, 0) := by decide +kernel
theorem m104_84 : smI 104 84 = some (.invokevirtual 164, 87, 20, 45, 0, 0) := by decide +kernel
theorem m104_87 : smI 104 87 = some (.ireturn, 88, 0, 0, 0, 0) := by decide +kernel
theorem m104_88 : smI 104 88 = some (.aload_n 0, 89, 0, 0, 0, 0) := by decide +kernel
theorem m104_89 : smI 104 89 = some (.getfield 10, 92, 0, 6, 0, 0) := by decide +kernel
theorem m104_92 : smI 104 92 = some (.invokevirtual 229, 95, 20, 47, 0, 0) := by decide +kernel
theorem m104_95 : smI 104 95 = some (.ireturn, 96, 0, 0, 0, 0) := by decide +kernel
theorem m104_96 : smI 104 96 = some (.aload_n 0, 97, 0, 0, 0, 0) := by decide +kernel
theorem m104_97 : smI 104 97 = some (.getfield 10, 100, 0, 6, 0, 0) := by decide +kernel
theorem m104_100 : smI 104 100 = some (.invokevirtual 293, 103, 20, 48, 0, 0) := by decide +kernel
theorem m104_103 : smI 104 103 = some (.ireturn, 104, 0, 0, 0, 0) := by decide +kernel
theorem m104_104 : smI 104 104 = some (.aload_n 0, 105, 0, 0, 0, 0) := by decide +kernel
theorem m104_105 : smI 104 105 = some (.getfield 28, 108, 0, 6, 4, 0) := by decide +kernel
theorem m104_108 : smI 104 108 = some (.getfield 121, 111, 0, 0, 2, 0) := by decide +kernel
theorem m104_111 : smI 104 111 = some (.ireturn, 112, 0, 0, 0, 0) := by decide +kernel
theorem m104_112 : smI 104 112 = some (.aload_n 0, 113, 0, 0, 0, 0) := by decide +kernel
theorem m104_113 : smI 104 113 = some (.getfield 28, 116, 0, 6, 4, 0) := by decide +kernel
theorem m104_116 : smI 104 116 = some (.getfield 287, 119, 0, 0, 4, 0) := by decide +kernel
theorem m104_119 : smI 104 119 = some (.ireturn, 120, 0, 0, 0, 0) := by decide +kernel
theorem m104_120 : smI 104 120 = some (.aload_n 0, 121, 0, 0, 0, 0) := by decide +kernel
theorem m104_121 : smI 104 121 = some (.getfield 55, 124, 0, 6, 8, 0) := by decide +kernel
theorem m104_124 : smI 104 124 = some (.getfield 245, 127, 0, 5, 4, 0) := by decide +kernel
theorem m104_127 : smI 104 127 = some (.ireturn, 128, 0, 0, 0, 0) := by decide +kernel
theorem m104_128 : smI 104 128 = some (.aload_n 0, 129, 0, 0, 0, 0) := by decide +kernel
theorem m104_129 : smI 104 129 = some (.getfield 28, 132, 0, 6, 4, 0) := by decide +kernel
theorem m104_132 : smI 104 132 = some (.getfield 235, 135, 0, 0, 0, 0) := by decide +kernel
theorem m104_135 : smI 104 135 = some (.ireturn, 136, 0, 0, 0, 0) := by decide +kernel
theorem m104_136 : smI 104 136 = some (.aload_n 0, 137, 0, 0, 0, 0) := by decide +kernel
theorem m104_137 : smI 104 137 = some (.iconst 1, 138, 0, 0, 0, 1) := by decide +kernel
theorem m104_138 : smI 104 138 = some (.invokevirtual 73, 141, 20, 55, 1, 0) := by decide +kernel
theorem m104_141 : smI 104 141 = some (.ireturn, 142, 0, 0, 0, 0) := by decide +kernel
theorem m105_0 : smI 105 0 = some (.iload_n 1, 1, 0, 0, 0, 0) := by decide +kernel
theorem m105_1 : smI 105 1 = some (.iconst 1, 2, 0, 0, 0, 1) := by decide +kernel
theorem m105_2 : smI 105 2 = some (.if_icmp .lt 8, 5, 0, 10, 0, 0) := by decide +kernel
theorem m105_5 : smI 105 5 = some (.iload_n 1, 6, 0, 0, 0, 0) := by decide +kernel
theorem m105_6 : smI 105 6 = some (.iconst 5, 7, 0, 0, 0, 5) := by decide +kernel
theorem m105_7 : smI 105 7 = some (.if_icmp .le 9, 10, 0, 16, 0, 0) := by decide +kernel
theorem m105_10 : smI 105 10 = some (.aload_n 0, 11, 0, 0, 0, 0) := by decide +kernel
theorem m105_11 : smI 105 11 = some (.iconst 1, 12, 0, 0, 0, 1) := by decide +kernel
theorem m105_12 : smI 105 12 = some (.invokevirtual 73, 15, 20, 55, 1, 0) := by decide +kernel
theorem m105_15 : smI 105 15 = some (.ireturn, 16, 0, 0, 0, 0) := by decide +kernel
theorem m105_16 : smI 105 16 = some (.aload_n 0, 17, 0, 0, 0, 0) := by decide +kernel
theorem m105_17 : smI 105 17 = some (.getfield 66, 20, 0, 6, 10, 0) := by decide +kernel
theorem m105_20 : smI 105 20 = some (.iload_n 1, 21, 0, 0, 0, 0) := by decide +kernel
theorem m105_21 : smI 105 21 = some (.iaload, 22, 0, 0, 0, 0) := by decide +kernel
theorem m105_22 : smI 105 22 = some (.ireturn, 23, 0, 0, 0, 0) := by decide +kernel
theorem m107_0 : smI 107 0 = some (.iload_n 0, 1, 0, 0, 0, 0) := by decide +kernel
theorem m107_1 : smI 107 1 = some (.iload_n 1, 2, 0, 0, 0, 0) := by decide +kernel
theorem m107_2 : smI 107 2 = some (.if_icmp .lt 12, 5, 0, 14, 0, 0) := by decide +kernel
theorem m107_5 : smI 107 5 = some (.iload_n 0, 6, 0, 0, 0, 0) := by decide +kernel
theorem m107_6 : smI 107 6 = some (.iload_n 2, 7, 0, 0, 0, 0) := by decide +kernel
theorem m107_7 : smI 107 7 = some (.if_icmp .gt 7, 10, 0, 14, 0, 0) := by decide +kernel
theorem m107_10 : smI 107 10 = some (.iconst 1, 11, 0, 0, 0, 1) := by decide +kernel
theorem m107_11 : smI 107 11 = some (.goto 4, 14, 0, 15, 0, 0) := by decide +kernel
theorem m107_14 : smI 107 14 = some (.iconst 0, 15, 0, 0, 0, 0) := by decide +kernel
theorem m107_15 : smI 107 15 = some (.ireturn, 16, 0, 0, 0, 0) := by decide +kernel
theorem m108_0 : smI 108 0 = some (.aload_n 0, 1, 0, 0, 0, 0) := by decide +kernel
theorem m108_1 : smI 108 1 = some (.getfield 22, 4, 0, 7, 6, 0) := by decide +kernel
theorem m108_4 : smI 108 4 = some (.ldc 43, 6, 0, 0, 0, -1000000000) := by decide +kernel
theorem m108_6 : smI 108 6 = some (.iload_n 1, 7, 0, 0, 0, 0) := by decide +kernel
theorem m108_7 : smI 108 7 = some (.isub, 8, 0, 0, 0, 0) := by decide +kernel
theorem m108_8 : smI 108 8 = some (.dup2, 9, 0, 0, 0, 0) := by decide +kernel
theorem m108_9 : smI 108 9 = some (.iaload, 10, 0, 0, 0, 0) := by decide +kernel
theorem m108_10 : smI 108 10 = some (.iconst 1, 11, 0, 0, 0, 1) := by decide +kernel
theorem m108_11 : smI 108 11 = some (.iadd, 12, 0, 0, 0, 0) := by decide +kernel
theorem m108_12 : smI 108 12 = some (.iastore, 13, 0, 0, 0, 0) := by decide +kernel
theorem m108_13 : smI 108 13 = some (.iload_n 1, 14, 0, 0, 0, 0) := by decide +kernel
theorem m108_14 : smI 108 14 = some (.ireturn, 15, 0, 0, 0, 0) := by decide +kernel
theorem m109_0 : smI 109 0 = some (.iload_n 0, 1, 0, 0, 0, 0) := by decide +kernel
theorem m109_1 : smI 109 1 = some (.iload_n 1, 2, 0, 0, 0, 0) := by decide +kernel
theorem m109_2 : smI 109 2 = some (.if_icmp .ge 7, 5, 0, 9, 0, 0) := by decide +kernel
theorem m109_5 : smI 109 5 = some (.iload_n 1, 6, 0, 0, 0, 0) := by decide +kernel
theorem m109_6 : smI 109 6 = some (.goto 13, 9, 0, 19, 0, 0) := by decide +kernel
theorem m109_9 : smI 109 9 = some (.iload_n 0, 10, 0, 0, 0, 0) := by decide +kernel
theorem m109_10 : smI 109 10 = some (.iload_n 2, 11, 0, 0, 0, 0) := by decide +kernel
theorem m109_11 : smI 109 11 = some (.if_icmp .le 7, 14, 0, 18, 0, 0) := by decide +kernel
theorem m109_14 : smI 109 14 = some (.iload_n 2, 15, 0, 0, 0, 0) := by decide +kernel
theorem m109_15 : smI 109 15 = some (.goto 4, 18, 0, 19, 0, 0) := by decide +kernel
theorem m109_18 : smI 109 18 = some (.iload_n 0, 19, 0, 0, 0, 0) := by decide +kernel
theorem m109_19 : smI 109 19 = some (.ireturn, 20, 0, 0, 0, 0) := by decide +kernel
theorem m112_0 : smI 112 0 = some (.aload_n 0, 1, 0, 0, 0, 0) := by decide +kernel
theorem m112_1 : smI 112 1 = some (.getfield 7, 4, 0, 7, 0, 0) := by decide +kernel
theorem m112_4 : smI 112 4 = some (.bipush 16, 6, 0, 0, 0, 16) := by decide +kernel
theorem m112_6 : smI 112 6 = some (.bipush 6, 8, 0, 0, 0, 6) := by decide +kernel
theorem m112_8 : smI 112 8 = some (.iload_n 1, 9, 0, 0, 0, 0) := by decide +kernel
theorem m112_9 : smI 112 9 = some (.imul, 10, 0, 0, 0, 0) := by decide +kernel
theorem m112_10 : smI 112 10 = some (.iadd, 11, 0, 0, 0, 0) := by decide +kernel
theorem m112_11 : smI 112 11 = some (.iload_n 2, 12, 0, 0, 0, 0) := by decide +kernel
theorem m112_12 : smI 112 12 = some (.iadd, 13, 0, 0, 0, 0) := by decide +kernel
theorem m112_13 : smI 112 13 = some (.iload_n 3, 14, 0, 0, 0, 0) := by decide +kernel
theorem m112_14 : smI 112 14 = some (.iastore, 15, 0, 0, 0, 0) := by decide +kernel
theorem m112_15 : smI 112 15 = some (.return_, 16, 0, 0, 0, 0) := by decide +kernel
theorem m113_0 : smI 113 0 = some (.iload_n 1, 1, 0, 0, 0, 0) := by decide +kernel
theorem m113_1 : smI 113 1 = some (.iconst 0, 2, 0, 0, 0, 0) := by decide +kernel
theorem m113_2 : smI 113 2 = some (.aload_n 0, 3, 0, 0, 0, 0) := by decide +kernel
theorem m113_3 : smI 113 3 = some (.getfield 7, 6, 0, 7, 0, 0) := by decide +kernel
theorem m113_6 : smI 113 6 = some (.iconst 2, 7, 0, 0, 0, 2) := by decide +kernel
theorem m113_7 : smI 113 7 = some (.iaload, 8, 0, 0, 0, 0) := by decide +kernel
theorem m113_8 : smI 113 8 = some (.iconst 1, 9, 0, 0, 0, 1) := by decide +kernel
theorem m113_9 : smI 113 9 = some (.isub, 10, 0, 0, 0, 0) := by decide +kernel
theorem m113_10 : smI 113 10 = some (.invokestatic 44, 13, 0, 107, 3, 0) := by decide +kernel
theorem m113_13 : smI 113 13 = some (.ireturn, 14, 0, 0, 0, 0) := by decide +kernel
theorem m114_0 : smI 114 0 = some (.aload_n 0, 1, 0, 0, 0, 0) := by decide +kernel
theorem m114_1 : smI 114 1 = some (.getfield 7, 4, 0, 7, 0, 0) := by decide +kernel
theorem m114_4 : smI 114 4 = some (.iload_n 1, 5, 0, 0, 0, 0) := by decide +kernel
theorem m114_5 : smI 114 5 = some (.iaload, 6, 0, 0, 0, 0) := by decide +kernel
theorem m114_6 : smI 114 6 = some (.istore_n 3, 7, 0, 0, 0, 0) := by decide +kernel
theorem m114_7 : smI 114 7 = some (.aload_n 0, 8, 0, 0, 0, 0) := by decide +kernel
theorem m114_8 : smI 114 8 = some (.getfield 7, 11, 0, 7, 0, 0) := by decide +kernel
theorem m114_11 : smI 114 11 = some (.iload_n 1, 12, 0, 0, 0, 0) := by decide +kernel
theorem m114_12 : smI 114 12 = some (.iload_n 2, 13, 0, 0, 0, 0) := by decide +kernel
theorem m114_13 : smI 114 13 = some (.iastore, 14, 0, 0, 0, 0) := by decide +kernel
theorem m114_14 : smI 114 14 = some (.iload_n 3, 15, 0, 0, 0, 0) := by decide +kernel
theorem m114_15 : smI 114 15 = some (.ireturn, 16, 0, 0, 0, 0) := by decide +kernel
theorem m115_0 : smI 115 0 = some (.iload_n 1, 1, 0, 0, 0, 0) := by decide +kernel
theorem m115_1 : smI 115 1 = some (.iconst 0, 2, 0, 0, 0, 0) := by decide +kernel
theorem m115_2 : smI 115 2 = some (.bipush 7, 4, 0, 0, 0, 7) := by decide +kernel
theorem m115_4 : smI 115 4 = some (.invokestatic 44, 7, 0, 107, 3, 0) := by decide +kernel
theorem m115_7 : smI 115 7 = some (.ifCond .eq 25, 10, 0, 32, 0, 0) := by decide +kernel
theorem m115_10 : smI 115 10 = some (.iload_n 2, 11, 0, 0, 0, 0) := by decide +kernel
theorem m115_11 : smI 115 11 = some (.iconst 0, 12, 0, 0, 0, 0) := by decide +kernel
theorem m115_12 : smI 115 12 = some (.bipush 30, 14, 0, 0, 0, 30) := by decide +kernel
theorem m115_14 : smI 115 14 = some (.invokestatic 44, 17, 0, 107, 3, 0) := by decide +kernel
theorem m115_17 : smI 115 17 = some (.ifCond .eq 15, 20, 0, 32, 0, 0) := by decide +kernel
theorem m115_20 : smI 115 20 = some (.aload_n 0, 21, 0, 0, 0, 0) := by decide +kernel
theorem m115_21 : smI 115 21 = some (.bipush 8, 23, 0, 0, 0, 8) := by decide +kernel
theorem m115_23 : smI 115 23 = some (.iload_n 1, 24, 0, 0, 0, 0) := by decide +kernel
theorem m115_24 : smI 115 24 = some (.iadd, 25, 0, 0, 0, 0) := by decide +kernel
theorem m115_25 : smI 115 25 = some (.iload_n 2, 26, 0, 0, 0, 0) := by decide +kernel
theorem m115_26 : smI 115 26 = some (.invokevirtual 48, 29, 20, 114, 2, 0) := by decide +kernel
theorem m115_29 : smI 115 29 = some (.goto 9, 32, 0, 38, 0, 0) := by decide +kernel
theorem m115_32 : smI 115 32 = some (.aload_n 0, 33, 0, 0, 0, 0) := by decide +kernel
theorem m115_33 : smI 115 33 = some (.ldc 52, 35, 0, 0, 0, -1000000001) := by decide +kernel
theorem m115_35 : smI 115 35 = some (.invokevirtual 53, 38, 20, 108, 1, 0) := by decide +kernel
theorem m115_38 : smI 115 38 = some (.ireturn, 39, 0, 0, 0, 0) := by decide +kernel
theorem m116_0 : smI 116 0 = some (.iload_n 1, 1, 0, 0, 0, 0) := by decide +kernel
theorem m116_1 : smI 116 1 = some (.iconst 0, 2, 0, 0, 0, 0) := by decide +kernel
theorem m116_2 : smI 116 2 = some (.bipush 7, 4, 0, 0, 0, 7) := by decide +kernel
theorem m116_4 : smI 116 4 = some (.invokestatic 44, 7, 0, 107, 3, 0) := by decide +kernel
theorem m116_7 : smI 116 7 = some (.ifCond .eq 15, 10, 0, 22, 0, 0) := by decide +kernel
theorem m116_10 : smI 116 10 = some (.aload_n 0, 11, 0, 0, 0, 0) := by decide +kernel
theorem m116_11 : smI 116 11 = some (.getfield 7, 14, 0, 7, 0, 0) := by decide +kernel
theorem m116_14 : smI 116 14 = some (.bipush 8, 16, 0, 0, 0, 8) := by decide +kernel
theorem m116_16 : smI 116 16 = some (.iload_n 1, 17, 0, 0, 0, 0) := by decide +kernel
theorem m116_17 : smI 116 17 = some (.iadd, 18, 0, 0, 0, 0) := by decide +kernel
theorem m116_18 : smI 116 18 = some (.iaload, 19, 0, 0, 0, 0) := by decide +kernel
theorem m116_19 : smI 116 19 = some (.goto 9, 22, 0, 28, 0, 0) := by decide +kernel
theorem m116_22 : smI 116 22 = some (.aload_n 0, 23, 0, 0, 0, 0) := by decide +kernel
theorem m116_23 : smI 116 23 = some (.ldc 52, 25, 0, 0, 0, -1000000001) := by decide +kernel
theorem m116_25 : smI 116 25 = some (.invokevirtual 53, 28, 20, 108, 1, 0) := by decide +kernel
theorem m116_28 : smI 116 28 = some (.ireturn, 29, 0, 0, 0, 0) := by decide +kernel
theorem m117_0 : smI 117 0 = some (.iload_n 1, 1, 0, 0, 0, 0) := by decide +kernel
theorem m117_1 : smI 117 1 = some (.iconst 1, 2, 0, 0, 0, 1) := by decide +kernel
theorem m117_2 : smI 117 2 = some (.iconst 4, 3, 0, 0, 0, 4) := by decide +kernel
theorem m117_3 : smI 117 3 = some (.invokestatic 44, 6, 0, 107, 3, 0) := by decide +kernel
theorem m117_6 : smI 117 6 = some (.ifCond .eq 13, 9, 0, 19, 0, 0) := by decide +kernel
theorem m117_9 : smI 117 9 = some (.aload_n 0, 10, 0, 0, 0, 0) := by decide +kernel
theorem m117_10 : smI 117 10 = some (.bipush 7, 12, 0, 0, 0, 7) := by decide +kernel
theorem m117_12 : smI 117 12 = some (.iload_n 1, 13, 0, 0, 0, 0) := by decide +kernel
theorem m117_13 : smI 117 13 = some (.invokevirtual 48, 16, 20, 114, 2, 0) := by decide +kernel
theorem m117_16 : smI 117 16 = some (.goto 9, 19, 0, 25, 0, 0) := by decide +kernel
theorem m117_19 : smI 117 19 = some (.aload_n 0, 20, 0, 0, 0, 0) := by decide +kernel
theorem m117_20 : smI 117 20 = some (.ldc 52, 22, 0, 0, 0, -1000000001) := by decide +kernel
theorem m117_22 : smI 117 22 = some (.invokevirtual 53, 25, 20, 108, 1, 0) := by decide +kernel
theorem m117_25 : smI 117 25 = some (.ireturn, 26, 0, 0, 0, 0) := by decide +kernel
theorem m118_0 : smI 118 0 = some (.iload_n 1, 1, 0, 0, 0, 0) := by decide +kernel
theorem m118_1 : smI 118 1 = some (.iconst 0, 2, 0, 0, 0, 0) := by decide +kernel
theorem m118_2 : smI 118 2 = some (.bipush 69, 4, 0, 0, 0, 69) := by decide +kernel
theorem m118_4 : smI 118 4 = some (.invokestatic 44, 7, 0, 107, 3, 0) := by decide +kernel
theorem m118_7 : smI 118 7 = some (.ifCond .eq 23, 10, 0, 30, 0, 0) := by decide +kernel
theorem m118_10 : smI 118 10 = some (.iload_n 2, 11, 0, 0, 0, 0) := by decide +kernel
theorem m118_11 : smI 118 11 = some (.iconst 0, 12, 0, 0, 0, 0) := by decide +kernel
theorem m118_12 : smI 118 12 = some (.bipush 99, 14, 0, 0, 0, 99) := by decide +kernel
theorem m118_14 : smI 118 14 = some (.invokestatic 44, 17, 0, 107, 3, 0) := by decide +kernel
theorem m118_17 : smI 118 17 = some (.ifCond .eq 13, 20, 0, 30, 0, 0) := by decide +kernel
theorem m118_20 : smI 118 20 = some (.iload_n 3, 21, 0, 0, 0, 0) := by decide +kernel
theorem m118_21 : smI 118 21 = some (.iconst 0, 22, 0, 0, 0, 0) := by decide +kernel
theorem m118_22 : smI 118 22 = some (.bipush 9, 24, 0, 0, 0, 9) := by decide +kernel
theorem m118_24 : smI 118 24 = some (.invokestatic 44, 27, 0, 107, 3, 0) := by decide +kernel
theorem m118_27 : smI 118 27 = some (.ifCond .ne 10, 30, 0, 37, 0, 0) := by decide +kernel
theorem m118_30 : smI 118 30 = some (.aload_n 0, 31, 0, 0, 0, 0) := by decide +kernel
theorem m118_31 : smI 118 31 = some (.ldc 52, 33, 0, 0, 0, -1000000001) := by decide +kernel
theorem m118_33 : smI 118 33 = some (.invokevirtual 53, 36, 20, 108, 1, 0) := by decide +kernel
theorem m118_36 : smI 118 36 = some (.ireturn, 37, 0, 0, 0, 0) := by decide +kernel
theorem m118_37 : smI 118 37 = some (.aload_n 0, 38, 0, 0, 0, 0) := by decide +kernel
theorem m118_38 : smI 118 38 = some (.getfield 7, 41, 0, 7, 0, 0) := by decide +kernel
theorem m118_41 : smI 118 41 = some (.iconst 2, 42, 0, 0, 0, 2) := by decide +kernel
theorem m118_42 : smI 118 42 = some (.iaload, 43, 0, 0, 0, 0) := by decide +kernel
theorem m118_43 : smI 118 43 = some (.bipush 8, 45, 0, 0, 0, 8) := by decide +kernel
theorem m118_45 : smI 118 45 = some (.if_icmp .ne 10, 48, 0, 55, 0, 0) := by decide +kernel
theorem m118_55 : smI 118 55 = some (.aload_n 0, 56, 0, 0, 0, 0) := by decide +kernel
theorem m118_56 : smI 118 56 = some (.getfield 7, 59, 0, 7, 0, 0) := by decide +kernel
theorem m118_59 : smI 118 59 = some (.iconst 2, 60, 0, 0, 0, 2) := by decide +kernel
theorem m118_60 : smI 118 60 = some (.iaload, 61, 0, 0, 0, 0) := by decide +kernel
theorem m118_61 : smI 118 61 = some (.istore 4, 63, 0, 0, 0, 0) := by decide +kernel
theorem m118_63 : smI 118 63 = some (.aload_n 0, 64, 0, 0, 0, 0) := by decide +kernel
theorem m118_64 : smI 118 64 = some (.iload 4, 66, 0, 0, 0, 0) := by decide +kernel
theorem m118_66 : smI 118 66 = some (.iconst 0, 67, 0, 0, 0, 0) := by decide +kernel
theorem m118_67 : smI 118 67 = some (.iload_n 1, 68, 0, 0, 0, 0) := by decide +kernel
theorem m118_68 : smI 118 68 = some (.bipush 10, 70, 0, 0, 0, 10) := by decide +kernel
theorem m118_70 : smI 118 70 = some (.idiv, 71, 0, 0, 0, 0) := by decide +kernel
theorem m118_71 : smI 118 71 = some (.invokevirtual 58, 74, 20, 112, 3, 0) := by decide +kernel
theorem m118_74 : smI 118 74 = some (.aload_n 0, 75, 0, 0, 0, 0) := by decide +kernel
theorem m118_75 : smI 118 75 = some (.iload 4, 77, 0, 0, 0, 0) := by decide +kernel
theorem m118_77 : smI 118 77 = some (.iconst 1, 78, 0, 0, 0, 1) := by decide +kernel
theorem m118_78 : smI 118 78 = some (.iload_n 1, 79, 0, 0, 0, 0) := by decide +kernel
theorem m118_79 : smI 118 79 = some (.bipush 10, 81, 0, 0, 0, 10) := by decide +kernel
theorem m118_81 : smI 118 81 = some (.irem, 82, 0, 0, 0, 0) := by decide +kernel
theorem m118_82 : smI 118 82 = some (.invokevirtual 58, 85, 20, 112, 3, 0) := by decide +kernel
theorem m118_85 : smI 118 85 = some (.aload_n 0, 86, 0, 0, 0, 0) := by decide +kernel
theorem m118_86 : smI 118 86 = some (.iload 4, 88, 0, 0, 0, 0) := by decide +kernel
theorem m118_88 : smI 118 88 = some (.iconst 2, 89, 0, 0, 0, 2) := by decide +kernel
theorem m118_89 : smI 118 89 = some (.iload_n 2, 90, 0, 0, 0, 0) := by decide +kernel
theorem m118_90 : smI 118 90 = some (.invokevirtual 58, 93, 20, 112, 3, 0) := by decide +kernel
theorem m118_93 : smI 118 93 = some (.aload_n 0, 94, 0, 0, 0, 0) := by decide +kernel
theorem m118_94 : smI 118 94 = some (.iload 4, 96, 0, 0, 0, 0) := by decide +kernel
theorem m118_96 : smI 118 96 = some (.iconst 3, 97, 0, 0, 0, 3) := by decide +kernel
theorem m118_97 : smI 118 97 = some (.iload_n 3, 98, 0, 0, 0, 0) := by decide +kernel
theorem m118_98 : smI 118 98 = some (.invokevirtual 58, 101, 20, 112, 3, 0) := by decide +kernel
theorem m118_101 : smI 118 101 = some (.aload_n 0, 102, 0, 0, 0, 0) := by decide +kernel
theorem m118_102 : smI 118 102 = some (.iload 4, 104, 0, 0, 0, 0) := by decide +kernel
theorem m118_104 : smI 118 104 = some (.iconst 4, 105, 0, 0, 0, 4) := by decide +kernel
theorem m118_105 : smI 118 105 = some (.iconst 0, 106, 0, 0, 0, 0) := by decide +kernel
theorem m118_106 : smI 118 106 = some (.invokevirtual 58, 109, 20, 112, 3, 0) := by decide +kernel
theorem m118_109 : smI 118 109 = some (.aload_n 0, 110, 0, 0, 0, 0) := by decide +kernel
theorem m118_110 : smI 118 110 = some (.iload 4, 112, 0, 0, 0, 0) := by decide +kernel
theorem m118_112 : smI 118 112 = some (.iconst 5, 113, 0, 0, 0, 5) := by decide +kernel
theorem m118_113 : smI 118 113 = some (.iconst 0, 114, 0, 0, 0, 0) := by decide +kernel
theorem m118_114 : smI 118 114 = some (.invokevirtual 58, 117, 20, 112, 3, 0) := by decide +kernel
theorem m118_117 : smI 118 117 = some (.aload_n 0, 118, 0, 0, 0, 0) := by decide +kernel
theorem m118_118 : smI 118 118 = some (.getfield 7, 121, 0, 7, 0, 0) := by decide +kernel
theorem m118_121 : smI 118 121 = some (.iconst 2, 122, 0, 0, 0, 2) := by decide +kernel
theorem m118_122 : smI 118 122 = some (.dup2, 123, 0, 0, 0, 0) := by decide +kernel
theorem m118_123 : smI 118 123 = some (.iaload, 124, 0, 0, 0, 0) := by decide +kernel
theorem m118_124 : smI 118 124 = some (.iconst 1, 125, 0, 0, 0, 1) := by decide +kernel
theorem m118_125 : smI 118 125 = some (.iadd, 126, 0, 0, 0, 0) := by decide +kernel
theorem m118_126 : smI 118 126 = some (.iastore, 127, 0, 0, 0, 0) := by decide +kernel
theorem m118_127 : smI 118 127 = some (.iload 4, 129, 0, 0, 0, 0) := by decide +kernel
theorem m118_129 : smI 118 129 = some (.ireturn, 130, 0, 0, 0, 0) := by decide +kernel
theorem m119_0 : smI 119 0 = some (.iload_n 1, 1, 0, 0, 0, 0) := by decide +kernel
theorem m119_1 : smI 119 1 = some (.aload_n 0, 2, 0, 0, 0, 0) := by decide +kernel
theorem m119_2 : smI 119 2 = some (.getfield 76, 5, 0, 7, 9, 0) := by decide +kernel
theorem m119_5 : smI 119 5 = some (.if_icmp .ge 24, 8, 0, 29, 0, 0) := by decide +kernel
theorem m119_29 : smI 119 29 = some (.iconst (-1), 30, 0, 0, 0, -1) := by decide +kernel
theorem m119_30 : smI 119 30 = some (.ireturn, 31, 0, 0, 0, 0) := by decide +kernel
theorem m120_0 : smI 120 0 = some (.iload_n 0, 1, 0, 0, 0, 0) := by decide +kernel
theorem m120_1 : smI 120 1 = some (.bipush 48, 3, 0, 0, 0, 48) := by decide +kernel
theorem m120_3 : smI 120 3 = some (.bipush 57, 5, 0, 0, 0, 57) := by decide +kernel
theorem m120_5 : smI 120 5 = some (.invokestatic 44, 8, 0, 107, 3, 0) := by decide +kernel
theorem m120_8 : smI 120 8 = some (.ireturn, 9, 0, 0, 0, 0) := by decide +kernel
theorem m122_0 : smI 122 0 = some (.aload_n 0, 1, 0, 0, 0, 0) := by decide +kernel
theorem m122_1 : smI 122 1 = some (.iconst 0, 2, 0, 0, 0, 0) := by decide +kernel
theorem m122_2 : smI 122 2 = some (.putfield 83, 5, 0, 7, 14, 0) := by decide +kernel
theorem m122_5 : smI 122 5 = some (.iconst 0, 6, 0, 0, 0, 0) := by decide +kernel
theorem m122_6 : smI 122 6 = some (.ireturn, 7, 0, 0, 0, 0) := by decide +kernel
theorem m123_0 : smI 123 0 = some (.iload_n 1, 1, 0, 0, 0, 0) := by decide +kernel
theorem m123_1 : smI 123 1 = some (.bipush 104, 3, 0, 0, 0, 104) := by decide +kernel
theorem m123_3 : smI 123 3 = some (.if_icmp .ne 7, 6, 0, 10, 0, 0) := by decide +kernel
theorem m123_10 : smI 123 10 = some (.iconst 0, 11, 0, 0, 0, 0) := by decide +kernel
theorem m123_11 : smI 123 11 = some (.istore_n 2, 12, 0, 0, 0, 0) := by decide +kernel
theorem m123_12 : smI 123 12 = some (.iload_n 1, 13, 0, 0, 0, 0) := by decide +kernel
theorem m123_13 : smI 123 13 = some (.aload_n 0, 14, 0, 0, 0, 0) := by decide +kernel
theorem m123_14 : smI 123 14 = some (.getfield 80, 17, 0, 7, 7, 0) := by decide +kernel
theorem m123_17 : smI 123 17 = some (.ifCond .ne 8, 20, 0, 25, 0, 0) := by decide +kernel
theorem m123_20 : smI 123 20 = some (.bipush 99, 22, 0, 0, 0, 99) := by decide +kernel
theorem m123_22 : smI 123 22 = some (.goto 5, 25, 0, 27, 0, 0) := by decide +kernel
theorem m123_25 : smI 123 25 = some (.bipush 102, 27, 0, 0, 0, 102) := by decide +kernel
theorem m123_27 : smI 123 27 = some (.if_icmp .ne 7, 30, 0, 34, 0, 0) := by decide +kernel
theorem m123_34 : smI 123 34 = some (.iconst 0, 35, 0, 0, 0, 0) := by decide +kernel
theorem m123_35 : smI 123 35 = some (.istore_n 3, 36, 0, 0, 0, 0) := by decide +kernel
theorem m123_36 : smI 123 36 = some (.iload_n 1, 37, 0, 0, 0, 0) := by decide +kernel
theorem m123_37 : smI 123 37 = some (.aload_n 0, 38, 0, 0, 0, 0) := by decide +kernel
theorem m123_38 : smI 123 38 = some (.getfield 80, 41, 0, 7, 7, 0) := by decide +kernel
theorem m123_41 : smI 123 41 = some (.ifCond .ne 8, 44, 0, 49, 0, 0) := by decide +kernel
theorem m123_44 : smI 123 44 = some (.bipush 115, 46, 0, 0, 0, 115) := by decide +kernel
theorem m123_46 : smI 123 46 = some (.goto 5, 49, 0, 51, 0, 0) := by decide +kernel
theorem m123_49 : smI 123 49 = some (.bipush 99, 51, 0, 0, 0, 99) := by decide +kernel
theorem m123_51 : smI 123 51 = some (.if_icmp .ne 7, 54, 0, 58, 0, 0) := by decide +kernel
theorem m123_58 : smI 123 58 = some (.iconst 0, 59, 0, 0, 0, 0) := by decide +kernel
theorem m123_59 : smI 123 59 = some (.istore 4, 61, 0, 0, 0, 0) := by decide +kernel
theorem m123_61 : smI 123 61 = some (.iload_n 2, 62, 0, 0, 0, 0) := by decide +kernel
theorem m123_62 : smI 123 62 = some (.ifCond .ne 17, 65, 0, 79, 0, 0) := by decide +kernel
theorem m123_65 : smI 123 65 = some (.iload_n 3, 66, 0, 0, 0, 0) := by decide +kernel
theorem m123_66 : smI 123 66 = some (.ifCond .ne 13, 69, 0, 79, 0, 0) := by decide +kernel
theorem m123_69 : smI 123 69 = some (.iload 4, 71, 0, 0, 0, 0) := by decide +kernel
theorem m123_71 : smI 123 71 = some (.ifCond .ne 8, 74, 0, 79, 0, 0) := by decide +kernel
theorem m123_74 : smI 123 74 = some (.aload_n 0, 75, 0, 0, 0, 0) := by decide +kernel
theorem m123_75 : smI 123 75 = some (.invokevirtual 96, 78, 20, 122, 0, 0) := by decide +kernel
theorem m123_78 : smI 123 78 = some (.ireturn, 79, 0, 0, 0, 0) := by decide +kernel
theorem m124_0 : smI 124 0 = some (.aload_n 0, 1, 0, 0, 0, 0) := by decide +kernel
theorem m124_1 : smI 124 1 = some (.invokevirtual 127, 4, 20, 127, 0, 0) := by decide +kernel
theorem m124_4 : smI 124 4 = some (.istore_n 1, 5, 0, 0, 0, 0) := by decide +kernel
theorem m124_5 : smI 124 5 = some (.aload_n 0, 6, 0, 0, 0, 0) := by decide +kernel
theorem m124_6 : smI 124 6 = some (.getfield 83, 9, 0, 7, 14, 0) := by decide +kernel
theorem m124_9 : smI 124 9 = some (.ifCond .eq 14, 12, 0, 23, 0, 0) := by decide +kernel
theorem m124_23 : smI 124 23 = some (.iconst (-1), 24, 0, 0, 0, -1) := by decide +kernel
theorem m124_24 : smI 124 24 = some (.istore_n 2, 25, 0, 0, 0, 0) := by decide +kernel
theorem m124_25 : smI 124 25 = some (.iload_n 2, 26, 0, 0, 0, 0) := by decide +kernel
theorem m124_26 : smI 124 26 = some (.bipush 60, 28, 0, 0, 0, 60) := by decide +kernel
theorem m124_28 : smI 124 28 = some (.if_icmp .eq 17, 31, 0, 45, 0, 0) := by decide +kernel
theorem m124_31 : smI 124 31 = some (.iload_n 2, 32, 0, 0, 0, 0) := by decide +kernel
theorem m124_32 : smI 124 32 = some (.bipush 61, 34, 0, 0, 0, 61) := by decide +kernel
theorem m124_34 : smI 124 34 = some (.if_icmp .eq 11, 37, 0, 45, 0, 0) := by decide +kernel
theorem m124_37 : smI 124 37 = some (.iload_n 2, 38, 0, 0, 0, 0) := by decide +kernel
theorem m124_38 : smI 124 38 = some (.bipush 62, 40, 0, 0, 0, 62) := by decide +kernel
theorem m124_40 : smI 124 40 = some (.if_icmp .eq 5, 43, 0, 45, 0, 0) := by decide +kernel
theorem m124_43 : smI 124 43 = some (.iload_n 1, 44, 0, 0, 0, 0) := by decide +kernel
theorem m124_44 : smI 124 44 = some (.ireturn, 45, 0, 0, 0, 0) := by decide +kernel
theorem m125_0 : smI 125 0 = some (.aload_n 0, 1, 0, 0, 0, 0) := by decide +kernel
theorem m125_1 : smI 125 1 = some (.aload_n 0, 2, 0, 0, 0, 0) := by decide +kernel
theorem m125_2 : smI 125 2 = some (.getfield 87, 5, 0, 7, 8, 0) := by decide +kernel
theorem m125_5 : smI 125 5 = some (.invokevirtual 90, 8, 20, 119, 1, 0) := by decide +kernel
theorem m125_8 : smI 125 8 = some (.istore_n 1, 9, 0, 0, 0, 0) := by decide +kernel
theorem m125_9 : smI 125 9 = some (.iload_n 1, 10, 0, 0, 0, 0) := by decide +kernel
theorem m125_10 : smI 125 10 = some (.invokestatic 93, 13, 0, 120, 1, 0) := by decide +kernel
theorem m125_13 : smI 125 13 = some (.ifCond .eq 8, 16, 0, 21, 0, 0) := by decide +kernel
theorem m125_21 : smI 125 21 = some (.iload_n 1, 22, 0, 0, 0, 0) := by decide +kernel
theorem m125_22 : smI 125 22 = some (.bipush 33, 24, 0, 0, 0, 33) := by decide +kernel
theorem m125_24 : smI 125 24 = some (.if_icmp .eq 15, 27, 0, 39, 0, 0) := by decide +kernel
theorem m125_27 : smI 125 27 = some (.iload_n 1, 28, 0, 0, 0, 0) := by decide +kernel
theorem m125_28 : smI 125 28 = some (.bipush 40, 30, 0, 0, 0, 40) := by decide +kernel
theorem m125_30 : smI 125 30 = some (.if_icmp .eq 9, 33, 0, 39, 0, 0) := by decide +kernel
theorem m125_33 : smI 125 33 = some (.aload_n 0, 34, 0, 0, 0, 0) := by decide +kernel
theorem m125_34 : smI 125 34 = some (.iload_n 1, 35, 0, 0, 0, 0) := by decide +kernel
theorem m125_35 : smI 125 35 = some (.invokevirtual 112, 38, 20, 123, 1, 0) := by decide +kernel
theorem m125_38 : smI 125 38 = some (.ireturn, 39, 0, 0, 0, 0) := by decide +kernel
theorem m126_0 : smI 126 0 = some (.aload_n 0, 1, 0, 0, 0, 0) := by decide +kernel
theorem m126_1 : smI 126 1 = some (.invokevirtual 118, 4, 20, 125, 0, 0) := by decide +kernel
theorem m126_4 : smI 126 4 = some (.istore_n 1, 5, 0, 0, 0, 0) := by decide +kernel
theorem m126_5 : smI 126 5 = some (.aload_n 0, 6, 0, 0, 0, 0) := by decide +kernel
theorem m126_6 : smI 126 6 = some (.getfield 83, 9, 0, 7, 14, 0) := by decide +kernel
theorem m126_9 : smI 126 9 = some (.ifCond .eq 105, 12, 0, 114, 0, 0) := by decide +kernel
theorem m126_114 : smI 126 114 = some (.iload_n 1, 115, 0, 0, 0, 0) := by decide +kernel
theorem m126_115 : smI 126 115 = some (.ireturn, 116, 0, 0, 0, 0) := by decide +kernel
theorem m127_0 : smI 127 0 = some (.aload_n 0, 1, 0, 0, 0, 0) := by decide +kernel
theorem m127_1 : smI 127 1 = some (.invokevirtual 124, 4, 20, 126, 0, 0) := by decide +kernel
theorem m127_4 : smI 127 4 = some (.istore_n 1, 5, 0, 0, 0, 0) := by decide +kernel
theorem m127_5 : smI 127 5 = some (.aload_n 0, 6, 0, 0, 0, 0) := by decide +kernel
theorem m127_6 : smI 127 6 = some (.getfield 83, 9, 0, 7, 14, 0) := by decide +kernel
theorem m127_9 : smI 127 9 = some (.ifCond .eq 72, 12, 0, 81, 0, 0) := by decide +kernel
theorem m127_81 : smI 127 81 = some (.iload_n 1, 82, 0, 0, 0, 0) := by decide +kernel
theorem m127_82 : smI 127 82 = some (.ireturn, 83, 0, 0, 0, 0) := by decide +kernel
theorem m128_0 : smI 128 0 = some (.aload_n 0, 1, 0, 0, 0, 0) := by decide +kernel
theorem m128_1 : smI 128 1 = some (.invokevirtual 133, 4, 20, 129, 0, 0) := by decide +kernel
theorem m128_4 : smI 128 4 = some (.istore_n 1, 5, 0, 0, 0, 0) := by decide +kernel
theorem m128_5 : smI 128 5 = some (.aload_n 0, 6, 0, 0, 0, 0) := by decide +kernel
theorem m128_6 : smI 128 6 = some (.getfield 83, 9, 0, 7, 14, 0) := by decide +kernel
theorem m128_9 : smI 128 9 = some (.ifCond .eq 48, 12, 0, 57, 0, 0) := by decide +kernel
theorem m128_57 : smI 128 57 = some (.iload_n 1, 58, 0, 0, 0, 0) := by decide +kernel
theorem m128_58 : smI 128 58 = some (.ireturn, 59, 0, 0, 0, 0) := by decide +kernel
theorem m129_0 : smI 129 0 = some (.aload_n 0, 1, 0, 0, 0, 0) := by decide +kernel
theorem m129_1 : smI 129 1 = some (.invokevirtual 130, 4, 20, 124, 0, 0) := by decide +kernel
theorem m129_4 : smI 129 4 = some (.istore_n 1, 5, 0, 0, 0, 0) := by decide +kernel
theorem m129_5 : smI 129 5 = some (.aload_n 0, 6, 0, 0, 0, 0) := by decide +kernel
theorem m129_6 : smI 129 6 = some (.getfield 83, 9, 0, 7, 14, 0) := by decide +kernel
theorem m129_9 : smI 129 9 = some (.ifCond .eq 48, 12, 0, 57, 0, 0) := by decide +kernel
theorem m129_57 : smI 129 57 = some (.iload_n 1, 58, 0, 0, 0, 0) := by decide +kernel
theorem m129_58 : smI 129 58 = some (.ireturn, 59, 0, 0, 0, 0) := by decide +kernel
theorem m130_0 : smI 130 0 = some (.aload_n 0, 1, 0, 0, 0, 0) := by decide +kernel
theorem m130_1 : smI 130 1 = some (.iload_n 1, 2, 0, 0, 0, 0) := by decide +kernel
theorem m130_2 : smI 130 2 = some (.putfield 80, 5, 0, 7, 7, 0) := by decide +kernel
theorem m130_5 : smI 130 5 = some (.aload_n 0, 6, 0, 0, 0, 0) := by decide +kernel
theorem m130_6 : smI 130 6 = some (.iconst 0, 7, 0, 0, 0, 0) := by decide +kernel
theorem m130_7 : smI 130 7 = some (.putfield 87, 10, 0, 7, 8, 0) := by decide +kernel
theorem m130_10 : smI 130 10 = some (.aload_n 0, 11, 0, 0, 0, 0) := by decide +kernel
theorem m130_11 : smI 130 11 = some (.aload_n 0, 12, 0, 0, 0, 0) := by decide +kernel
theorem m130_12 : smI 130 12 = some (.getfield 7, 15, 0, 7, 0, 0) := by decide +kernel
theorem m130_15 : smI 130 15 = some (.iconst 5, 16, 0, 0, 0, 5) := by decide +kernel
theorem m130_16 : smI 130 16 = some (.iload_n 1, 17, 0, 0, 0, 0) := by decide +kernel
theorem m130_17 : smI 130 17 = some (.iadd, 18, 0, 0, 0, 0) := by decide +kernel
theorem m130_18 : smI 130 18 = some (.iaload, 19, 0, 0, 0, 0) := by decide +kernel
theorem m130_19 : smI 130 19 = some (.putfield 76, 22, 0, 7, 9, 0) := by decide +kernel
theorem m130_22 : smI 130 22 = some (.aload_n 0, 23, 0, 0, 0, 0) := by decide +kernel
theorem m130_23 : smI 130 23 = some (.iconst 0, 24, 0, 0, 0, 0) := by decide +kernel
theorem m130_24 : smI 130 24 = some (.putfield 115, 27, 0, 7, 10, 0) := by decide +kernel
theorem m130_27 : smI 130 27 = some (.aload_n 0, 28, 0, 0, 0, 0) := by decide +kernel
theorem m130_28 : smI 130 28 = some (.iconst 1, 29, 0, 0, 0, 1) := by decide +kernel
theorem m130_29 : smI 130 29 = some (.putfield 83, 32, 0, 7, 14, 0) := by decide +kernel
theorem m130_32 : smI 130 32 = some (.aload_n 0, 33, 0, 0, 0, 0) := by decide +kernel
theorem m130_33 : smI 130 33 = some (.iload_n 2, 34, 0, 0, 0, 0) := by decide +kernel
theorem m130_34 : smI 130 34 = some (.putfield 100, 37, 0, 7, 11, 0) := by decide +kernel
theorem m130_37 : smI 130 37 = some (.aload_n 0, 38, 0, 0, 0, 0) := by decide +kernel
theorem m130_38 : smI 130 38 = some (.iload_n 3, 39, 0, 0, 0, 0) := by decide +kernel
theorem m130_39 : smI 130 39 = some (.putfield 103, 42, 0, 7, 12, 0) := by decide +kernel
theorem m130_42 : smI 130 42 = some (.aload_n 0, 43, 0, 0, 0, 0) := by decide +kernel
theorem m130_43 : smI 130 43 = some (.iload 4, 45, 0, 0, 0, 0) := by decide +kernel
theorem m130_45 : smI 130 45 = some (.putfield 106, 48, 0, 7, 13, 0) := by decide +kernel
theorem m130_48 : smI 130 48 = some (.aload_n 0, 49, 0, 0, 0, 0) := by decide +kernel
theorem m130_49 : smI 130 49 = some (.invokevirtual 121, 52, 20, 128, 0, 0) := by decide +kernel
theorem m130_52 : smI 130 52 = some (.istore 5, 54, 0, 0, 0, 0) := by decide +kernel
theorem m130_54 : smI 130 54 = some (.aload_n 0, 55, 0, 0, 0, 0) := by decide +kernel
theorem m130_55 : smI 130 55 = some (.aload_n 0, 56, 0, 0, 0, 0) := by decide +kernel
theorem m130_56 : smI 130 56 = some (.getfield 83, 59, 0, 7, 14, 0) := by decide +kernel
theorem m130_59 : smI 130 59 = some (.ifCond .eq 18, 62, 0, 77, 0, 0) := by decide +kernel
theorem m130_77 : smI 130 77 = some (.iconst 0, 78, 0, 0, 0, 0) := by decide +kernel
theorem m130_78 : smI 130 78 = some (.putfield 83, 81, 0, 7, 14, 0) := by decide +kernel
theorem m130_81 : smI 130 81 = some (.iload 5, 83, 0, 0, 0, 0) := by decide +kernel
theorem m130_83 : smI 130 83 = some (.ireturn, 84, 0, 0, 0, 0) := by decide +kernel
theorem m131_0 : smI 131 0 = some (.iload_n 1, 1, 0, 0, 0, 0) := by decide +kernel
theorem m131_1 : smI 131 1 = some (.ifCond .ne 8, 4, 0, 9, 0, 0) := by decide +kernel
theorem m131_4 : smI 131 4 = some (.bipush 99, 6, 0, 0, 0, 99) := by decide +kernel
theorem m131_6 : smI 131 6 = some (.goto 4, 9, 0, 10, 0, 0) := by decide +kernel
theorem m131_9 : smI 131 9 = some (.iconst 1, 10, 0, 0, 0, 1) := by decide +kernel
theorem m131_10 : smI 131 10 = some (.istore 5, 12, 0, 0, 0, 0) := by decide +kernel
theorem m131_12 : smI 131 12 = some (.aload_n 0, 13, 0, 0, 0, 0) := by decide +kernel
theorem m131_13 : smI 131 13 = some (.getfield 7, 16, 0, 7, 0, 0) := by decide +kernel
theorem m131_16 : smI 131 16 = some (.iconst 5, 17, 0, 0, 0, 5) := by decide +kernel
theorem m131_17 : smI 131 17 = some (.iload_n 1, 18, 0, 0, 0, 0) := by decide +kernel
theorem m131_18 : smI 131 18 = some (.iadd, 19, 0, 0, 0, 0) := by decide +kernel
theorem m131_19 : smI 131 19 = some (.iaload, 20, 0, 0, 0, 0) := by decide +kernel
theorem m131_20 : smI 131 20 = some (.ifCond .lt 19, 23, 0, 39, 0, 0) := by decide +kernel
theorem m131_39 : smI 131 39 = some (.iload_n 1, 40, 0, 0, 0, 0) := by decide +kernel
theorem m131_40 : smI 131 40 = some (.ifCond .ne 21, 43, 0, 61, 0, 0) := by decide +kernel
theorem m131_43 : smI 131 43 = some (.iload_n 3, 44, 0, 0, 0, 0) := by decide +kernel
theorem m131_44 : smI 131 44 = some (.bipush 9, 46, 0, 0, 0, 9) := by decide +kernel
theorem m131_46 : smI 131 46 = some (.iadd, 47, 0, 0, 0, 0) := by decide +kernel
theorem m131_47 : smI 131 47 = some (.iload_n 2, 48, 0, 0, 0, 0) := by decide +kernel
theorem m131_48 : smI 131 48 = some (.bipush 9, 50, 0, 0, 0, 9) := by decide +kernel
theorem m131_50 : smI 131 50 = some (.idiv, 51, 0, 0, 0, 0) := by decide +kernel
theorem m131_51 : smI 131 51 = some (.isub, 52, 0, 0, 0, 0) := by decide +kernel
theorem m131_52 : smI 131 52 = some (.iconst 0, 53, 0, 0, 0, 0) := by decide +kernel
theorem m131_53 : smI 131 53 = some (.iload 5, 55, 0, 0, 0, 0) := by decide +kernel
theorem m131_55 : smI 131 55 = some (.invokestatic 140, 58, 0, 109, 3, 0) := by decide +kernel
theorem m131_58 : smI 131 58 = some (.goto 4, 61, 0, 62, 0, 0) := by decide +kernel
theorem m131_61 : smI 131 61 = some (.iconst 0, 62, 0, 0, 0, 0) := by decide +kernel
theorem m131_62 : smI 131 62 = some (.ireturn, 63, 0, 0, 0, 0) := by decide +kernel
theorem m133_0 : smI 133 0 = some (.aload_n 0, 1, 0, 0, 0, 0) := by decide +kernel
theorem m133_1 : smI 133 1 = some (.iload_n 1, 2, 0, 0, 0, 0) := by decide +kernel
theorem m133_2 : smI 133 2 = some (.invokevirtual 62, 5, 20, 113, 1, 0) := by decide +kernel
theorem m133_5 : smI 133 5 = some (.ifCond .eq 13, 8, 0, 18, 0, 0) := by decide +kernel
theorem m133_18 : smI 133 18 = some (.aload_n 0, 19, 0, 0, 0, 0) := by decide +kernel
theorem m133_19 : smI 133 19 = some (.ldc 52, 21, 0, 0, 0, -1000000001) := by decide +kernel
theorem m133_21 : smI 133 21 = some (.invokevirtual 53, 24, 20, 108, 1, 0) := by decide +kernel
theorem m133_24 : smI 133 24 = some (.ireturn, 25, 0, 0, 0, 0) := by decide +kernel
theorem m134_0 : smI 134 0 = some (.iload_n 2, 1, 0, 0, 0, 0) := by decide +kernel
theorem m134_1 : smI 134 1 = some (.ifCond .eq 8, 4, 0, 9, 0, 0) := by decide +kernel
theorem m134_4 : smI 134 4 = some (.iload_n 2, 5, 0, 0, 0, 0) := by decide +kernel
theorem m134_5 : smI 134 5 = some (.iconst 2, 6, 0, 0, 0, 2) := by decide +kernel
theorem m134_6 : smI 134 6 = some (.if_icmp .ne 13, 9, 0, 19, 0, 0) := by decide +kernel
theorem m134_9 : smI 134 9 = some (.iload_n 3, 10, 0, 0, 0, 0) := by decide +kernel
theorem m134_10 : smI 134 10 = some (.iconst 0, 11, 0, 0, 0, 0) := by decide +kernel
theorem m134_11 : smI 134 11 = some (.bipush 99, 13, 0, 0, 0, 99) := by decide +kernel
theorem m134_13 : smI 134 13 = some (.invokestatic 44, 16, 0, 107, 3, 0) := by decide +kernel
theorem m134_16 : smI 134 16 = some (.goto 37, 19, 0, 53, 0, 0) := by decide +kernel
theorem m134_19 : smI 134 19 = some (.iload_n 2, 20, 0, 0, 0, 0) := by decide +kernel
theorem m134_20 : smI 134 20 = some (.iconst 1, 21, 0, 0, 0, 1) := by decide +kernel
theorem m134_21 : smI 134 21 = some (.if_icmp .ne 13, 24, 0, 34, 0, 0) := by decide +kernel
theorem m134_24 : smI 134 24 = some (.iload_n 3, 25, 0, 0, 0, 0) := by decide +kernel
theorem m134_25 : smI 134 25 = some (.iconst 0, 26, 0, 0, 0, 0) := by decide +kernel
theorem m134_26 : smI 134 26 = some (.bipush 9, 28, 0, 0, 0, 9) := by decide +kernel
theorem m134_28 : smI 134 28 = some (.invokestatic 44, 31, 0, 107, 3, 0) := by decide +kernel
theorem m134_31 : smI 134 31 = some (.goto 22, 34, 0, 53, 0, 0) := by decide +kernel
theorem m134_34 : smI 134 34 = some (.iload_n 2, 35, 0, 0, 0, 0) := by decide +kernel
theorem m134_35 : smI 134 35 = some (.iconst 3, 36, 0, 0, 0, 3) := by decide +kernel
theorem m134_36 : smI 134 36 = some (.if_icmp .ne 16, 39, 0, 52, 0, 0) := by decide +kernel
theorem m134_39 : smI 134 39 = some (.iload_n 3, 40, 0, 0, 0, 0) := by decide +kernel
theorem m134_40 : smI 134 40 = some (.iconst 0, 41, 0, 0, 0, 0) := by decide +kernel
theorem m134_41 : smI 134 41 = some (.iconst 1, 42, 0, 0, 0, 1) := by decide +kernel
theorem m134_42 : smI 134 42 = some (.invokestatic 44, 45, 0, 107, 3, 0) := by decide +kernel
theorem m134_45 : smI 134 45 = some (.ifCond .eq 7, 48, 0, 52, 0, 0) := by decide +kernel
theorem m134_48 : smI 134 48 = some (.iconst 1, 49, 0, 0, 0, 1) := by decide +kernel
theorem m134_49 : smI 134 49 = some (.goto 4, 52, 0, 53, 0, 0) := by decide +kernel
theorem m134_52 : smI 134 52 = some (.iconst 0, 53, 0, 0, 0, 0) := by decide +kernel
theorem m134_53 : smI 134 53 = some (.istore 4, 55, 0, 0, 0, 0) := by decide +kernel
theorem m134_55 : smI 134 55 = some (.aload_n 0, 56, 0, 0, 0, 0) := by decide +kernel
theorem m134_56 : smI 134 56 = some (.iload_n 1, 57, 0, 0, 0, 0) := by decide +kernel
theorem m134_57 : smI 134 57 = some (.invokevirtual 62, 60, 20, 113, 1, 0) := by decide +kernel
theorem m134_60 : smI 134 60 = some (.ifCond .eq 27, 63, 0, 87, 0, 0) := by decide +kernel
theorem m134_87 : smI 134 87 = some (.aload_n 0, 88, 0, 0, 0, 0) := by decide +kernel
theorem m134_88 : smI 134 88 = some (.ldc 52, 90, 0, 0, 0, -1000000001) := by decide +kernel
theorem m134_90 : smI 134 90 = some (.invokevirtual 53, 93, 20, 108, 1, 0) := by decide +kernel
theorem m134_93 : smI 134 93 = some (.ireturn, 94, 0, 0, 0, 0) := by decide +kernel
theorem m135_0 : smI 135 0 = some (.aload_n 0, 1, 0, 0, 0, 0) := by decide +kernel
theorem m135_1 : smI 135 1 = some (.iload_n 1, 2, 0, 0, 0, 0) := by decide +kernel
theorem m135_2 : smI 135 2 = some (.invokevirtual 62, 5, 20, 113, 1, 0) := by decide +kernel
theorem m135_5 : smI 135 5 = some (.ifCond .eq 13, 8, 0, 18, 0, 0) := by decide +kernel
theorem m135_18 : smI 135 18 = some (.aload_n 0, 19, 0, 0, 0, 0) := by decide +kernel
theorem m135_19 : smI 135 19 = some (.ldc 52, 21, 0, 0, 0, -1000000001) := by decide +kernel
theorem m135_21 : smI 135 21 = some (.invokevirtual 53, 24, 20, 108, 1, 0) := by decide +kernel
theorem m135_24 : smI 135 24 = some (.ireturn, 25, 0, 0, 0, 0) := by decide +kernel
theorem m137_0 : smI 137 0 = some (.aload_n 0, 1, 0, 0, 0, 0) := by decide +kernel
theorem m137_1 : smI 137 1 = some (.iload_n 1, 2, 0, 0, 0, 0) := by decide +kernel
theorem m137_2 : smI 137 2 = some (.invokevirtual 62, 5, 20, 113, 1, 0) := by decide +kernel
theorem m137_5 : smI 137 5 = some (.ifCond .eq 13, 8, 0, 18, 0, 0) := by decide +kernel
theorem m137_18 : smI 137 18 = some (.aload_n 0, 19, 0, 0, 0, 0) := by decide +kernel
theorem m137_19 : smI 137 19 = some (.ldc 52, 21, 0, 0, 0, -1000000001) := by decide +kernel
theorem m137_21 : smI 137 21 = some (.invokevirtual 53, 24, 20, 108, 1, 0) := by decide +kernel
theorem m137_24 : smI 137 24 = some (.ireturn, 25, 0, 0, 0, 0) := by decide +kernel
theorem m138_0 : smI 138 0 = some (.iload_n 1, 1, 0, 0, 0, 0) := by decide +kernel
theorem m138_1 : smI 138 1 = some (.iconst 0, 2, 0, 0, 0, 0) := by decide +kernel
theorem m138_2 : smI 138 2 = some (.iconst 1, 3, 0, 0, 0, 1) := by decide +kernel
theorem m138_3 : smI 138 3 = some (.invokestatic 44, 6, 0, 107, 3, 0) := by decide +kernel
theorem m138_6 : smI 138 6 = some (.ifCond .eq 15, 9, 0, 21, 0, 0) := by decide +kernel
theorem m138_9 : smI 138 9 = some (.aload_n 0, 10, 0, 0, 0, 0) := by decide +kernel
theorem m138_10 : smI 138 10 = some (.iload_n 1, 11, 0, 0, 0, 0) := by decide +kernel
theorem m138_11 : smI 138 11 = some (.iload_n 2, 12, 0, 0, 0, 0) := by decide +kernel
theorem m138_12 : smI 138 12 = some (.iload_n 3, 13, 0, 0, 0, 0) := by decide +kernel
theorem m138_13 : smI 138 13 = some (.iload 4, 15, 0, 0, 0, 0) := by decide +kernel
theorem m138_15 : smI 138 15 = some (.invokevirtual 144, 18, 20, 131, 4, 0) := by decide +kernel
theorem m138_18 : smI 138 18 = some (.goto 9, 21, 0, 27, 0, 0) := by decide +kernel
theorem m138_21 : smI 138 21 = some (.aload_n 0, 22, 0, 0, 0, 0) := by decide +kernel
theorem m138_22 : smI 138 22 = some (.ldc 52, 24, 0, 0, 0, -1000000001) := by decide +kernel
theorem m138_24 : smI 138 24 = some (.invokevirtual 53, 27, 20, 108, 1, 0) := by decide +kernel
theorem m138_27 : smI 138 27 = some (.ireturn, 28, 0, 0, 0, 0) := by decide +kernel
theorem m139_0 : smI 139 0 = some (.iload_n 3, 1, 0, 0, 0, 0) := by decide +kernel
theorem m139_1 : smI 139 1 = some (.iconst 1, 2, 0, 0, 0, 1) := by decide +kernel
theorem m139_2 : smI 139 2 = some (.bipush 8, 4, 0, 0, 0, 8) := by decide +kernel
theorem m139_4 : smI 139 4 = some (.invokestatic 44, 7, 0, 107, 3, 0) := by decide +kernel
theorem m139_7 : smI 139 7 = some (.ifCond .ne 10, 10, 0, 17, 0, 0) := by decide +kernel
theorem m139_10 : smI 139 10 = some (.aload_n 0, 11, 0, 0, 0, 0) := by decide +kernel
theorem m139_11 : smI 139 11 = some (.ldc 52, 13, 0, 0, 0, -1000000001) := by decide +kernel
theorem m139_13 : smI 139 13 = some (.invokevirtual 53, 16, 20, 108, 1, 0) := by decide +kernel
theorem m139_16 : smI 139 16 = some (.ireturn, 17, 0, 0, 0, 0) := by decide +kernel
theorem m139_17 : smI 139 17 = some (.aload_n 0, 18, 0, 0, 0, 0) := by decide +kernel
theorem m139_18 : smI 139 18 = some (.getfield 7, 21, 0, 7, 0, 0) := by decide +kernel
theorem m139_21 : smI 139 21 = some (.iconst 3, 22, 0, 0, 0, 3) := by decide +kernel
theorem m139_22 : smI 139 22 = some (.iaload, 23, 0, 0, 0, 0) := by decide +kernel
theorem m139_23 : smI 139 23 = some (.iload_n 3, 24, 0, 0, 0, 0) := by decide +kernel
theorem m139_24 : smI 139 24 = some (.iadd, 25, 0, 0, 0, 0) := by decide +kernel
theorem m139_25 : smI 139 25 = some (.bipush 50, 27, 0, 0, 0, 50) := by decide +kernel
theorem m139_27 : smI 139 27 = some (.if_icmp .le 10, 30, 0, 37, 0, 0) := by decide +kernel
theorem m139_37 : smI 139 37 = some (.iconst 0, 38, 0, 0, 0, 0) := by decide +kernel
theorem m139_38 : smI 139 38 = some (.istore 4, 40, 0, 0, 0, 0) := by decide +kernel
theorem m139_40 : smI 139 40 = some (.iload 4, 42, 0, 0, 0, 0) := by decide +kernel
theorem m139_42 : smI 139 42 = some (.iload_n 3, 43, 0, 0, 0, 0) := by decide +kernel
theorem m139_43 : smI 139 43 = some (.if_icmp .ge 45, 46, 0, 88, 0, 0) := by decide +kernel
theorem m139_46 : smI 139 46 = some (.aload_n 0, 47, 0, 0, 0, 0) := by decide +kernel
theorem m139_47 : smI 139 47 = some (.getfield 7, 50, 0, 7, 0, 0) := by decide +kernel
theorem m139_50 : smI 139 50 = some (.bipush 64, 52, 0, 0, 0, 64) := by decide +kernel
theorem m139_52 : smI 139 52 = some (.aload_n 0, 53, 0, 0, 0, 0) := by decide +kernel
theorem m139_53 : smI 139 53 = some (.getfield 7, 56, 0, 7, 0, 0) := by decide +kernel
theorem m139_56 : smI 139 56 = some (.iconst 3, 57, 0, 0, 0, 3) := by decide +kernel
theorem m139_57 : smI 139 57 = some (.iaload, 58, 0, 0, 0, 0) := by decide +kernel
theorem m139_58 : smI 139 58 = some (.iadd, 59, 0, 0, 0, 0) := by decide +kernel
theorem m139_59 : smI 139 59 = some (.lload_n 1, 60, 0, 0, 0, 0) := by decide +kernel
theorem m139_60 : smI 139 60 = some (.bipush 8, 62, 0, 0, 0, 8) := by decide +kernel
theorem m139_62 : smI 139 62 = some (.iload 4, 64, 0, 0, 0, 0) := by decide +kernel
theorem m139_64 : smI 139 64 = some (.imul, 65, 0, 0, 0, 0) := by decide +kernel
theorem m139_65 : smI 139 65 = some (.lshr, 66, 0, 0, 0, 0) := by decide +kernel
theorem m139_66 : smI 139 66 = some (.ldc2_w 147, 69, 0, 255, 0, 0) := by decide +kernel
theorem m139_69 : smI 139 69 = some (.land, 70, 0, 0, 0, 0) := by decide +kernel
theorem m139_70 : smI 139 70 = some (.l2i, 71, 0, 0, 0, 0) := by decide +kernel
theorem m139_71 : smI 139 71 = some (.iastore, 72, 0, 0, 0, 0) := by decide +kernel
theorem m139_72 : smI 139 72 = some (.aload_n 0, 73, 0, 0, 0, 0) := by decide +kernel
theorem m139_73 : smI 139 73 = some (.getfield 7, 76, 0, 7, 0, 0) := by decide +kernel
theorem m139_76 : smI 139 76 = some (.iconst 3, 77, 0, 0, 0, 3) := by decide +kernel
theorem m139_77 : smI 139 77 = some (.dup2, 78, 0, 0, 0, 0) := by decide +kernel
theorem m139_78 : smI 139 78 = some (.iaload, 79, 0, 0, 0, 0) := by decide +kernel
theorem m139_79 : smI 139 79 = some (.iconst 1, 80, 0, 0, 0, 1) := by decide +kernel
theorem m139_80 : smI 139 80 = some (.iadd, 81, 0, 0, 0, 0) := by decide +kernel
theorem m139_81 : smI 139 81 = some (.iastore, 82, 0, 0, 0, 0) := by decide +kernel
theorem m139_82 : smI 139 82 = some (.iinc 4 1, 85, 0, 0, 0, 1) := by decide +kernel
theorem m139_85 : smI 139 85 = some (.goto (-45), 88, 0, 40, 0, 0) := by decide +kernel
theorem m139_88 : smI 139 88 = some (.aload_n 0, 89, 0, 0, 0, 0) := by decide +kernel
theorem m139_89 : smI 139 89 = some (.getfield 7, 92, 0, 7, 0, 0) := by decide +kernel
theorem m139_92 : smI 139 92 = some (.iconst 3, 93, 0, 0, 0, 3) := by decide +kernel
theorem m139_93 : smI 139 93 = some (.iaload, 94, 0, 0, 0, 0) := by decide +kernel
theorem m139_94 : smI 139 94 = some (.ireturn, 95, 0, 0, 0, 0) := by decide +kernel
theorem m140_0 : smI 140 0 = some (.iload_n 1, 1, 0, 0, 0, 0) := by decide +kernel
theorem m140_1 : smI 140 1 = some (.iconst 0, 2, 0, 0, 0, 0) := by decide +kernel
theorem m140_2 : smI 140 2 = some (.iconst 1, 3, 0, 0, 0, 1) := by decide +kernel
theorem m140_3 : smI 140 3 = some (.invokestatic 44, 6, 0, 107, 3, 0) := by decide +kernel
theorem m140_6 : smI 140 6 = some (.ifCond .ne 10, 9, 0, 16, 0, 0) := by decide +kernel
theorem m140_9 : smI 140 9 = some (.aload_n 0, 10, 0, 0, 0, 0) := by decide +kernel
theorem m140_10 : smI 140 10 = some (.ldc 52, 12, 0, 0, 0, -1000000001) := by decide +kernel
theorem m140_12 : smI 140 12 = some (.invokevirtual 53, 15, 20, 108, 1, 0) := by decide +kernel
theorem m140_15 : smI 140 15 = some (.ireturn, 16, 0, 0, 0, 0) := by decide +kernel
theorem m140_16 : smI 140 16 = some (.aload_n 0, 17, 0, 0, 0, 0) := by decide +kernel
theorem m140_17 : smI 140 17 = some (.aload_n 0, 18, 0, 0, 0, 0) := by decide +kernel
theorem m140_18 : smI 140 18 = some (.getfield 7, 21, 0, 7, 0, 0) := by decide +kernel
theorem m140_21 : smI 140 21 = some (.aload_n 0, 22, 0, 0, 0, 0) := by decide +kernel
theorem m140_22 : smI 140 22 = some (.getfield 19, 25, 0, 7, 3, 0) := by decide +kernel
theorem m140_25 : smI 140 25 = some (.invokevirtual 149, 28, 20, 110, 2, 0) := by decide +kernel
theorem m140_28 : smI 140 28 = some (.iconst 0, 29, 0, 0, 0, 0) := by decide +kernel
theorem m140_29 : smI 140 29 = some (.istore_n 2, 30, 0, 0, 0, 0) := by decide +kernel
theorem m140_30 : smI 140 30 = some (.iload_n 2, 31, 0, 0, 0, 0) := by decide +kernel
theorem m140_31 : smI 140 31 = some (.bipush 50, 33, 0, 0, 0, 50) := by decide +kernel
theorem m140_33 : smI 140 33 = some (.if_icmp .ge 33, 36, 0, 66, 0, 0) := by decide +kernel
theorem m140_36 : smI 140 36 = some (.aload_n 0, 37, 0, 0, 0, 0) := by decide +kernel
theorem m140_37 : smI 140 37 = some (.getfield 7, 40, 0, 7, 0, 0) := by decide +kernel
theorem m140_40 : smI 140 40 = some (.sipush 134, 43, 0, 0, 0, 134) := by decide +kernel
theorem m140_43 : smI 140 43 = some (.bipush 50, 45, 0, 0, 0, 50) := by decide +kernel
theorem m140_45 : smI 140 45 = some (.iload_n 1, 46, 0, 0, 0, 0) := by decide +kernel
theorem m140_46 : smI 140 46 = some (.imul, 47, 0, 0, 0, 0) := by decide +kernel
theorem m140_47 : smI 140 47 = some (.iadd, 48, 0, 0, 0, 0) := by decide +kernel
theorem m140_48 : smI 140 48 = some (.iload_n 2, 49, 0, 0, 0, 0) := by decide +kernel
theorem m140_49 : smI 140 49 = some (.iadd, 50, 0, 0, 0, 0) := by decide +kernel
theorem m140_50 : smI 140 50 = some (.aload_n 0, 51, 0, 0, 0, 0) := by decide +kernel
theorem m140_51 : smI 140 51 = some (.getfield 7, 54, 0, 7, 0, 0) := by decide +kernel
theorem m140_54 : smI 140 54 = some (.bipush 64, 56, 0, 0, 0, 64) := by decide +kernel
theorem m140_56 : smI 140 56 = some (.iload_n 2, 57, 0, 0, 0, 0) := by decide +kernel
theorem m140_57 : smI 140 57 = some (.iadd, 58, 0, 0, 0, 0) := by decide +kernel
theorem m140_58 : smI 140 58 = some (.iaload, 59, 0, 0, 0, 0) := by decide +kernel
theorem m140_59 : smI 140 59 = some (.iastore, 60, 0, 0, 0, 0) := by decide +kernel
theorem m140_60 : smI 140 60 = some (.iinc 2 1, 63, 0, 0, 0, 1) := by decide +kernel
theorem m140_63 : smI 140 63 = some (.goto (-33), 66, 0, 30, 0, 0) := by decide +kernel
theorem m140_66 : smI 140 66 = some (.aload_n 0, 67, 0, 0, 0, 0) := by decide +kernel
theorem m140_67 : smI 140 67 = some (.getfield 7, 70, 0, 7, 0, 0) := by decide +kernel
theorem m140_70 : smI 140 70 = some (.iconst 5, 71, 0, 0, 0, 5) := by decide +kernel
theorem m140_71 : smI 140 71 = some (.iload_n 1, 72, 0, 0, 0, 0) := by decide +kernel
theorem m140_72 : smI 140 72 = some (.iadd, 73, 0, 0, 0, 0) := by decide +kernel
theorem m140_73 : smI 140 73 = some (.aload_n 0, 74, 0, 0, 0, 0) := by decide +kernel
theorem m140_74 : smI 140 74 = some (.getfield 7, 77, 0, 7, 0, 0) := by decide +kernel
theorem m140_77 : smI 140 77 = some (.iconst 3, 78, 0, 0, 0, 3) := by decide +kernel
theorem m140_78 : smI 140 78 = some (.iaload, 79, 0, 0, 0, 0) := by decide +kernel
theorem m140_79 : smI 140 79 = some (.iastore, 80, 0, 0, 0, 0) := by decide +kernel
theorem m140_80 : smI 140 80 = some (.aload_n 0, 81, 0, 0, 0, 0) := by decide +kernel
theorem m140_81 : smI 140 81 = some (.iload_n 1, 82, 0, 0, 0, 0) := by decide +kernel
theorem m140_82 : smI 140 82 = some (.iconst 1, 83, 0, 0, 0, 1) := by decide +kernel
theorem m140_83 : smI 140 83 = some (.iconst 1, 84, 0, 0, 0, 1) := by decide +kernel
theorem m140_84 : smI 140 84 = some (.iconst 1, 85, 0, 0, 0, 1) := by decide +kernel
theorem m140_85 : smI 140 85 = some (.invokevirtual 136, 88, 20, 130, 4, 0) := by decide +kernel
theorem m140_88 : smI 140 88 = some (.istore_n 2, 89, 0, 0, 0, 0) := by decide +kernel
theorem m140_89 : smI 140 89 = some (.aload_n 0, 90, 0, 0, 0, 0) := by decide +kernel
theorem m140_90 : smI 140 90 = some (.getfield 83, 93, 0, 7, 14, 0) := by decide +kernel
theorem m140_93 : smI 140 93 = some (.ifCond .eq 12, 96, 0, 105, 0, 0) := by decide +kernel
theorem m140_105 : smI 140 105 = some (.iconst 0, 106, 0, 0, 0, 0) := by decide +kernel
theorem m140_106 : smI 140 106 = some (.istore_n 3, 107, 0, 0, 0, 0) := by decide +kernel
theorem m140_107 : smI 140 107 = some (.aload_n 0, 108, 0, 0, 0, 0) := by decide +kernel
theorem m140_108 : smI 140 108 = some (.getfield 87, 111, 0, 7, 8, 0) := by decide +kernel
theorem m140_111 : smI 140 111 = some (.istore 4, 113, 0, 0, 0, 0) := by decide +kernel
theorem m140_113 : smI 140 113 = some (.iload_n 3, 114, 0, 0, 0, 0) := by decide +kernel
theorem m140_114 : smI 140 114 = some (.ifCond .ne 15, 117, 0, 129, 0, 0) := by decide +kernel
theorem m140_117 : smI 140 117 = some (.aload_n 0, 118, 0, 0, 0, 0) := by decide +kernel
theorem m140_118 : smI 140 118 = some (.aload_n 0, 119, 0, 0, 0, 0) := by decide +kernel
theorem m140_119 : smI 140 119 = some (.getfield 19, 122, 0, 7, 3, 0) := by decide +kernel
theorem m140_122 : smI 140 122 = some (.aload_n 0, 123, 0, 0, 0, 0) := by decide +kernel
theorem m140_123 : smI 140 123 = some (.getfield 7, 126, 0, 7, 0, 0) := by decide +kernel
theorem m140_126 : smI 140 126 = some (.invokevirtual 149, 129, 20, 110, 2, 0) := by decide +kernel
theorem m140_129 : smI 140 129 = some (.aload_n 0, 130, 0, 0, 0, 0) := by decide +kernel
theorem m140_130 : smI 140 130 = some (.getfield 7, 133, 0, 7, 0, 0) := by decide +kernel
theorem m140_133 : smI 140 133 = some (.iconst 3, 134, 0, 0, 0, 3) := by decide +kernel
theorem m140_134 : smI 140 134 = some (.iconst 0, 135, 0, 0, 0, 0) := by decide +kernel
theorem m140_135 : smI 140 135 = some (.iastore, 136, 0, 0, 0, 0) := by decide +kernel
theorem m140_136 : smI 140 136 = some (.iload_n 3, 137, 0, 0, 0, 0) := by decide +kernel
theorem m140_137 : smI 140 137 = some (.ifCond .eq 7, 140, 0, 144, 0, 0) := by decide +kernel
theorem m140_144 : smI 140 144 = some (.bipush (-10), 146, 0, 0, 0, -10) := by decide +kernel
theorem m140_146 : smI 140 146 = some (.iload 4, 148, 0, 0, 0, 0) := by decide +kernel
theorem m140_148 : smI 140 148 = some (.isub, 149, 0, 0, 0, 0) := by decide +kernel
theorem m140_149 : smI 140 149 = some (.ireturn, 150, 0, 0, 0, 0) := by decide +kernel
theorem m143_0 : smI 143 0 = some (.iconst 0, 1, 0, 0, 0, 0) := by decide +kernel
theorem m143_1 : smI 143 1 = some (.istore_n 1, 2, 0, 0, 0, 0) := by decide +kernel
theorem m143_2 : smI 143 2 = some (.iconst 0, 3, 0, 0, 0, 0) := by decide +kernel
theorem m143_3 : smI 143 3 = some (.istore_n 2, 4, 0, 0, 0, 0) := by decide +kernel
theorem m143_4 : smI 143 4 = some (.iload_n 2, 5, 0, 0, 0, 0) := by decide +kernel
theorem m143_5 : smI 143 5 = some (.aload_n 0, 6, 0, 0, 0, 0) := by decide +kernel
theorem m143_6 : smI 143 6 = some (.getfield 7, 9, 0, 7, 0, 0) := by decide +kernel
theorem m143_9 : smI 143 9 = some (.iconst 2, 10, 0, 0, 0, 2) := by decide +kernel
theorem m143_10 : smI 143 10 = some (.iaload, 11, 0, 0, 0, 0) := by decide +kernel
theorem m143_11 : smI 143 11 = some (.if_icmp .ge 43, 14, 0, 54, 0, 0) := by decide +kernel
theorem m143_54 : smI 143 54 = some (.iload_n 1, 55, 0, 0, 0, 0) := by decide +kernel
theorem m143_55 : smI 143 55 = some (.ireturn, 56, 0, 0, 0, 0) := by decide +kernel
theorem m147_0 : smI 147 0 = some (.iconst 0, 1, 0, 0, 0, 0) := by decide +kernel
theorem m147_1 : smI 147 1 = some (.istore_n 2, 2, 0, 0, 0, 0) := by decide +kernel
theorem m147_2 : smI 147 2 = some (.iconst 0, 3, 0, 0, 0, 0) := by decide +kernel
theorem m147_3 : smI 147 3 = some (.istore_n 3, 4, 0, 0, 0, 0) := by decide +kernel
theorem m147_4 : smI 147 4 = some (.iload_n 3, 5, 0, 0, 0, 0) := by decide +kernel
theorem m147_5 : smI 147 5 = some (.aload_n 0, 6, 0, 0, 0, 0) := by decide +kernel
theorem m147_6 : smI 147 6 = some (.getfield 7, 9, 0, 7, 0, 0) := by decide +kernel
theorem m147_9 : smI 147 9 = some (.iconst 2, 10, 0, 0, 0, 2) := by decide +kernel
theorem m147_10 : smI 147 10 = some (.iaload, 11, 0, 0, 0, 0) := by decide +kernel
theorem m147_11 : smI 147 11 = some (.if_icmp .ge 18, 14, 0, 29, 0, 0) := by decide +kernel
theorem m147_29 : smI 147 29 = some (.iload_n 2, 30, 0, 0, 0, 0) := by decide +kernel
theorem m147_30 : smI 147 30 = some (.ireturn, 31, 0, 0, 0, 0) := by decide +kernel
theorem m148_0 : smI 148 0 = some (.iload_n 1, 1, 0, 0, 0, 0) := by decide +kernel
theorem m148_1 : smI 148 1 = some (.iconst 1, 2, 0, 0, 0, 1) := by decide +kernel
theorem m148_2 : smI 148 2 = some (.bipush 60, 4, 0, 0, 0, 60) := by decide +kernel
theorem m148_4 : smI 148 4 = some (.invokestatic 44, 7, 0, 107, 3, 0) := by decide +kernel
theorem m148_7 : smI 148 7 = some (.ifCond .ne 10, 10, 0, 17, 0, 0) := by decide +kernel
theorem m148_10 : smI 148 10 = some (.aload_n 0, 11, 0, 0, 0, 0) := by decide +kernel
theorem m148_11 : smI 148 11 = some (.ldc 52, 13, 0, 0, 0, -1000000001) := by decide +kernel
theorem m148_13 : smI 148 13 = some (.invokevirtual 53, 16, 20, 108, 1, 0) := by decide +kernel
theorem m148_16 : smI 148 16 = some (.ireturn, 17, 0, 0, 0, 0) := by decide +kernel
theorem m148_17 : smI 148 17 = some (.aload_n 0, 18, 0, 0, 0, 0) := by decide +kernel
theorem m148_18 : smI 148 18 = some (.getfield 7, 21, 0, 7, 0, 0) := by decide +kernel
theorem m148_21 : smI 148 21 = some (.iconst 0, 22, 0, 0, 0, 0) := by decide +kernel
theorem m148_22 : smI 148 22 = some (.iaload, 23, 0, 0, 0, 0) := by decide +kernel
theorem m148_23 : smI 148 23 = some (.iload_n 1, 24, 0, 0, 0, 0) := by decide +kernel
theorem m148_24 : smI 148 24 = some (.iadd, 25, 0, 0, 0, 0) := by decide +kernel
theorem m148_25 : smI 148 25 = some (.sipush 9999, 28, 0, 0, 0, 9999) := by decide +kernel
theorem m148_28 : smI 148 28 = some (.if_icmp .le 10, 31, 0, 38, 0, 0) := by decide +kernel
theorem m148_38 : smI 148 38 = some (.aload_n 0, 39, 0, 0, 0, 0) := by decide +kernel
theorem m148_39 : smI 148 39 = some (.iload_n 1, 40, 0, 0, 0, 0) := by decide +kernel
theorem m148_40 : smI 148 40 = some (.invokevirtual 170, 43, 20, 146, 1, 0) := by decide +kernel
theorem m148_43 : smI 148 43 = some (.aload_n 0, 44, 0, 0, 0, 0) := by decide +kernel
theorem m148_44 : smI 148 44 = some (.iconst 2, 45, 0, 0, 0, 2) := by decide +kernel
theorem m148_45 : smI 148 45 = some (.invokevirtual 174, 48, 20, 147, 1, 0) := by decide +kernel
theorem m148_48 : smI 148 48 = some (.ireturn, 49, 0, 0, 0, 0) := by decide +kernel
theorem m150_0 : smI 150 0 = some (.iload_n 1, 1, 0, 0, 0, 0) := by decide +kernel
theorem m150_1 : smI 150 1 = some (.iconst 1, 2, 0, 0, 0, 1) := by decide +kernel
theorem m150_2 : smI 150 2 = some (.bipush 40, 4, 0, 0, 0, 40) := by decide +kernel
theorem m150_4 : smI 150 4 = some (.invokestatic 44, 7, 0, 107, 3, 0) := by decide +kernel
theorem m150_7 : smI 150 7 = some (.ifCond .ne 10, 10, 0, 17, 0, 0) := by decide +kernel
theorem m150_10 : smI 150 10 = some (.aload_n 0, 11, 0, 0, 0, 0) := by decide +kernel
theorem m150_11 : smI 150 11 = some (.ldc 52, 13, 0, 0, 0, -1000000001) := by decide +kernel
theorem m150_13 : smI 150 13 = some (.invokevirtual 53, 16, 20, 108, 1, 0) := by decide +kernel
theorem m150_16 : smI 150 16 = some (.ireturn, 17, 0, 0, 0, 0) := by decide +kernel
theorem m150_17 : smI 150 17 = some (.aload_n 0, 18, 0, 0, 0, 0) := by decide +kernel
theorem m150_18 : smI 150 18 = some (.getfield 7, 21, 0, 7, 0, 0) := by decide +kernel
theorem m150_21 : smI 150 21 = some (.iconst 0, 22, 0, 0, 0, 0) := by decide +kernel
theorem m150_22 : smI 150 22 = some (.iaload, 23, 0, 0, 0, 0) := by decide +kernel
theorem m150_23 : smI 150 23 = some (.iload_n 1, 24, 0, 0, 0, 0) := by decide +kernel
theorem m150_24 : smI 150 24 = some (.iadd, 25, 0, 0, 0, 0) := by decide +kernel
theorem m150_25 : smI 150 25 = some (.sipush 9999, 28, 0, 0, 0, 9999) := by decide +kernel
theorem m150_28 : smI 150 28 = some (.if_icmp .le 10, 31, 0, 38, 0, 0) := by decide +kernel
theorem m150_38 : smI 150 38 = some (.iconst 0, 39, 0, 0, 0, 0) := by decide +kernel
theorem m150_39 : smI 150 39 = some (.istore_n 2, 40, 0, 0, 0, 0) := by decide +kernel
theorem m150_89 : smI 150 89 = some (.aload_n 0, 90, 0, 0, 0, 0) := by decide +kernel
theorem m150_90 : smI 150 90 = some (.iconst 2, 91, 0, 0, 0, 2) := by decide +kernel
theorem m150_91 : smI 150 91 = some (.invokevirtual 174, 94, 20, 147, 1, 0) := by decide +kernel
theorem m150_94 : smI 150 94 = some (.ireturn, 95, 0, 0, 0, 0) := by decide +kernel
theorem m151_0 : smI 151 0 = some (.aload_n 0, 1, 0, 0, 0, 0) := by decide +kernel
theorem m151_1 : smI 151 1 = some (.invokevirtual 156, 4, 20, 143, 0, 0) := by decide +kernel
theorem m151_4 : smI 151 4 = some (.ireturn, 5, 0, 0, 0, 0) := by decide +kernel
theorem m152_0 : smI 152 0 = some (.iload_n 1, 1, 0, 0, 0, 0) := by decide +kernel
theorem m152_1 : smI 152 1 = some (.iconst 0, 2, 0, 0, 0, 0) := by decide +kernel
theorem m152_2 : smI 152 2 = some (.bipush 60, 4, 0, 0, 0, 60) := by decide +kernel
theorem m152_4 : smI 152 4 = some (.invokestatic 44, 7, 0, 107, 3, 0) := by decide +kernel
theorem m152_7 : smI 152 7 = some (.ifCond .eq 20, 10, 0, 27, 0, 0) := by decide +kernel
theorem m152_10 : smI 152 10 = some (.aload_n 0, 11, 0, 0, 0, 0) := by decide +kernel
theorem m152_11 : smI 152 11 = some (.iload_n 2, 12, 0, 0, 0, 0) := by decide +kernel
theorem m152_12 : smI 152 12 = some (.invokevirtual 62, 15, 20, 113, 1, 0) := by decide +kernel
theorem m152_15 : smI 152 15 = some (.ifCond .eq 12, 18, 0, 27, 0, 0) := by decide +kernel
theorem m152_27 : smI 152 27 = some (.aload_n 0, 28, 0, 0, 0, 0) := by decide +kernel
theorem m152_28 : smI 152 28 = some (.ldc 52, 30, 0, 0, 0, -1000000001) := by decide +kernel
theorem m152_30 : smI 152 30 = some (.invokevirtual 53, 33, 20, 108, 1, 0) := by decide +kernel
theorem m152_33 : smI 152 33 = some (.ireturn, 34, 0, 0, 0, 0) := by decide +kernel
theorem m153_0 : smI 153 0 = some (.aload_n 0, 1, 0, 0, 0, 0) := by decide +kernel
theorem m153_1 : smI 153 1 = some (.iload_n 1, 2, 0, 0, 0, 0) := by decide +kernel
theorem m153_2 : smI 153 2 = some (.invokevirtual 62, 5, 20, 113, 1, 0) := by decide +kernel
theorem m153_5 : smI 153 5 = some (.ifCond .ne 10, 8, 0, 15, 0, 0) := by decide +kernel
theorem m153_8 : smI 153 8 = some (.aload_n 0, 9, 0, 0, 0, 0) := by decide +kernel
theorem m153_9 : smI 153 9 = some (.ldc 52, 11, 0, 0, 0, -1000000001) := by decide +kernel
theorem m153_11 : smI 153 11 = some (.invokevirtual 53, 14, 20, 108, 1, 0) := by decide +kernel
theorem m153_14 : smI 153 14 = some (.ireturn, 15, 0, 0, 0, 0) := by decide +kernel
theorem m154_0 : smI 154 0 = some (.iconst 0, 1, 0, 0, 0, 0) := by decide +kernel
theorem m154_1 : smI 154 1 = some (.istore_n 2, 2, 0, 0, 0, 0) := by decide +kernel
theorem m154_2 : smI 154 2 = some (.iconst 0, 3, 0, 0, 0, 0) := by decide +kernel
theorem m154_3 : smI 154 3 = some (.istore_n 3, 4, 0, 0, 0, 0) := by decide +kernel
theorem m154_4 : smI 154 4 = some (.iload_n 3, 5, 0, 0, 0, 0) := by decide +kernel
theorem m154_5 : smI 154 5 = some (.aload_n 0, 6, 0, 0, 0, 0) := by decide +kernel
theorem m154_6 : smI 154 6 = some (.getfield 7, 9, 0, 7, 0, 0) := by decide +kernel
theorem m154_9 : smI 154 9 = some (.iconst 2, 10, 0, 0, 0, 2) := by decide +kernel
theorem m154_10 : smI 154 10 = some (.iaload, 11, 0, 0, 0, 0) := by decide +kernel
theorem m154_11 : smI 154 11 = some (.if_icmp .ge 39, 14, 0, 50, 0, 0) := by decide +kernel
theorem m154_50 : smI 154 50 = some (.iload_n 2, 51, 0, 0, 0, 0) := by decide +kernel
theorem m154_51 : smI 154 51 = some (.ireturn, 52, 0, 0, 0, 0) := by decide +kernel
theorem m155_0 : smI 155 0 = some (.aload_n 0, 1, 0, 0, 0, 0) := by decide +kernel
theorem m155_1 : smI 155 1 = some (.aload_n 0, 2, 0, 0, 0, 0) := by decide +kernel
theorem m155_2 : smI 155 2 = some (.getfield 7, 5, 0, 7, 0, 0) := by decide +kernel
theorem m155_5 : smI 155 5 = some (.aload_n 0, 6, 0, 0, 0, 0) := by decide +kernel
theorem m155_6 : smI 155 6 = some (.getfield 16, 9, 0, 7, 2, 0) := by decide +kernel
theorem m155_9 : smI 155 9 = some (.invokevirtual 149, 12, 20, 110, 2, 0) := by decide +kernel
theorem m155_12 : smI 155 12 = some (.iconst 0, 13, 0, 0, 0, 0) := by decide +kernel
theorem m155_13 : smI 155 13 = some (.istore 4, 15, 0, 0, 0, 0) := by decide +kernel
theorem m155_15 : smI 155 15 = some (.iload 4, 17, 0, 0, 0, 0) := by decide +kernel
theorem m155_17 : smI 155 17 = some (.aload_n 0, 18, 0, 0, 0, 0) := by decide +kernel
theorem m155_18 : smI 155 18 = some (.getfield 7, 21, 0, 7, 0, 0) := by decide +kernel
theorem m155_21 : smI 155 21 = some (.iconst 2, 22, 0, 0, 0, 2) := by decide +kernel
theorem m155_22 : smI 155 22 = some (.iaload, 23, 0, 0, 0, 0) := by decide +kernel
theorem m155_23 : smI 155 23 = some (.if_icmp .ge 41, 26, 0, 64, 0, 0) := by decide +kernel
theorem m155_64 : smI 155 64 = some (.aload_n 0, 65, 0, 0, 0, 0) := by decide +kernel
theorem m155_65 : smI 155 65 = some (.iload_n 3, 66, 0, 0, 0, 0) := by decide +kernel
theorem m155_66 : smI 155 66 = some (.invokevirtual 170, 69, 20, 146, 1, 0) := by decide +kernel
theorem m155_69 : smI 155 69 = some (.aload_n 0, 70, 0, 0, 0, 0) := by decide +kernel
theorem m155_70 : smI 155 70 = some (.aload_n 0, 71, 0, 0, 0, 0) := by decide +kernel
theorem m155_71 : smI 155 71 = some (.getfield 16, 74, 0, 7, 2, 0) := by decide +kernel
theorem m155_74 : smI 155 74 = some (.invokevirtual 182, 77, 20, 154, 1, 0) := by decide +kernel
theorem m155_77 : smI 155 77 = some (.istore 4, 79, 0, 0, 0, 0) := by decide +kernel
theorem m155_79 : smI 155 79 = some (.aload_n 0, 80, 0, 0, 0, 0) := by decide +kernel
theorem m155_80 : smI 155 80 = some (.aload_n 0, 81, 0, 0, 0, 0) := by decide +kernel
theorem m155_81 : smI 155 81 = some (.getfield 16, 84, 0, 7, 2, 0) := by decide +kernel
theorem m155_84 : smI 155 84 = some (.aload_n 0, 85, 0, 0, 0, 0) := by decide +kernel
theorem m155_85 : smI 155 85 = some (.getfield 7, 88, 0, 7, 0, 0) := by decide +kernel
theorem m155_88 : smI 155 88 = some (.invokevirtual 149, 91, 20, 110, 2, 0) := by decide +kernel
theorem m155_91 : smI 155 91 = some (.iload 4, 93, 0, 0, 0, 0) := by decide +kernel
theorem m155_93 : smI 155 93 = some (.ireturn, 94, 0, 0, 0, 0) := by decide +kernel
theorem m156_0 : smI 156 0 = some (.iconst 1, 1, 0, 0, 0, 1) := by decide +kernel
theorem m156_1 : smI 156 1 = some (.aload_n 0, 2, 0, 0, 0, 0) := by decide +kernel
theorem m156_2 : smI 156 2 = some (.getfield 7, 5, 0, 7, 0, 0) := by decide +kernel
theorem m156_5 : smI 156 5 = some (.iconst 2, 6, 0, 0, 0, 2) := by decide +kernel
theorem m156_6 : smI 156 6 = some (.iaload, 7, 0, 0, 0, 0) := by decide +kernel
theorem m156_7 : smI 156 7 = some (.ishl, 8, 0, 0, 0, 0) := by decide +kernel
theorem m156_8 : smI 156 8 = some (.iconst 1, 9, 0, 0, 0, 1) := by decide +kernel
theorem m156_9 : smI 156 9 = some (.isub, 10, 0, 0, 0, 0) := by decide +kernel
theorem m156_10 : smI 156 10 = some (.aload_n 0, 11, 0, 0, 0, 0) := by decide +kernel
theorem m156_11 : smI 156 11 = some (.iconst 0, 12, 0, 0, 0, 0) := by decide +kernel
theorem m156_12 : smI 156 12 = some (.iconst (-1), 13, 0, 0, 0, -1) := by decide +kernel
theorem m156_13 : smI 156 13 = some (.bipush 60, 15, 0, 0, 0, 60) := by decide +kernel
theorem m156_15 : smI 156 15 = some (.invokevirtual 186, 18, 20, 155, 3, 0) := by decide +kernel
theorem m156_18 : smI 156 18 = some (.iconst (-1), 19, 0, 0, 0, -1) := by decide +kernel
theorem m156_19 : smI 156 19 = some (.ixor, 20, 0, 0, 0, 0) := by decide +kernel
theorem m156_20 : smI 156 20 = some (.iand, 21, 0, 0, 0, 0) := by decide +kernel
theorem m156_21 : smI 156 21 = some (.ireturn, 22, 0, 0, 0, 0) := by decide +kernel
theorem m157_0 : smI 157 0 = some (.iconst 0, 1, 0, 0, 0, 0) := by decide +kernel
theorem m157_1 : smI 157 1 = some (.istore_n 3, 2, 0, 0, 0, 0) := by decide +kernel
theorem m157_2 : smI 157 2 = some (.iload_n 3, 3, 0, 0, 0, 0) := by decide +kernel
theorem m157_3 : smI 157 3 = some (.bipush 9, 5, 0, 0, 0, 9) := by decide +kernel
theorem m157_5 : smI 157 5 = some (.if_icmp .gt 23, 8, 0, 28, 0, 0) := by decide +kernel
theorem m157_8 : smI 157 8 = some (.iload_n 1, 9, 0, 0, 0, 0) := by decide +kernel
theorem m157_9 : smI 157 9 = some (.aload_n 0, 10, 0, 0, 0, 0) := by decide +kernel
theorem m157_10 : smI 157 10 = some (.iload_n 1, 11, 0, 0, 0, 0) := by decide +kernel
theorem m157_11 : smI 157 11 = some (.iload_n 3, 12, 0, 0, 0, 0) := by decide +kernel
theorem m157_12 : smI 157 12 = some (.iload_n 2, 13, 0, 0, 0, 0) := by decide +kernel
theorem m157_13 : smI 157 13 = some (.invokevirtual 186, 16, 20, 155, 3, 0) := by decide +kernel
theorem m157_16 : smI 157 16 = some (.iconst (-1), 17, 0, 0, 0, -1) := by decide +kernel
theorem m157_17 : smI 157 17 = some (.ixor, 18, 0, 0, 0, 0) := by decide +kernel
theorem m157_18 : smI 157 18 = some (.iand, 19, 0, 0, 0, 0) := by decide +kernel
theorem m157_19 : smI 157 19 = some (.ifCond .eq 9, 22, 0, 28, 0, 0) := by decide +kernel
theorem m157_28 : smI 157 28 = some (.iload_n 3, 29, 0, 0, 0, 0) := by decide +kernel
theorem m157_29 : smI 157 29 = some (.bipush 9, 31, 0, 0, 0, 9) := by decide +kernel
theorem m157_31 : smI 157 31 = some (.if_icmp .le 7, 34, 0, 38, 0, 0) := by decide +kernel
theorem m157_38 : smI 157 38 = some (.iload_n 3, 39, 0, 0, 0, 0) := by decide +kernel
theorem m157_39 : smI 157 39 = some (.ireturn, 40, 0, 0, 0, 0) := by decide +kernel
theorem m158_0 : smI 158 0 = some (.aload_n 0, 1, 0, 0, 0, 0) := by decide +kernel
theorem m158_1 : smI 158 1 = some (.iload_n 1, 2, 0, 0, 0, 0) := by decide +kernel
theorem m158_2 : smI 158 2 = some (.invokevirtual 62, 5, 20, 113, 1, 0) := by decide +kernel
theorem m158_5 : smI 158 5 = some (.ifCond .eq 13, 8, 0, 18, 0, 0) := by decide +kernel
theorem m158_18 : smI 158 18 = some (.aload_n 0, 19, 0, 0, 0, 0) := by decide +kernel
theorem m158_19 : smI 158 19 = some (.ldc 52, 21, 0, 0, 0, -1000000001) := by decide +kernel
theorem m158_21 : smI 158 21 = some (.invokevirtual 53, 24, 20, 108, 1, 0) := by decide +kernel
theorem m158_24 : smI 158 24 = some (.ireturn, 25, 0, 0, 0, 0) := by decide +kernel
theorem m159_0 : smI 159 0 = some (.iload_n 1, 1, 0, 0, 0, 0) := by decide +kernel
theorem m159_1 : smI 159 1 = some (.iconst 0, 2, 0, 0, 0, 0) := by decide +kernel
theorem m159_2 : smI 159 2 = some (.iconst 1, 3, 0, 0, 0, 1) := by decide +kernel
theorem m159_3 : smI 159 3 = some (.aload_n 0, 4, 0, 0, 0, 0) := by decide +kernel
theorem m159_4 : smI 159 4 = some (.getfield 7, 7, 0, 7, 0, 0) := by decide +kernel
theorem m159_7 : smI 159 7 = some (.iconst 2, 8, 0, 0, 0, 2) := by decide +kernel
theorem m159_8 : smI 159 8 = some (.iaload, 9, 0, 0, 0, 0) := by decide +kernel
theorem m159_9 : smI 159 9 = some (.ishl, 10, 0, 0, 0, 0) := by decide +kernel
theorem m159_10 : smI 159 10 = some (.iconst 1, 11, 0, 0, 0, 1) := by decide +kernel
theorem m159_11 : smI 159 11 = some (.isub, 12, 0, 0, 0, 0) := by decide +kernel
theorem m159_12 : smI 159 12 = some (.invokestatic 44, 15, 0, 107, 3, 0) := by decide +kernel
theorem m159_15 : smI 159 15 = some (.ifCond .eq 13, 18, 0, 28, 0, 0) := by decide +kernel
theorem m159_18 : smI 159 18 = some (.iload_n 2, 19, 0, 0, 0, 0) := by decide +kernel
theorem m159_19 : smI 159 19 = some (.iconst 1, 20, 0, 0, 0, 1) := by decide +kernel
theorem m159_20 : smI 159 20 = some (.bipush 60, 22, 0, 0, 0, 60) := by decide +kernel
theorem m159_22 : smI 159 22 = some (.invokestatic 44, 25, 0, 107, 3, 0) := by decide +kernel
theorem m159_25 : smI 159 25 = some (.ifCond .ne 10, 28, 0, 35, 0, 0) := by decide +kernel
theorem m159_28 : smI 159 28 = some (.aload_n 0, 29, 0, 0, 0, 0) := by decide +kernel
theorem m159_29 : smI 159 29 = some (.ldc 52, 31, 0, 0, 0, -1000000001) := by decide +kernel
theorem m159_31 : smI 159 31 = some (.invokevirtual 53, 34, 20, 108, 1, 0) := by decide +kernel
theorem m159_34 : smI 159 34 = some (.ireturn, 35, 0, 0, 0, 0) := by decide +kernel
theorem m159_35 : smI 159 35 = some (.aload_n 0, 36, 0, 0, 0, 0) := by decide +kernel
theorem m159_36 : smI 159 36 = some (.iload_n 1, 37, 0, 0, 0, 0) := by decide +kernel
theorem m159_37 : smI 159 37 = some (.iload_n 2, 38, 0, 0, 0, 0) := by decide +kernel
theorem m159_38 : smI 159 38 = some (.invokevirtual 189, 41, 20, 157, 2, 0) := by decide +kernel
theorem m159_41 : smI 159 41 = some (.istore_n 3, 42, 0, 0, 0, 0) := by decide +kernel
theorem m159_42 : smI 159 42 = some (.iload_n 3, 43, 0, 0, 0, 0) := by decide +kernel
theorem m159_43 : smI 159 43 = some (.ifCond .ge 12, 46, 0, 55, 0, 0) := by decide +kernel
theorem m159_55 : smI 159 55 = some (.iload_n 3, 56, 0, 0, 0, 0) := by decide +kernel
theorem m159_56 : smI 159 56 = some (.ireturn, 57, 0, 0, 0, 0) := by decide +kernel
theorem m160_0 : smI 160 0 = some (.iload_n 0, 1, 0, 0, 0, 0) := by decide +kernel
theorem m160_1 : smI 160 1 = some (.iconst 0, 2, 0, 0, 0, 0) := by decide +kernel
theorem m160_2 : smI 160 2 = some (.iconst 3, 3, 0, 0, 0, 3) := by decide +kernel
theorem m160_3 : smI 160 3 = some (.invokestatic 44, 6, 0, 107, 3, 0) := by decide +kernel
theorem m160_6 : smI 160 6 = some (.ireturn, 7, 0, 0, 0, 0) := by decide +kernel
theorem m162_0 : smI 162 0 = some (.iload_n 1, 1, 0, 0, 0, 0) := by decide +kernel
theorem m162_1 : smI 162 1 = some (.invokestatic 192, 4, 0, 160, 1, 0) := by decide +kernel
theorem m162_4 : smI 162 4 = some (.ifCond .eq 12, 7, 0, 16, 0, 0) := by decide +kernel
theorem m162_7 : smI 162 7 = some (.iload_n 2, 8, 0, 0, 0, 0) := by decide +kernel
theorem m162_8 : smI 162 8 = some (.iconst 0, 9, 0, 0, 0, 0) := by decide +kernel
theorem m162_9 : smI 162 9 = some (.iconst 1, 10, 0, 0, 0, 1) := by decide +kernel
theorem m162_10 : smI 162 10 = some (.invokestatic 44, 13, 0, 107, 3, 0) := by decide +kernel
theorem m162_13 : smI 162 13 = some (.ifCond .ne 10, 16, 0, 23, 0, 0) := by decide +kernel
theorem m162_16 : smI 162 16 = some (.aload_n 0, 17, 0, 0, 0, 0) := by decide +kernel
theorem m162_17 : smI 162 17 = some (.ldc 52, 19, 0, 0, 0, -1000000001) := by decide +kernel
theorem m162_19 : smI 162 19 = some (.invokevirtual 53, 22, 20, 108, 1, 0) := by decide +kernel
theorem m162_22 : smI 162 22 = some (.ireturn, 23, 0, 0, 0, 0) := by decide +kernel
theorem m162_23 : smI 162 23 = some (.aload_n 0, 24, 0, 0, 0, 0) := by decide +kernel
theorem m162_24 : smI 162 24 = some (.getfield 25, 27, 0, 7, 15, 0) := by decide +kernel
theorem m162_27 : smI 162 27 = some (.iload_n 1, 28, 0, 0, 0, 0) := by decide +kernel
theorem m162_28 : smI 162 28 = some (.iaload, 29, 0, 0, 0, 0) := by decide +kernel
theorem m162_29 : smI 162 29 = some (.ifCond .ne 10, 32, 0, 39, 0, 0) := by decide +kernel
theorem m162_32 : smI 162 32 = some (.aload_n 0, 33, 0, 0, 0, 0) := by decide +kernel
theorem m162_33 : smI 162 33 = some (.ldc 181, 35, 0, 0, 0, -1000000002) := by decide +kernel
theorem m162_35 : smI 162 35 = some (.invokevirtual 53, 38, 20, 108, 1, 0) := by decide +kernel
theorem m162_38 : smI 162 38 = some (.ireturn, 39, 0, 0, 0, 0) := by decide +kernel
theorem m163_0 : smI 163 0 = some (.aload_n 0, 1, 0, 0, 0, 0) := by decide +kernel
theorem m163_1 : smI 163 1 = some (.iload_n 1, 2, 0, 0, 0, 0) := by decide +kernel
theorem m163_2 : smI 163 2 = some (.invokevirtual 62, 5, 20, 113, 1, 0) := by decide +kernel
theorem m163_5 : smI 163 5 = some (.ifCond .ne 10, 8, 0, 15, 0, 0) := by decide +kernel
theorem m163_8 : smI 163 8 = some (.aload_n 0, 9, 0, 0, 0, 0) := by decide +kernel
theorem m163_9 : smI 163 9 = some (.ldc 52, 11, 0, 0, 0, -1000000001) := by decide +kernel
theorem m163_11 : smI 163 11 = some (.invokevirtual 53, 14, 20, 108, 1, 0) := by decide +kernel
theorem m163_14 : smI 163 14 = some (.ireturn, 15, 0, 0, 0, 0) := by decide +kernel
theorem m164_0 : smI 164 0 = some (.aload_n 0, 1, 0, 0, 0, 0) := by decide +kernel
theorem m164_1 : smI 164 1 = some (.iload_n 1, 2, 0, 0, 0, 0) := by decide +kernel
theorem m164_2 : smI 164 2 = some (.invokevirtual 62, 5, 20, 113, 1, 0) := by decide +kernel
theorem m164_5 : smI 164 5 = some (.ifCond .eq 13, 8, 0, 18, 0, 0) := by decide +kernel
theorem m164_18 : smI 164 18 = some (.aload_n 0, 19, 0, 0, 0, 0) := by decide +kernel
theorem m164_19 : smI 164 19 = some (.ldc 52, 21, 0, 0, 0, -1000000001) := by decide +kernel
theorem m164_21 : smI 164 21 = some (.invokevirtual 53, 24, 20, 108, 1, 0) := by decide +kernel
theorem m164_24 : smI 164 24 = some (.ireturn, 25, 0, 0, 0, 0) := by decide +kernel
theorem m165_0 : smI 165 0 = some (.aload_n 0, 1, 0, 0, 0, 0) := by decide +kernel
theorem m165_1 : smI 165 1 = some (.iload_n 1, 2, 0, 0, 0, 0) := by decide +kernel
theorem m165_2 : smI 165 2 = some (.invokevirtual 62, 5, 20, 113, 1, 0) := by decide +kernel
theorem m165_5 : smI 165 5 = some (.ifCond .eq 13, 8, 0, 18, 0, 0) := by decide +kernel
theorem m165_18 : smI 165 18 = some (.aload_n 0, 19, 0, 0, 0, 0) := by decide +kernel
theorem m165_19 : smI 165 19 = some (.ldc 52, 21, 0, 0, 0, -1000000001) := by decide +kernel
theorem m165_21 : smI 165 21 = some (.invokevirtual 53, 24, 20, 108, 1, 0) := by decide +kernel
theorem m165_24 : smI 165 24 = some (.ireturn, 25, 0, 0, 0, 0) := by decide +kernel
theorem m166_0 : smI 166 0 = some (.iload_n 1, 1, 0, 0, 0, 0) := by decide +kernel
theorem m166_1 : smI 166 1 = some (.iconst 1, 2, 0, 0, 0, 1) := by decide +kernel
theorem m166_2 : smI 166 2 = some (.bipush 99, 4, 0, 0, 0, 99) := by decide +kernel
theorem m166_4 : smI 166 4 = some (.invokestatic 44, 7, 0, 107, 3, 0) := by decide +kernel
theorem m166_7 : smI 166 7 = some (.ifCond .eq 13, 10, 0, 20, 0, 0) := by decide +kernel
theorem m166_10 : smI 166 10 = some (.iload_n 2, 11, 0, 0, 0, 0) := by decide +kernel
theorem m166_11 : smI 166 11 = some (.iconst 0, 12, 0, 0, 0, 0) := by decide +kernel
theorem m166_12 : smI 166 12 = some (.bipush 60, 14, 0, 0, 0, 60) := by decide +kernel
theorem m166_14 : smI 166 14 = some (.invokestatic 44, 17, 0, 107, 3, 0) := by decide +kernel
theorem m166_17 : smI 166 17 = some (.ifCond .ne 10, 20, 0, 27, 0, 0) := by decide +kernel
theorem m166_20 : smI 166 20 = some (.aload_n 0, 21, 0, 0, 0, 0) := by decide +kernel
theorem m166_21 : smI 166 21 = some (.ldc 52, 23, 0, 0, 0, -1000000001) := by decide +kernel
theorem m166_23 : smI 166 23 = some (.invokevirtual 53, 26, 20, 108, 1, 0) := by decide +kernel
theorem m166_26 : smI 166 26 = some (.ireturn, 27, 0, 0, 0, 0) := by decide +kernel
theorem m166_27 : smI 166 27 = some (.iconst 0, 28, 0, 0, 0, 0) := by decide +kernel
theorem m166_28 : smI 166 28 = some (.istore_n 3, 29, 0, 0, 0, 0) := by decide +kernel
theorem m166_29 : smI 166 29 = some (.iconst 0, 30, 0, 0, 0, 0) := by decide +kernel
theorem m166_30 : smI 166 30 = some (.istore 4, 32, 0, 0, 0, 0) := by decide +kernel
theorem m166_32 : smI 166 32 = some (.aload_n 0, 33, 0, 0, 0, 0) := by decide +kernel
theorem m166_33 : smI 166 33 = some (.aload_n 0, 34, 0, 0, 0, 0) := by decide +kernel
theorem m166_34 : smI 166 34 = some (.getfield 7, 37, 0, 7, 0, 0) := by decide +kernel
theorem m166_37 : smI 166 37 = some (.aload_n 0, 38, 0, 0, 0, 0) := by decide +kernel
theorem m166_38 : smI 166 38 = some (.getfield 16, 41, 0, 7, 2, 0) := by decide +kernel
theorem m166_41 : smI 166 41 = some (.invokevirtual 149, 44, 20, 110, 2, 0) := by decide +kernel
theorem m166_44 : smI 166 44 = some (.iload_n 3, 45, 0, 0, 0, 0) := by decide +kernel
theorem m166_45 : smI 166 45 = some (.iconst 4, 46, 0, 0, 0, 4) := by decide +kernel
theorem m166_46 : smI 166 46 = some (.if_icmp .ge 85, 49, 0, 131, 0, 0) := by decide +kernel
theorem m166_49 : smI 166 49 = some (.iload 4, 51, 0, 0, 0, 0) := by decide +kernel
theorem m166_51 : smI 166 51 = some (.ifCond .ne 80, 54, 0, 131, 0, 0) := by decide +kernel
theorem m166_54 : smI 166 54 = some (.iinc 3 1, 57, 0, 0, 0, 1) := by decide +kernel
theorem m166_57 : smI 166 57 = some (.aload_n 0, 58, 0, 0, 0, 0) := by decide +kernel
theorem m166_58 : smI 166 58 = some (.getfield 7, 61, 0, 7, 0, 0) := by decide +kernel
theorem m166_61 : smI 166 61 = some (.bipush 7, 63, 0, 0, 0, 7) := by decide +kernel
theorem m166_63 : smI 166 63 = some (.iload_n 3, 64, 0, 0, 0, 0) := by decide +kernel
theorem m166_64 : smI 166 64 = some (.iastore, 65, 0, 0, 0, 0) := by decide +kernel
theorem m166_65 : smI 166 65 = some (.aload_n 0, 66, 0, 0, 0, 0) := by decide +kernel
theorem m166_66 : smI 166 66 = some (.iload_n 2, 67, 0, 0, 0, 0) := by decide +kernel
theorem m166_67 : smI 166 67 = some (.invokevirtual 170, 70, 20, 146, 1, 0) := by decide +kernel
theorem m166_70 : smI 166 70 = some (.iconst 1, 71, 0, 0, 0, 1) := by decide +kernel
theorem m166_71 : smI 166 71 = some (.istore 4, 73, 0, 0, 0, 0) := by decide +kernel
theorem m166_73 : smI 166 73 = some (.iconst 0, 74, 0, 0, 0, 0) := by decide +kernel
theorem m166_74 : smI 166 74 = some (.istore 5, 76, 0, 0, 0, 0) := by decide +kernel
theorem m166_76 : smI 166 76 = some (.iload 5, 78, 0, 0, 0, 0) := by decide +kernel
theorem m166_78 : smI 166 78 = some (.aload_n 0, 79, 0, 0, 0, 0) := by decide +kernel
theorem m166_79 : smI 166 79 = some (.getfield 7, 82, 0, 7, 0, 0) := by decide +kernel
theorem m166_82 : smI 166 82 = some (.iconst 2, 83, 0, 0, 0, 2) := by decide +kernel
theorem m166_83 : smI 166 83 = some (.iaload, 84, 0, 0, 0, 0) := by decide +kernel
theorem m166_84 : smI 166 84 = some (.if_icmp .ge 32, 87, 0, 116, 0, 0) := by decide +kernel
theorem m166_116 : smI 166 116 = some (.aload_n 0, 117, 0, 0, 0, 0) := by decide +kernel
theorem m166_117 : smI 166 117 = some (.aload_n 0, 118, 0, 0, 0, 0) := by decide +kernel
theorem m166_118 : smI 166 118 = some (.getfield 16, 121, 0, 7, 2, 0) := by decide +kernel
theorem m166_121 : smI 166 121 = some (.aload_n 0, 122, 0, 0, 0, 0) := by decide +kernel
theorem m166_122 : smI 166 122 = some (.getfield 7, 125, 0, 7, 0, 0) := by decide +kernel
theorem m166_125 : smI 166 125 = some (.invokevirtual 149, 128, 20, 110, 2, 0) := by decide +kernel
theorem m166_128 : smI 166 128 = some (.goto (-84), 131, 0, 44, 0, 0) := by decide +kernel
theorem m166_131 : smI 166 131 = some (.iload 4, 133, 0, 0, 0, 0) := by decide +kernel
theorem m166_133 : smI 166 133 = some (.ifCond .eq 7, 136, 0, 140, 0, 0) := by decide +kernel
theorem m166_136 : smI 166 136 = some (.iload_n 3, 137, 0, 0, 0, 0) := by decide +kernel
theorem m166_137 : smI 166 137 = some (.goto 9, 140, 0, 146, 0, 0) := by decide +kernel
theorem m166_146 : smI 166 146 = some (.ireturn, 147, 0, 0, 0, 0) := by decide +kernel
theorem m167_0 : smI 167 0 = some (.iload_n 1, 1, 0, 0, 0, 0) := by decide +kernel
theorem m167_1 : smI 167 1 = some (.iconst 0, 2, 0, 0, 0, 0) := by decide +kernel
theorem m167_2 : smI 167 2 = some (.bipush 60, 4, 0, 0, 0, 60) := by decide +kernel
theorem m167_4 : smI 167 4 = some (.invokestatic 44, 7, 0, 107, 3, 0) := by decide +kernel
theorem m167_7 : smI 167 7 = some (.ifCond .ne 10, 10, 0, 17, 0, 0) := by decide +kernel
theorem m167_10 : smI 167 10 = some (.aload_n 0, 11, 0, 0, 0, 0) := by decide +kernel
theorem m167_11 : smI 167 11 = some (.ldc 52, 13, 0, 0, 0, -1000000001) := by decide +kernel
theorem m167_13 : smI 167 13 = some (.invokevirtual 53, 16, 20, 108, 1, 0) := by decide +kernel
theorem m167_16 : smI 167 16 = some (.ireturn, 17, 0, 0, 0, 0) := by decide +kernel
theorem m167_17 : smI 167 17 = some (.aload_n 0, 18, 0, 0, 0, 0) := by decide +kernel
theorem m167_18 : smI 167 18 = some (.iconst 4, 19, 0, 0, 0, 4) := by decide +kernel
theorem m167_19 : smI 167 19 = some (.invokevirtual 174, 22, 20, 147, 1, 0) := by decide +kernel
theorem m167_22 : smI 167 22 = some (.istore_n 2, 23, 0, 0, 0, 0) := by decide +kernel
theorem m167_23 : smI 167 23 = some (.aload_n 0, 24, 0, 0, 0, 0) := by decide +kernel
theorem m167_24 : smI 167 24 = some (.aload_n 0, 25, 0, 0, 0, 0) := by decide +kernel
theorem m167_25 : smI 167 25 = some (.getfield 7, 28, 0, 7, 0, 0) := by decide +kernel
theorem m167_28 : smI 167 28 = some (.aload_n 0, 29, 0, 0, 0, 0) := by decide +kernel
theorem m167_29 : smI 167 29 = some (.getfield 16, 32, 0, 7, 2, 0) := by decide +kernel
theorem m167_32 : smI 167 32 = some (.invokevirtual 149, 35, 20, 110, 2, 0) := by decide +kernel
theorem m167_35 : smI 167 35 = some (.aload_n 0, 36, 0, 0, 0, 0) := by decide +kernel
theorem m167_36 : smI 167 36 = some (.iload_n 1, 37, 0, 0, 0, 0) := by decide +kernel
theorem m167_37 : smI 167 37 = some (.invokevirtual 170, 40, 20, 146, 1, 0) := by decide +kernel
theorem m167_40 : smI 167 40 = some (.aload_n 0, 41, 0, 0, 0, 0) := by decide +kernel
theorem m167_41 : smI 167 41 = some (.iconst 4, 42, 0, 0, 0, 4) := by decide +kernel
theorem m167_42 : smI 167 42 = some (.invokevirtual 174, 45, 20, 147, 1, 0) := by decide +kernel
theorem m167_45 : smI 167 45 = some (.istore_n 3, 46, 0, 0, 0, 0) := by decide +kernel
theorem m167_46 : smI 167 46 = some (.aload_n 0, 47, 0, 0, 0, 0) := by decide +kernel
theorem m167_47 : smI 167 47 = some (.aload_n 0, 48, 0, 0, 0, 0) := by decide +kernel
theorem m167_48 : smI 167 48 = some (.getfield 16, 51, 0, 7, 2, 0) := by decide +kernel
theorem m167_51 : smI 167 51 = some (.aload_n 0, 52, 0, 0, 0, 0) := by decide +kernel
theorem m167_52 : smI 167 52 = some (.getfield 7, 55, 0, 7, 0, 0) := by decide +kernel
theorem m167_55 : smI 167 55 = some (.invokevirtual 149, 58, 20, 110, 2, 0) := by decide +kernel
theorem m167_58 : smI 167 58 = some (.iload_n 3, 59, 0, 0, 0, 0) := by decide +kernel
theorem m167_59 : smI 167 59 = some (.iload_n 2, 60, 0, 0, 0, 0) := by decide +kernel
theorem m167_60 : smI 167 60 = some (.isub, 61, 0, 0, 0, 0) := by decide +kernel
theorem m167_61 : smI 167 61 = some (.ireturn, 62, 0, 0, 0, 0) := by decide +kernel
theorem m169_0 : smI 169 0 = some (.aload_n 0, 1, 0, 0, 0, 0) := by decide +kernel
theorem m169_1 : smI 169 1 = some (.iload_n 1, 2, 0, 0, 0, 0) := by decide +kernel
theorem m169_2 : smI 169 2 = some (.invokevirtual 62, 5, 20, 113, 1, 0) := by decide +kernel
theorem m169_5 : smI 169 5 = some (.ifCond .eq 22, 8, 0, 27, 0, 0) := by decide +kernel
theorem m169_27 : smI 169 27 = some (.aload_n 0, 28, 0, 0, 0, 0) := by decide +kernel
theorem m169_28 : smI 169 28 = some (.ldc 52, 30, 0, 0, 0, -1000000001) := by decide +kernel
theorem m169_30 : smI 169 30 = some (.invokevirtual 53, 33, 20, 108, 1, 0) := by decide +kernel
theorem m169_33 : smI 169 33 = some (.ireturn, 34, 0, 0, 0, 0) := by decide +kernel
theorem m170_0 : smI 170 0 = some (.aload_n 0, 1, 0, 0, 0, 0) := by decide +kernel
theorem m170_1 : smI 170 1 = some (.getfield 7, 4, 0, 7, 0, 0) := by decide +kernel
theorem m170_4 : smI 170 4 = some (.iconst 1, 5, 0, 0, 0, 1) := by decide +kernel
theorem m170_5 : smI 170 5 = some (.iaload, 6, 0, 0, 0, 0) := by decide +kernel
theorem m170_6 : smI 170 6 = some (.istore_n 2, 7, 0, 0, 0, 0) := by decide +kernel
theorem m170_7 : smI 170 7 = some (.aload_n 0, 8, 0, 0, 0, 0) := by decide +kernel
theorem m170_8 : smI 170 8 = some (.getfield 7, 11, 0, 7, 0, 0) := by decide +kernel
theorem m170_11 : smI 170 11 = some (.iconst 1, 12, 0, 0, 0, 1) := by decide +kernel
theorem m170_12 : smI 170 12 = some (.iload_n 1, 13, 0, 0, 0, 0) := by decide +kernel
theorem m170_13 : smI 170 13 = some (.iastore, 14, 0, 0, 0, 0) := by decide +kernel
theorem m170_14 : smI 170 14 = some (.iload_n 2, 15, 0, 0, 0, 0) := by decide +kernel
theorem m170_15 : smI 170 15 = some (.ireturn, 16, 0, 0, 0, 0) := by decide +kernel
theorem m176_0 : smI 176 0 = some (.aload_n 0, 1, 0, 0, 0, 0) := by decide +kernel
theorem m176_1 : smI 176 1 = some (.iload_n 1, 2, 0, 0, 0, 0) := by decide +kernel
theorem m176_2 : smI 176 2 = some (.invokevirtual 62, 5, 20, 113, 1, 0) := by decide +kernel
theorem m176_5 : smI 176 5 = some (.ifCond .eq 12, 8, 0, 17, 0, 0) := by decide +kernel
theorem m176_17 : smI 176 17 = some (.aload_n 0, 18, 0, 0, 0, 0) := by decide +kernel
theorem m176_18 : smI 176 18 = some (.ldc 52, 20, 0, 0, 0, -1000000001) := by decide +kernel
theorem m176_20 : smI 176 20 = some (.invokevirtual 53, 23, 20, 108, 1, 0) := by decide +kernel
theorem m176_23 : smI 176 23 = some (.ireturn, 24, 0, 0, 0, 0) := by decide +kernel
theorem m177_0 : smI 177 0 = some (.iload_n 1, 1, 0, 0, 0, 0) := by decide +kernel
theorem m177_1 : smI 177 1 = some (.iconst 0, 2, 0, 0, 0, 0) := by decide +kernel
theorem m177_2 : smI 177 2 = some (.aload_n 0, 3, 0, 0, 0, 0) := by decide +kernel
theorem m177_3 : smI 177 3 = some (.getfield 201, 6, 0, 7, 21, 0) := by decide +kernel
theorem m177_6 : smI 177 6 = some (.iconst 1, 7, 0, 0, 0, 1) := by decide +kernel
theorem m177_7 : smI 177 7 = some (.isub, 8, 0, 0, 0, 0) := by decide +kernel
theorem m177_8 : smI 177 8 = some (.invokestatic 44, 11, 0, 107, 3, 0) := by decide +kernel
theorem m177_11 : smI 177 11 = some (.ifCond .eq 12, 14, 0, 23, 0, 0) := by decide +kernel
theorem m177_23 : smI 177 23 = some (.aload_n 0, 24, 0, 0, 0, 0) := by decide +kernel
theorem m177_24 : smI 177 24 = some (.ldc 181, 26, 0, 0, 0, -1000000002) := by decide +kernel
theorem m177_26 : smI 177 26 = some (.invokevirtual 53, 29, 20, 108, 1, 0) := by decide +kernel
theorem m177_29 : smI 177 29 = some (.ireturn, 30, 0, 0, 0, 0) := by decide +kernel
theorem m179_0 : smI 179 0 = some (.iload_n 1, 1, 0, 0, 0, 0) := by decide +kernel
theorem m179_1 : smI 179 1 = some (.invokestatic 192, 4, 0, 160, 1, 0) := by decide +kernel
theorem m179_4 : smI 179 4 = some (.ifCond .eq 25, 7, 0, 29, 0, 0) := by decide +kernel
theorem m179_7 : smI 179 7 = some (.iload_n 2, 8, 0, 0, 0, 0) := by decide +kernel
theorem m179_8 : smI 179 8 = some (.ifCond .eq 28, 11, 0, 36, 0, 0) := by decide +kernel
theorem m179_11 : smI 179 11 = some (.iload_n 2, 12, 0, 0, 0, 0) := by decide +kernel
theorem m179_12 : smI 179 12 = some (.bipush 8, 14, 0, 0, 0, 8) := by decide +kernel
theorem m179_14 : smI 179 14 = some (.if_icmp .eq 22, 17, 0, 36, 0, 0) := by decide +kernel
theorem m179_17 : smI 179 17 = some (.iload_n 2, 18, 0, 0, 0, 0) := by decide +kernel
theorem m179_18 : smI 179 18 = some (.bipush 16, 20, 0, 0, 0, 16) := by decide +kernel
theorem m179_20 : smI 179 20 = some (.if_icmp .eq 16, 23, 0, 36, 0, 0) := by decide +kernel
theorem m179_23 : smI 179 23 = some (.iload_n 2, 24, 0, 0, 0, 0) := by decide +kernel
theorem m179_24 : smI 179 24 = some (.bipush 32, 26, 0, 0, 0, 32) := by decide +kernel
theorem m179_26 : smI 179 26 = some (.if_icmp .eq 10, 29, 0, 36, 0, 0) := by decide +kernel
theorem m179_29 : smI 179 29 = some (.aload_n 0, 30, 0, 0, 0, 0) := by decide +kernel
theorem m179_30 : smI 179 30 = some (.ldc 52, 32, 0, 0, 0, -1000000001) := by decide +kernel
theorem m179_32 : smI 179 32 = some (.invokevirtual 53, 35, 20, 108, 1, 0) := by decide +kernel
theorem m179_35 : smI 179 35 = some (.ireturn, 36, 0, 0, 0, 0) := by decide +kernel
theorem m179_36 : smI 179 36 = some (.iload_n 2, 37, 0, 0, 0, 0) := by decide +kernel
theorem m179_37 : smI 179 37 = some (.ifCond .eq 14, 40, 0, 51, 0, 0) := by decide +kernel
theorem m179_40 : smI 179 40 = some (.iload_n 3, 41, 0, 0, 0, 0) := by decide +kernel
theorem m179_41 : smI 179 41 = some (.ifCond .ge 10, 44, 0, 51, 0, 0) := by decide +kernel
theorem m179_44 : smI 179 44 = some (.aload_n 0, 45, 0, 0, 0, 0) := by decide +kernel
theorem m179_45 : smI 179 45 = some (.ldc 169, 47, 0, 0, 0, -1000000003) := by decide +kernel
theorem m179_47 : smI 179 47 = some (.invokevirtual 53, 50, 20, 108, 1, 0) := by decide +kernel
theorem m179_50 : smI 179 50 = some (.ireturn, 51, 0, 0, 0, 0) := by decide +kernel
theorem m179_51 : smI 179 51 = some (.iload_n 2, 52, 0, 0, 0, 0) := by decide +kernel
theorem m179_52 : smI 179 52 = some (.ifCond .eq 16, 55, 0, 68, 0, 0) := by decide +kernel
theorem m179_55 : smI 179 55 = some (.iload_n 3, 56, 0, 0, 0, 0) := by decide +kernel
theorem m179_56 : smI 179 56 = some (.bipush 40, 58, 0, 0, 0, 40) := by decide +kernel
theorem m179_58 : smI 179 58 = some (.if_icmp .le 10, 61, 0, 68, 0, 0) := by decide +kernel
theorem m179_61 : smI 179 61 = some (.aload_n 0, 62, 0, 0, 0, 0) := by decide +kernel
theorem m179_62 : smI 179 62 = some (.ldc 52, 64, 0, 0, 0, -1000000001) := by decide +kernel
theorem m179_64 : smI 179 64 = some (.invokevirtual 53, 67, 20, 108, 1, 0) := by decide +kernel
theorem m179_67 : smI 179 67 = some (.ireturn, 68, 0, 0, 0, 0) := by decide +kernel
theorem m179_68 : smI 179 68 = some (.aload_n 0, 69, 0, 0, 0, 0) := by decide +kernel
theorem m179_69 : smI 179 69 = some (.getfield 25, 72, 0, 7, 15, 0) := by decide +kernel
theorem m179_72 : smI 179 72 = some (.iload_n 1, 73, 0, 0, 0, 0) := by decide +kernel
theorem m179_73 : smI 179 73 = some (.iload_n 2, 74, 0, 0, 0, 0) := by decide +kernel
theorem m179_74 : smI 179 74 = some (.iastore, 75, 0, 0, 0, 0) := by decide +kernel
theorem m179_75 : smI 179 75 = some (.aload_n 0, 76, 0, 0, 0, 0) := by decide +kernel
theorem m179_76 : smI 179 76 = some (.getfield 28, 79, 0, 7, 16, 0) := by decide +kernel
theorem m179_79 : smI 179 79 = some (.iload_n 1, 80, 0, 0, 0, 0) := by decide +kernel
theorem m179_80 : smI 179 80 = some (.iload_n 2, 81, 0, 0, 0, 0) := by decide +kernel
theorem m179_81 : smI 179 81 = some (.ifCond .ne 7, 84, 0, 88, 0, 0) := by decide +kernel
theorem m179_84 : smI 179 84 = some (.iconst 0, 85, 0, 0, 0, 0) := by decide +kernel
theorem m179_85 : smI 179 85 = some (.goto 4, 88, 0, 89, 0, 0) := by decide +kernel
theorem m179_88 : smI 179 88 = some (.iload_n 3, 89, 0, 0, 0, 0) := by decide +kernel
theorem m179_89 : smI 179 89 = some (.iastore, 90, 0, 0, 0, 0) := by decide +kernel
theorem m179_90 : smI 179 90 = some (.iconst 0, 91, 0, 0, 0, 0) := by decide +kernel
theorem m179_91 : smI 179 91 = some (.istore 4, 93, 0, 0, 0, 0) := by decide +kernel
theorem m179_93 : smI 179 93 = some (.iload 4, 95, 0, 0, 0, 0) := by decide +kernel
theorem m179_95 : smI 179 95 = some (.bipush 40, 97, 0, 0, 0, 40) := by decide +kernel
theorem m179_97 : smI 179 97 = some (.if_icmp .ge 22, 100, 0, 119, 0, 0) := by decide +kernel
theorem m179_100 : smI 179 100 = some (.aload_n 0, 101, 0, 0, 0, 0) := by decide +kernel
theorem m179_101 : smI 179 101 = some (.getfield 31, 104, 0, 7, 17, 0) := by decide +kernel
theorem m179_104 : smI 179 104 = some (.bipush 40, 106, 0, 0, 0, 40) := by decide +kernel
theorem m179_106 : smI 179 106 = some (.iload_n 1, 107, 0, 0, 0, 0) := by decide +kernel
theorem m179_107 : smI 179 107 = some (.imul, 108, 0, 0, 0, 0) := by decide +kernel
theorem m179_108 : smI 179 108 = some (.iload 4, 110, 0, 0, 0, 0) := by decide +kernel
theorem m179_110 : smI 179 110 = some (.iadd, 111, 0, 0, 0, 0) := by decide +kernel
theorem m179_111 : smI 179 111 = some (.iconst 0, 112, 0, 0, 0, 0) := by decide +kernel
theorem m179_112 : smI 179 112 = some (.iastore, 113, 0, 0, 0, 0) := by decide +kernel
theorem m179_113 : smI 179 113 = some (.iinc 4 1, 116, 0, 0, 0, 1) := by decide +kernel
theorem m179_116 : smI 179 116 = some (.goto (-23), 119, 0, 93, 0, 0) := by decide +kernel
theorem m179_119 : smI 179 119 = some (.iconst 1, 120, 0, 0, 0, 1) := by decide +kernel
theorem m179_120 : smI 179 120 = some (.ireturn, 121, 0, 0, 0, 0) := by decide +kernel
theorem m180_0 : smI 180 0 = some (.iload_n 1, 1, 0, 0, 0, 0) := by decide +kernel
theorem m180_1 : smI 180 1 = some (.invokestatic 192, 4, 0, 160, 1, 0) := by decide +kernel
theorem m180_4 : smI 180 4 = some (.ifCond .ne 10, 7, 0, 14, 0, 0) := by decide +kernel
theorem m180_7 : smI 180 7 = some (.aload_n 0, 8, 0, 0, 0, 0) := by decide +kernel
theorem m180_8 : smI 180 8 = some (.ldc 52, 10, 0, 0, 0, -1000000001) := by decide +kernel
theorem m180_10 : smI 180 10 = some (.invokevirtual 53, 13, 20, 108, 1, 0) := by decide +kernel
theorem m180_13 : smI 180 13 = some (.ireturn, 14, 0, 0, 0, 0) := by decide +kernel
theorem m180_14 : smI 180 14 = some (.aload_n 0, 15, 0, 0, 0, 0) := by decide +kernel
theorem m180_15 : smI 180 15 = some (.getfield 25, 18, 0, 7, 15, 0) := by decide +kernel
theorem m180_18 : smI 180 18 = some (.iload_n 1, 19, 0, 0, 0, 0) := by decide +kernel
theorem m180_19 : smI 180 19 = some (.iaload, 20, 0, 0, 0, 0) := by decide +kernel
theorem m180_20 : smI 180 20 = some (.ifCond .ne 10, 23, 0, 30, 0, 0) := by decide +kernel
theorem m180_23 : smI 180 23 = some (.aload_n 0, 24, 0, 0, 0, 0) := by decide +kernel
theorem m180_24 : smI 180 24 = some (.ldc 181, 26, 0, 0, 0, -1000000002) := by decide +kernel
theorem m180_26 : smI 180 26 = some (.invokevirtual 53, 29, 20, 108, 1, 0) := by decide +kernel
theorem m180_29 : smI 180 29 = some (.ireturn, 30, 0, 0, 0, 0) := by decide +kernel
theorem m181_0 : smI 181 0 = some (.iload_n 1, 1, 0, 0, 0, 0) := by decide +kernel
theorem m181_1 : smI 181 1 = some (.invokestatic 192, 4, 0, 160, 1, 0) := by decide +kernel
theorem m181_4 : smI 181 4 = some (.ifCond .eq 10, 7, 0, 14, 0, 0) := by decide +kernel
theorem m181_7 : smI 181 7 = some (.iload_n 3, 8, 0, 0, 0, 0) := by decide +kernel
theorem m181_8 : smI 181 8 = some (.invokestatic 192, 11, 0, 160, 1, 0) := by decide +kernel
theorem m181_11 : smI 181 11 = some (.ifCond .ne 10, 14, 0, 21, 0, 0) := by decide +kernel
theorem m181_14 : smI 181 14 = some (.aload_n 0, 15, 0, 0, 0, 0) := by decide +kernel
theorem m181_15 : smI 181 15 = some (.ldc 52, 17, 0, 0, 0, -1000000001) := by decide +kernel
theorem m181_17 : smI 181 17 = some (.invokevirtual 53, 20, 20, 108, 1, 0) := by decide +kernel
theorem m181_20 : smI 181 20 = some (.ireturn, 21, 0, 0, 0, 0) := by decide +kernel
theorem m181_21 : smI 181 21 = some (.aload_n 0, 22, 0, 0, 0, 0) := by decide +kernel
theorem m181_22 : smI 181 22 = some (.getfield 25, 25, 0, 7, 15, 0) := by decide +kernel
theorem m181_25 : smI 181 25 = some (.iload_n 1, 26, 0, 0, 0, 0) := by decide +kernel
theorem m181_26 : smI 181 26 = some (.iaload, 27, 0, 0, 0, 0) := by decide +kernel
theorem m181_27 : smI 181 27 = some (.ifCond .eq 12, 30, 0, 39, 0, 0) := by decide +kernel
theorem m181_39 : smI 181 39 = some (.aload_n 0, 40, 0, 0, 0, 0) := by decide +kernel
theorem m181_40 : smI 181 40 = some (.ldc 181, 42, 0, 0, 0, -1000000002) := by decide +kernel
theorem m181_42 : smI 181 42 = some (.invokevirtual 53, 45, 20, 108, 1, 0) := by decide +kernel
theorem m181_45 : smI 181 45 = some (.ireturn, 46, 0, 0, 0, 0) := by decide +kernel
theorem m182_0 : smI 182 0 = some (.iload_n 1, 1, 0, 0, 0, 0) := by decide +kernel
theorem m182_1 : smI 182 1 = some (.invokestatic 192, 4, 0, 160, 1, 0) := by decide +kernel
theorem m182_4 : smI 182 4 = some (.ifCond .ne 10, 7, 0, 14, 0, 0) := by decide +kernel
theorem m182_7 : smI 182 7 = some (.aload_n 0, 8, 0, 0, 0, 0) := by decide +kernel
theorem m182_8 : smI 182 8 = some (.ldc 52, 10, 0, 0, 0, -1000000001) := by decide +kernel
theorem m182_10 : smI 182 10 = some (.invokevirtual 53, 13, 20, 108, 1, 0) := by decide +kernel
theorem m182_13 : smI 182 13 = some (.ireturn, 14, 0, 0, 0, 0) := by decide +kernel
theorem m182_14 : smI 182 14 = some (.aload_n 0, 15, 0, 0, 0, 0) := by decide +kernel
theorem m182_15 : smI 182 15 = some (.getfield 25, 18, 0, 7, 15, 0) := by decide +kernel
theorem m182_18 : smI 182 18 = some (.iload_n 1, 19, 0, 0, 0, 0) := by decide +kernel
theorem m182_19 : smI 182 19 = some (.iaload, 20, 0, 0, 0, 0) := by decide +kernel
theorem m182_20 : smI 182 20 = some (.ifCond .ne 10, 23, 0, 30, 0, 0) := by decide +kernel
theorem m182_23 : smI 182 23 = some (.aload_n 0, 24, 0, 0, 0, 0) := by decide +kernel
theorem m182_24 : smI 182 24 = some (.ldc 181, 26, 0, 0, 0, -1000000002) := by decide +kernel
theorem m182_26 : smI 182 26 = some (.invokevirtual 53, 29, 20, 108, 1, 0) := by decide +kernel
theorem m182_29 : smI 182 29 = some (.ireturn, 30, 0, 0, 0, 0) := by decide +kernel
theorem m183_0 : smI 183 0 = some (.iload_n 1, 1, 0, 0, 0, 0) := by decide +kernel
theorem m183_1 : smI 183 1 = some (.invokestatic 192, 4, 0, 160, 1, 0) := by decide +kernel
theorem m183_4 : smI 183 4 = some (.ifCond .ne 10, 7, 0, 14, 0, 0) := by decide +kernel
theorem m183_7 : smI 183 7 = some (.aload_n 0, 8, 0, 0, 0, 0) := by decide +kernel
theorem m183_8 : smI 183 8 = some (.ldc 52, 10, 0, 0, 0, -1000000001) := by decide +kernel
theorem m183_10 : smI 183 10 = some (.invokevirtual 53, 13, 20, 108, 1, 0) := by decide +kernel
theorem m183_13 : smI 183 13 = some (.ireturn, 14, 0, 0, 0, 0) := by decide +kernel
theorem m183_14 : smI 183 14 = some (.aload_n 0, 15, 0, 0, 0, 0) := by decide +kernel
theorem m183_15 : smI 183 15 = some (.getfield 25, 18, 0, 7, 15, 0) := by decide +kernel
theorem m183_18 : smI 183 18 = some (.iload_n 1, 19, 0, 0, 0, 0) := by decide +kernel
theorem m183_19 : smI 183 19 = some (.iaload, 20, 0, 0, 0, 0) := by decide +kernel
theorem m183_20 : smI 183 20 = some (.ifCond .ne 10, 23, 0, 30, 0, 0) := by decide +kernel
theorem m183_23 : smI 183 23 = some (.aload_n 0, 24, 0, 0, 0, 0) := by decide +kernel
theorem m183_24 : smI 183 24 = some (.ldc 181, 26, 0, 0, 0, -1000000002) := by decide +kernel
theorem m183_26 : smI 183 26 = some (.invokevirtual 53, 29, 20, 108, 1, 0) := by decide +kernel
theorem m183_29 : smI 183 29 = some (.ireturn, 30, 0, 0, 0, 0) := by decide +kernel
theorem m184_0 : smI 184 0 = some (.aload_n 0, 1, 0, 0, 0, 0) := by decide +kernel
theorem m184_1 : smI 184 1 = some (.aload_n 0, 2, 0, 0, 0, 0) := by decide +kernel
theorem m184_2 : smI 184 2 = some (.getfield 7, 5, 0, 7, 0, 0) := by decide +kernel
theorem m184_5 : smI 184 5 = some (.aload_n 0, 6, 0, 0, 0, 0) := by decide +kernel
theorem m184_6 : smI 184 6 = some (.getfield 13, 9, 0, 7, 1, 0) := by decide +kernel
theorem m184_9 : smI 184 9 = some (.invokevirtual 149, 12, 20, 110, 2, 0) := by decide +kernel
theorem m184_12 : smI 184 12 = some (.aload_n 0, 13, 0, 0, 0, 0) := by decide +kernel
theorem m184_13 : smI 184 13 = some (.iconst 1, 14, 0, 0, 0, 1) := by decide +kernel
theorem m184_14 : smI 184 14 = some (.putfield 231, 17, 0, 7, 4, 0) := by decide +kernel
theorem m184_17 : smI 184 17 = some (.aload_n 0, 18, 0, 0, 0, 0) := by decide +kernel
theorem m184_18 : smI 184 18 = some (.dup, 19, 0, 0, 0, 0) := by decide +kernel
theorem m184_19 : smI 184 19 = some (.getfield 234, 22, 0, 7, 5, 0) := by decide +kernel
theorem m184_22 : smI 184 22 = some (.iconst 1, 23, 0, 0, 0, 1) := by decide +kernel
theorem m184_23 : smI 184 23 = some (.iadd, 24, 0, 0, 0, 0) := by decide +kernel
theorem m184_24 : smI 184 24 = some (.putfield 234, 27, 0, 7, 5, 0) := by decide +kernel
theorem m184_27 : smI 184 27 = some (.aload_n 0, 28, 0, 0, 0, 0) := by decide +kernel
theorem m184_28 : smI 184 28 = some (.getfield 234, 31, 0, 7, 5, 0) := by decide +kernel
theorem m184_31 : smI 184 31 = some (.ireturn, 32, 0, 0, 0, 0) := by decide +kernel
theorem m185_0 : smI 185 0 = some (.aload_n 0, 1, 0, 0, 0, 0) := by decide +kernel
theorem m185_1 : smI 185 1 = some (.getfield 231, 4, 0, 7, 4, 0) := by decide +kernel
theorem m185_4 : smI 185 4 = some (.ifCond .ne 10, 7, 0, 14, 0, 0) := by decide +kernel
theorem m185_7 : smI 185 7 = some (.aload_n 0, 8, 0, 0, 0, 0) := by decide +kernel
theorem m185_8 : smI 185 8 = some (.ldc 181, 10, 0, 0, 0, -1000000002) := by decide +kernel
theorem m185_10 : smI 185 10 = some (.invokevirtual 53, 13, 20, 108, 1, 0) := by decide +kernel
theorem m185_13 : smI 185 13 = some (.ireturn, 14, 0, 0, 0, 0) := by decide +kernel
theorem m186_0 : smI 186 0 = some (.aload_n 0, 1, 0, 0, 0, 0) := by decide +kernel
theorem m186_1 : smI 186 1 = some (.getfield 7, 4, 0, 7, 0, 0) := by decide +kernel
theorem m186_4 : smI 186 4 = some (.iconst 4, 5, 0, 0, 0, 4) := by decide +kernel
theorem m186_5 : smI 186 5 = some (.iaload, 6, 0, 0, 0, 0) := by decide +kernel
theorem m186_6 : smI 186 6 = some (.bipush 20, 8, 0, 0, 0, 20) := by decide +kernel
theorem m186_8 : smI 186 8 = some (.if_icmp .ne 10, 11, 0, 18, 0, 0) := by decide +kernel
theorem m186_18 : smI 186 18 = some (.aload_n 0, 19, 0, 0, 0, 0) := by decide +kernel
theorem m186_19 : smI 186 19 = some (.getfield 7, 22, 0, 7, 0, 0) := by decide +kernel
theorem m186_22 : smI 186 22 = some (.bipush 114, 24, 0, 0, 0, 114) := by decide +kernel
theorem m186_24 : smI 186 24 = some (.aload_n 0, 25, 0, 0, 0, 0) := by decide +kernel
theorem m186_25 : smI 186 25 = some (.getfield 7, 28, 0, 7, 0, 0) := by decide +kernel
theorem m186_28 : smI 186 28 = some (.iconst 4, 29, 0, 0, 0, 4) := by decide +kernel
theorem m186_29 : smI 186 29 = some (.iaload, 30, 0, 0, 0, 0) := by decide +kernel
theorem m186_30 : smI 186 30 = some (.iadd, 31, 0, 0, 0, 0) := by decide +kernel
theorem m186_31 : smI 186 31 = some (.iload_n 1, 32, 0, 0, 0, 0) := by decide +kernel
theorem m186_32 : smI 186 32 = some (.iastore, 33, 0, 0, 0, 0) := by decide +kernel
theorem m186_33 : smI 186 33 = some (.aload_n 0, 34, 0, 0, 0, 0) := by decide +kernel
theorem m186_34 : smI 186 34 = some (.getfield 7, 37, 0, 7, 0, 0) := by decide +kernel
theorem m186_37 : smI 186 37 = some (.iconst 4, 38, 0, 0, 0, 4) := by decide +kernel
theorem m186_38 : smI 186 38 = some (.dup2, 39, 0, 0, 0, 0) := by decide +kernel
theorem m186_39 : smI 186 39 = some (.iaload, 40, 0, 0, 0, 0) := by decide +kernel
theorem m186_40 : smI 186 40 = some (.iconst 1, 41, 0, 0, 0, 1) := by decide +kernel
theorem m186_41 : smI 186 41 = some (.iadd, 42, 0, 0, 0, 0) := by decide +kernel
theorem m186_42 : smI 186 42 = some (.iastore, 43, 0, 0, 0, 0) := by decide +kernel
theorem m186_43 : smI 186 43 = some (.aload_n 0, 44, 0, 0, 0, 0) := by decide +kernel
theorem m186_44 : smI 186 44 = some (.getfield 7, 47, 0, 7, 0, 0) := by decide +kernel
theorem m186_47 : smI 186 47 = some (.iconst 4, 48, 0, 0, 0, 4) := by decide +kernel
theorem m186_48 : smI 186 48 = some (.iaload, 49, 0, 0, 0, 0) := by decide +kernel
theorem m186_49 : smI 186 49 = some (.ireturn, 50, 0, 0, 0, 0) := by decide +kernel
theorem m187_0 : smI 187 0 = some (.aload_n 0, 1, 0, 0, 0, 0) := by decide +kernel
theorem m187_1 : smI 187 1 = some (.getfield 7, 4, 0, 7, 0, 0) := by decide +kernel
theorem m187_4 : smI 187 4 = some (.iconst 4, 5, 0, 0, 0, 4) := by decide +kernel
theorem m187_5 : smI 187 5 = some (.iaload, 6, 0, 0, 0, 0) := by decide +kernel
theorem m187_6 : smI 187 6 = some (.istore_n 1, 7, 0, 0, 0, 0) := by decide +kernel
theorem m187_7 : smI 187 7 = some (.aload_n 0, 8, 0, 0, 0, 0) := by decide +kernel
theorem m187_8 : smI 187 8 = some (.getfield 7, 11, 0, 7, 0, 0) := by decide +kernel
theorem m187_11 : smI 187 11 = some (.iconst 4, 12, 0, 0, 0, 4) := by decide +kernel
theorem m187_12 : smI 187 12 = some (.iconst 0, 13, 0, 0, 0, 0) := by decide +kernel
theorem m187_13 : smI 187 13 = some (.iastore, 14, 0, 0, 0, 0) := by decide +kernel
theorem m187_14 : smI 187 14 = some (.aload_n 0, 15, 0, 0, 0, 0) := by decide +kernel
theorem m187_15 : smI 187 15 = some (.aload_n 0, 16, 0, 0, 0, 0) := by decide +kernel
theorem m187_16 : smI 187 16 = some (.getfield 7, 19, 0, 7, 0, 0) := by decide +kernel
theorem m187_19 : smI 187 19 = some (.aload_n 0, 20, 0, 0, 0, 0) := by decide +kernel
theorem m187_20 : smI 187 20 = some (.getfield 16, 23, 0, 7, 2, 0) := by decide +kernel
theorem m187_23 : smI 187 23 = some (.invokevirtual 149, 26, 20, 110, 2, 0) := by decide +kernel
theorem m187_26 : smI 187 26 = some (.iconst 0, 27, 0, 0, 0, 0) := by decide +kernel
theorem m187_27 : smI 187 27 = some (.istore_n 2, 28, 0, 0, 0, 0) := by decide +kernel
theorem m187_28 : smI 187 28 = some (.iconst 1, 29, 0, 0, 0, 1) := by decide +kernel
theorem m187_29 : smI 187 29 = some (.istore_n 3, 30, 0, 0, 0, 0) := by decide +kernel
theorem m187_30 : smI 187 30 = some (.iload_n 2, 31, 0, 0, 0, 0) := by decide +kernel
theorem m187_31 : smI 187 31 = some (.iload_n 1, 32, 0, 0, 0, 0) := by decide +kernel
theorem m187_32 : smI 187 32 = some (.if_icmp .ge 49, 35, 0, 81, 0, 0) := by decide +kernel
theorem m187_81 : smI 187 81 = some (.aload_n 0, 82, 0, 0, 0, 0) := by decide +kernel
theorem m187_82 : smI 187 82 = some (.aload_n 0, 83, 0, 0, 0, 0) := by decide +kernel
theorem m187_83 : smI 187 83 = some (.getfield 16, 86, 0, 7, 2, 0) := by decide +kernel
theorem m187_86 : smI 187 86 = some (.aload_n 0, 87, 0, 0, 0, 0) := by decide +kernel
theorem m187_87 : smI 187 87 = some (.getfield 7, 90, 0, 7, 0, 0) := by decide +kernel
theorem m187_90 : smI 187 90 = some (.invokevirtual 149, 93, 20, 110, 2, 0) := by decide +kernel
theorem m187_93 : smI 187 93 = some (.iload_n 3, 94, 0, 0, 0, 0) := by decide +kernel
theorem m187_94 : smI 187 94 = some (.ifCond .eq 7, 97, 0, 101, 0, 0) := by decide +kernel
theorem m187_97 : smI 187 97 = some (.iconst 0, 98, 0, 0, 0, 0) := by decide +kernel
theorem m187_98 : smI 187 98 = some (.goto 6, 101, 0, 104, 0, 0) := by decide +kernel
theorem m187_104 : smI 187 104 = some (.ireturn, 105, 0, 0, 0, 0) := by decide +kernel
theorem m188_0 : smI 188 0 = some (.iload_n 1, 1, 0, 0, 0, 0) := by decide +kernel
theorem m188_1 : smI 188 1 = some (.tableswitch 121 0 9 #[55, 62, 70, 77, 83, 89, 95, 102, 109, 114], 56, 0, 0, 0, 0) := by decide +kernel
theorem m188_56 : smI 188 56 = some (.aload_n 0, 57, 0, 0, 0, 0) := by decide +kernel
theorem m188_57 : smI 188 57 = some (.getfield 7, 60, 0, 7, 0, 0) := by decide +kernel
theorem m188_60 : smI 188 60 = some (.iconst 2, 61, 0, 0, 0, 2) := by decide +kernel
theorem m188_61 : smI 188 61 = some (.iaload, 62, 0, 0, 0, 0) := by decide +kernel
theorem m188_62 : smI 188 62 = some (.ireturn, 63, 0, 0, 0, 0) := by decide +kernel
theorem m188_63 : smI 188 63 = some (.aload_n 0, 64, 0, 0, 0, 0) := by decide +kernel
theorem m188_64 : smI 188 64 = some (.getfield 7, 67, 0, 7, 0, 0) := by decide +kernel
theorem m188_67 : smI 188 67 = some (.bipush 7, 69, 0, 0, 0, 7) := by decide +kernel
theorem m188_69 : smI 188 69 = some (.iaload, 70, 0, 0, 0, 0) := by decide +kernel
theorem m188_70 : smI 188 70 = some (.ireturn, 71, 0, 0, 0, 0) := by decide +kernel
theorem m188_71 : smI 188 71 = some (.aload_n 0, 72, 0, 0, 0, 0) := by decide +kernel
theorem m188_72 : smI 188 72 = some (.getfield 7, 75, 0, 7, 0, 0) := by decide +kernel
theorem m188_75 : smI 188 75 = some (.iconst 0, 76, 0, 0, 0, 0) := by decide +kernel
theorem m188_76 : smI 188 76 = some (.iaload, 77, 0, 0, 0, 0) := by decide +kernel
theorem m188_77 : smI 188 77 = some (.ireturn, 78, 0, 0, 0, 0) := by decide +kernel
theorem m188_78 : smI 188 78 = some (.aload_n 0, 79, 0, 0, 0, 0) := by decide +kernel
theorem m188_79 : smI 188 79 = some (.iconst 2, 80, 0, 0, 0, 2) := by decide +kernel
theorem m188_80 : smI 188 80 = some (.invokevirtual 174, 83, 20, 147, 1, 0) := by decide +kernel
theorem m188_83 : smI 188 83 = some (.ireturn, 84, 0, 0, 0, 0) := by decide +kernel
theorem m188_84 : smI 188 84 = some (.aload_n 0, 85, 0, 0, 0, 0) := by decide +kernel
theorem m188_85 : smI 188 85 = some (.iconst 4, 86, 0, 0, 0, 4) := by decide +kernel
theorem m188_86 : smI 188 86 = some (.invokevirtual 174, 89, 20, 147, 1, 0) := by decide +kernel
theorem m188_89 : smI 188 89 = some (.ireturn, 90, 0, 0, 0, 0) := by decide +kernel
theorem m188_90 : smI 188 90 = some (.aload_n 0, 91, 0, 0, 0, 0) := by decide +kernel
theorem m188_91 : smI 188 91 = some (.iconst 5, 92, 0, 0, 0, 5) := by decide +kernel
theorem m188_92 : smI 188 92 = some (.invokevirtual 174, 95, 20, 147, 1, 0) := by decide +kernel
theorem m188_95 : smI 188 95 = some (.ireturn, 96, 0, 0, 0, 0) := by decide +kernel
theorem m188_96 : smI 188 96 = some (.aload_n 0, 97, 0, 0, 0, 0) := by decide +kernel
theorem m188_97 : smI 188 97 = some (.getfield 7, 100, 0, 7, 0, 0) := by decide +kernel
theorem m188_100 : smI 188 100 = some (.iconst 3, 101, 0, 0, 0, 3) := by decide +kernel
theorem m188_101 : smI 188 101 = some (.iaload, 102, 0, 0, 0, 0) := by decide +kernel
theorem m188_102 : smI 188 102 = some (.ireturn, 103, 0, 0, 0, 0) := by decide +kernel
theorem m188_103 : smI 188 103 = some (.aload_n 0, 104, 0, 0, 0, 0) := by decide +kernel
theorem m188_104 : smI 188 104 = some (.getfield 7, 107, 0, 7, 0, 0) := by decide +kernel
theorem m188_107 : smI 188 107 = some (.iconst 4, 108, 0, 0, 0, 4) := by decide +kernel
theorem m188_108 : smI 188 108 = some (.iaload, 109, 0, 0, 0, 0) := by decide +kernel
theorem m188_109 : smI 188 109 = some (.ireturn, 110, 0, 0, 0, 0) := by decide +kernel
theorem m188_110 : smI 188 110 = some (.aload_n 0, 111, 0, 0, 0, 0) := by decide +kernel
theorem m188_111 : smI 188 111 = some (.getfield 201, 114, 0, 7, 21, 0) := by decide +kernel
theorem m188_114 : smI 188 114 = some (.ireturn, 115, 0, 0, 0, 0) := by decide +kernel
theorem m188_115 : smI 188 115 = some (.aload_n 0, 116, 0, 0, 0, 0) := by decide +kernel
theorem m188_116 : smI 188 116 = some (.getfield 7, 119, 0, 7, 0, 0) := by decide +kernel
theorem m188_119 : smI 188 119 = some (.iconst 1, 120, 0, 0, 0, 1) := by decide +kernel
theorem m188_120 : smI 188 120 = some (.iaload, 121, 0, 0, 0, 0) := by decide +kernel
theorem m188_121 : smI 188 121 = some (.ireturn, 122, 0, 0, 0, 0) := by decide +kernel
theorem m188_122 : smI 188 122 = some (.aload_n 0, 123, 0, 0, 0, 0) := by decide +kernel
theorem m188_123 : smI 188 123 = some (.ldc 52, 125, 0, 0, 0, -1000000001) := by decide +kernel
theorem m188_125 : smI 188 125 = some (.invokevirtual 53, 128, 20, 108, 1, 0) := by decide +kernel
theorem m188_128 : smI 188 128 = some (.ireturn, 129, 0, 0, 0, 0) := by decide +kernel
theorem m189_0 : smI 189 0 = some (.iload_n 1, 1, 0, 0, 0, 0) := by decide +kernel
theorem m189_1 : smI 189 1 = some (.iconst 1, 2, 0, 0, 0, 1) := by decide +kernel
theorem m189_2 : smI 189 2 = some (.iconst 5, 3, 0, 0, 0, 5) := by decide +kernel
theorem m189_3 : smI 189 3 = some (.invokestatic 44, 6, 0, 107, 3, 0) := by decide +kernel
theorem m189_6 : smI 189 6 = some (.ifCond .eq 12, 9, 0, 18, 0, 0) := by decide +kernel
theorem m189_9 : smI 189 9 = some (.aload_n 0, 10, 0, 0, 0, 0) := by decide +kernel
theorem m189_10 : smI 189 10 = some (.getfield 22, 13, 0, 7, 6, 0) := by decide +kernel
theorem m189_13 : smI 189 13 = some (.iload_n 1, 14, 0, 0, 0, 0) := by decide +kernel
theorem m189_14 : smI 189 14 = some (.iaload, 15, 0, 0, 0, 0) := by decide +kernel
theorem m189_15 : smI 189 15 = some (.goto 9, 18, 0, 24, 0, 0) := by decide +kernel
theorem m189_18 : smI 189 18 = some (.aload_n 0, 19, 0, 0, 0, 0) := by decide +kernel
theorem m189_19 : smI 189 19 = some (.ldc 52, 21, 0, 0, 0, -1000000001) := by decide +kernel
theorem m189_21 : smI 189 21 = some (.invokevirtual 53, 24, 20, 108, 1, 0) := by decide +kernel
theorem m189_24 : smI 189 24 = some (.ireturn, 25, 0, 0, 0, 0) := by decide +kernel
theorem m190_18 : smI 190 18 = some (.iload_n 3, 19, 0, 0, 0, 0) := by decide +kernel
theorem m190_19 : smI 190 19 = some (.aload_n 0, 20, 0, 0, 0, 0) := by decide +kernel
theorem m190_20 : smI 190 20 = some (.arraylength, 21, 0, 0, 0, 0) := by decide +kernel
theorem m190_21 : smI 190 21 = some (.bipush 6, 23, 0, 0, 0, 6) := by decide +kernel
theorem m190_23 : smI 190 23 = some (.isub, 24, 0, 0, 0, 0) := by decide +kernel
theorem m190_24 : smI 190 24 = some (.if_icmp .gt 1410, 27, 0, 1434, 0, 0) := by decide +kernel
theorem m190_208 : smI 190 208 = some (.aload_n 1, 209, 0, 0, 0, 0) := by decide +kernel
theorem m190_209 : smI 190 209 = some (.aload_n 0, 210, 0, 0, 0, 0) := by decide +kernel
theorem m190_210 : smI 190 210 = some (.iload_n 3, 211, 0, 0, 0, 0) := by decide +kernel
theorem m190_211 : smI 190 211 = some (.iconst 1, 212, 0, 0, 0, 1) := by decide +kernel
theorem m190_212 : smI 190 212 = some (.iadd, 213, 0, 0, 0, 0) := by decide +kernel
theorem m190_213 : smI 190 213 = some (.iaload, 214, 0, 0, 0, 0) := by decide +kernel
theorem m190_214 : smI 190 214 = some (.aload_n 0, 215, 0, 0, 0, 0) := by decide +kernel
theorem m190_215 : smI 190 215 = some (.iload_n 3, 216, 0, 0, 0, 0) := by decide +kernel
theorem m190_216 : smI 190 216 = some (.iconst 2, 217, 0, 0, 0, 2) := by decide +kernel
theorem m190_217 : smI 190 217 = some (.iadd, 218, 0, 0, 0, 0) := by decide +kernel
theorem m190_218 : smI 190 218 = some (.iaload, 219, 0, 0, 0, 0) := by decide +kernel
theorem m190_219 : smI 190 219 = some (.invokevirtual 13, 222, 20, 56, 2, 0) := by decide +kernel
theorem m190_222 : smI 190 222 = some (.aload_n 2, 223, 0, 0, 0, 0) := by decide +kernel
theorem m190_223 : smI 190 223 = some (.aload_n 0, 224, 0, 0, 0, 0) := by decide +kernel
theorem m190_224 : smI 190 224 = some (.iload_n 3, 225, 0, 0, 0, 0) := by decide +kernel
theorem m190_225 : smI 190 225 = some (.iconst 1, 226, 0, 0, 0, 1) := by decide +kernel
theorem m190_226 : smI 190 226 = some (.iadd, 227, 0, 0, 0, 0) := by decide +kernel
theorem m190_227 : smI 190 227 = some (.iaload, 228, 0, 0, 0, 0) := by decide +kernel
theorem m190_228 : smI 190 228 = some (.aload_n 0, 229, 0, 0, 0, 0) := by decide +kernel
theorem m190_229 : smI 190 229 = some (.iload_n 3, 230, 0, 0, 0, 0) := by decide +kernel
theorem m190_230 : smI 190 230 = some (.iconst 2, 231, 0, 0, 0, 2) := by decide +kernel
theorem m190_231 : smI 190 231 = some (.iadd, 232, 0, 0, 0, 0) := by decide +kernel
theorem m190_232 : smI 190 232 = some (.iaload, 233, 0, 0, 0, 0) := by decide +kernel
theorem m190_233 : smI 190 233 = some (.invokevirtual 17, 236, 20, 115, 2, 0) := by decide +kernel
theorem m190_236 : smI 190 236 = some (.if_icmp .eq 1192, 239, 0, 1428, 0, 0) := by decide +kernel
theorem m190_241 : smI 190 241 = some (.aload_n 1, 242, 0, 0, 0, 0) := by decide +kernel
theorem m190_242 : smI 190 242 = some (.aload_n 0, 243, 0, 0, 0, 0) := by decide +kernel
theorem m190_243 : smI 190 243 = some (.iload_n 3, 244, 0, 0, 0, 0) := by decide +kernel
theorem m190_244 : smI 190 244 = some (.iconst 1, 245, 0, 0, 0, 1) := by decide +kernel
theorem m190_245 : smI 190 245 = some (.iadd, 246, 0, 0, 0, 0) := by decide +kernel
theorem m190_246 : smI 190 246 = some (.iaload, 247, 0, 0, 0, 0) := by decide +kernel
theorem m190_247 : smI 190 247 = some (.invokevirtual 18, 250, 20, 57, 1, 0) := by decide +kernel
theorem m190_250 : smI 190 250 = some (.aload_n 2, 251, 0, 0, 0, 0) := by decide +kernel
theorem m190_251 : smI 190 251 = some (.aload_n 0, 252, 0, 0, 0, 0) := by decide +kernel
theorem m190_252 : smI 190 252 = some (.iload_n 3, 253, 0, 0, 0, 0) := by decide +kernel
theorem m190_253 : smI 190 253 = some (.iconst 1, 254, 0, 0, 0, 1) := by decide +kernel
theorem m190_254 : smI 190 254 = some (.iadd, 255, 0, 0, 0, 0) := by decide +kernel
theorem m190_255 : smI 190 255 = some (.iaload, 256, 0, 0, 0, 0) := by decide +kernel
theorem m190_256 : smI 190 256 = some (.invokevirtual 22, 259, 20, 116, 1, 0) := by decide +kernel
theorem m190_259 : smI 190 259 = some (.if_icmp .eq 1169, 262, 0, 1428, 0, 0) := by decide +kernel
theorem m190_264 : smI 190 264 = some (.aload_n 1, 265, 0, 0, 0, 0) := by decide +kernel
theorem m190_265 : smI 190 265 = some (.aload_n 0, 266, 0, 0, 0, 0) := by decide +kernel
theorem m190_266 : smI 190 266 = some (.iload_n 3, 267, 0, 0, 0, 0) := by decide +kernel
theorem m190_267 : smI 190 267 = some (.iconst 1, 268, 0, 0, 0, 1) := by decide +kernel
theorem m190_268 : smI 190 268 = some (.iadd, 269, 0, 0, 0, 0) := by decide +kernel
theorem m190_269 : smI 190 269 = some (.iaload, 270, 0, 0, 0, 0) := by decide +kernel
theorem m190_270 : smI 190 270 = some (.invokevirtual 23, 273, 20, 58, 1, 0) := by decide +kernel
theorem m190_273 : smI 190 273 = some (.aload_n 2, 274, 0, 0, 0, 0) := by decide +kernel
theorem m190_274 : smI 190 274 = some (.aload_n 0, 275, 0, 0, 0, 0) := by decide +kernel
theorem m190_275 : smI 190 275 = some (.iload_n 3, 276, 0, 0, 0, 0) := by decide +kernel
theorem m190_276 : smI 190 276 = some (.iconst 1, 277, 0, 0, 0, 1) := by decide +kernel
theorem m190_277 : smI 190 277 = some (.iadd, 278, 0, 0, 0, 0) := by decide +kernel
theorem m190_278 : smI 190 278 = some (.iaload, 279, 0, 0, 0, 0) := by decide +kernel
theorem m190_279 : smI 190 279 = some (.invokevirtual 26, 282, 20, 117, 1, 0) := by decide +kernel
theorem m190_282 : smI 190 282 = some (.if_icmp .eq 1146, 285, 0, 1428, 0, 0) := by decide +kernel
theorem m190_287 : smI 190 287 = some (.aload_n 1, 288, 0, 0, 0, 0) := by decide +kernel
theorem m190_288 : smI 190 288 = some (.aload_n 0, 289, 0, 0, 0, 0) := by decide +kernel
theorem m190_289 : smI 190 289 = some (.iload_n 3, 290, 0, 0, 0, 0) := by decide +kernel
theorem m190_290 : smI 190 290 = some (.iconst 1, 291, 0, 0, 0, 1) := by decide +kernel
theorem m190_291 : smI 190 291 = some (.iadd, 292, 0, 0, 0, 0) := by decide +kernel
theorem m190_292 : smI 190 292 = some (.iaload, 293, 0, 0, 0, 0) := by decide +kernel
theorem m190_293 : smI 190 293 = some (.aload_n 0, 294, 0, 0, 0, 0) := by decide +kernel
theorem m190_294 : smI 190 294 = some (.iload_n 3, 295, 0, 0, 0, 0) := by decide +kernel
theorem m190_295 : smI 190 295 = some (.iconst 2, 296, 0, 0, 0, 2) := by decide +kernel
theorem m190_296 : smI 190 296 = some (.iadd, 297, 0, 0, 0, 0) := by decide +kernel
theorem m190_297 : smI 190 297 = some (.iaload, 298, 0, 0, 0, 0) := by decide +kernel
theorem m190_298 : smI 190 298 = some (.aload_n 0, 299, 0, 0, 0, 0) := by decide +kernel
theorem m190_299 : smI 190 299 = some (.iload_n 3, 300, 0, 0, 0, 0) := by decide +kernel
theorem m190_300 : smI 190 300 = some (.iconst 3, 301, 0, 0, 0, 3) := by decide +kernel
theorem m190_301 : smI 190 301 = some (.iadd, 302, 0, 0, 0, 0) := by decide +kernel
theorem m190_302 : smI 190 302 = some (.iaload, 303, 0, 0, 0, 0) := by decide +kernel
theorem m190_303 : smI 190 303 = some (.invokevirtual 27, 306, 20, 59, 3, 0) := by decide +kernel
theorem m190_306 : smI 190 306 = some (.aload_n 2, 307, 0, 0, 0, 0) := by decide +kernel
theorem m190_307 : smI 190 307 = some (.aload_n 0, 308, 0, 0, 0, 0) := by decide +kernel
theorem m190_308 : smI 190 308 = some (.iload_n 3, 309, 0, 0, 0, 0) := by decide +kernel
theorem m190_309 : smI 190 309 = some (.iconst 1, 310, 0, 0, 0, 1) := by decide +kernel
theorem m190_310 : smI 190 310 = some (.iadd, 311, 0, 0, 0, 0) := by decide +kernel
theorem m190_311 : smI 190 311 = some (.iaload, 312, 0, 0, 0, 0) := by decide +kernel
theorem m190_312 : smI 190 312 = some (.aload_n 0, 313, 0, 0, 0, 0) := by decide +kernel
theorem m190_313 : smI 190 313 = some (.iload_n 3, 314, 0, 0, 0, 0) := by decide +kernel
theorem m190_314 : smI 190 314 = some (.iconst 2, 315, 0, 0, 0, 2) := by decide +kernel
theorem m190_315 : smI 190 315 = some (.iadd, 316, 0, 0, 0, 0) := by decide +kernel
theorem m190_316 : smI 190 316 = some (.iaload, 317, 0, 0, 0, 0) := by decide +kernel
theorem m190_317 : smI 190 317 = some (.aload_n 0, 318, 0, 0, 0, 0) := by decide +kernel
theorem m190_318 : smI 190 318 = some (.iload_n 3, 319, 0, 0, 0, 0) := by decide +kernel
theorem m190_319 : smI 190 319 = some (.iconst 3, 320, 0, 0, 0, 3) := by decide +kernel
theorem m190_320 : smI 190 320 = some (.iadd, 321, 0, 0, 0, 0) := by decide +kernel
theorem m190_321 : smI 190 321 = some (.iaload, 322, 0, 0, 0, 0) := by decide +kernel
theorem m190_322 : smI 190 322 = some (.invokevirtual 31, 325, 20, 118, 3, 0) := by decide +kernel
theorem m190_325 : smI 190 325 = some (.if_icmp .eq 1103, 328, 0, 1428, 0, 0) := by decide +kernel
theorem m190_330 : smI 190 330 = some (.aload_n 1, 331, 0, 0, 0, 0) := by decide +kernel
theorem m190_331 : smI 190 331 = some (.aload_n 0, 332, 0, 0, 0, 0) := by decide +kernel
theorem m190_332 : smI 190 332 = some (.iload_n 3, 333, 0, 0, 0, 0) := by decide +kernel
theorem m190_333 : smI 190 333 = some (.iconst 1, 334, 0, 0, 0, 1) := by decide +kernel
theorem m190_334 : smI 190 334 = some (.iadd, 335, 0, 0, 0, 0) := by decide +kernel
theorem m190_335 : smI 190 335 = some (.iaload, 336, 0, 0, 0, 0) := by decide +kernel
theorem m190_336 : smI 190 336 = some (.aload_n 0, 337, 0, 0, 0, 0) := by decide +kernel
theorem m190_337 : smI 190 337 = some (.iload_n 3, 338, 0, 0, 0, 0) := by decide +kernel
theorem m190_338 : smI 190 338 = some (.iconst 2, 339, 0, 0, 0, 2) := by decide +kernel
theorem m190_339 : smI 190 339 = some (.iadd, 340, 0, 0, 0, 0) := by decide +kernel
theorem m190_340 : smI 190 340 = some (.iaload, 341, 0, 0, 0, 0) := by decide +kernel
theorem m190_341 : smI 190 341 = some (.invokevirtual 32, 344, 20, 61, 2, 0) := by decide +kernel
theorem m190_344 : smI 190 344 = some (.aload_n 2, 345, 0, 0, 0, 0) := by decide +kernel
theorem m190_345 : smI 190 345 = some (.aload_n 0, 346, 0, 0, 0, 0) := by decide +kernel
theorem m190_346 : smI 190 346 = some (.iload_n 3, 347, 0, 0, 0, 0) := by decide +kernel
theorem m190_347 : smI 190 347 = some (.iconst 1, 348, 0, 0, 0, 1) := by decide +kernel
theorem m190_348 : smI 190 348 = some (.iadd, 349, 0, 0, 0, 0) := by decide +kernel
theorem m190_349 : smI 190 349 = some (.iaload, 350, 0, 0, 0, 0) := by decide +kernel
theorem m190_350 : smI 190 350 = some (.aload_n 0, 351, 0, 0, 0, 0) := by decide +kernel
theorem m190_351 : smI 190 351 = some (.iload_n 3, 352, 0, 0, 0, 0) := by decide +kernel
theorem m190_352 : smI 190 352 = some (.iconst 2, 353, 0, 0, 0, 2) := by decide +kernel
theorem m190_353 : smI 190 353 = some (.iadd, 354, 0, 0, 0, 0) := by decide +kernel
theorem m190_354 : smI 190 354 = some (.iaload, 355, 0, 0, 0, 0) := by decide +kernel
theorem m190_355 : smI 190 355 = some (.invokevirtual 35, 358, 20, 133, 2, 0) := by decide +kernel
theorem m190_358 : smI 190 358 = some (.if_icmp .eq 1070, 361, 0, 1428, 0, 0) := by decide +kernel
theorem m190_363 : smI 190 363 = some (.aload_n 1, 364, 0, 0, 0, 0) := by decide +kernel
theorem m190_364 : smI 190 364 = some (.aload_n 0, 365, 0, 0, 0, 0) := by decide +kernel
theorem m190_365 : smI 190 365 = some (.iload_n 3, 366, 0, 0, 0, 0) := by decide +kernel
theorem m190_366 : smI 190 366 = some (.iconst 1, 367, 0, 0, 0, 1) := by decide +kernel
theorem m190_367 : smI 190 367 = some (.iadd, 368, 0, 0, 0, 0) := by decide +kernel
theorem m190_368 : smI 190 368 = some (.iaload, 369, 0, 0, 0, 0) := by decide +kernel
theorem m190_369 : smI 190 369 = some (.aload_n 0, 370, 0, 0, 0, 0) := by decide +kernel
theorem m190_370 : smI 190 370 = some (.iload_n 3, 371, 0, 0, 0, 0) := by decide +kernel
theorem m190_371 : smI 190 371 = some (.iconst 2, 372, 0, 0, 0, 2) := by decide +kernel
theorem m190_372 : smI 190 372 = some (.iadd, 373, 0, 0, 0, 0) := by decide +kernel
theorem m190_373 : smI 190 373 = some (.iaload, 374, 0, 0, 0, 0) := by decide +kernel
theorem m190_374 : smI 190 374 = some (.aload_n 0, 375, 0, 0, 0, 0) := by decide +kernel
theorem m190_375 : smI 190 375 = some (.iload_n 3, 376, 0, 0, 0, 0) := by decide +kernel
theorem m190_376 : smI 190 376 = some (.iconst 3, 377, 0, 0, 0, 3) := by decide +kernel
theorem m190_377 : smI 190 377 = some (.iadd, 378, 0, 0, 0, 0) := by decide +kernel
theorem m190_378 : smI 190 378 = some (.iaload, 379, 0, 0, 0, 0) := by decide +kernel
theorem m190_379 : smI 190 379 = some (.invokevirtual 36, 382, 20, 63, 3, 0) := by decide +kernel
theorem m190_382 : smI 190 382 = some (.aload_n 2, 383, 0, 0, 0, 0) := by decide +kernel
theorem m190_383 : smI 190 383 = some (.aload_n 0, 384, 0, 0, 0, 0) := by decide +kernel
theorem m190_384 : smI 190 384 = some (.iload_n 3, 385, 0, 0, 0, 0) := by decide +kernel
theorem m190_385 : smI 190 385 = some (.iconst 1, 386, 0, 0, 0, 1) := by decide +kernel
theorem m190_386 : smI 190 386 = some (.iadd, 387, 0, 0, 0, 0) := by decide +kernel
theorem m190_387 : smI 190 387 = some (.iaload, 388, 0, 0, 0, 0) := by decide +kernel
theorem m190_388 : smI 190 388 = some (.aload_n 0, 389, 0, 0, 0, 0) := by decide +kernel
theorem m190_389 : smI 190 389 = some (.iload_n 3, 390, 0, 0, 0, 0) := by decide +kernel
theorem m190_390 : smI 190 390 = some (.iconst 2, 391, 0, 0, 0, 2) := by decide +kernel
theorem m190_391 : smI 190 391 = some (.iadd, 392, 0, 0, 0, 0) := by decide +kernel
theorem m190_392 : smI 190 392 = some (.iaload, 393, 0, 0, 0, 0) := by decide +kernel
theorem m190_393 : smI 190 393 = some (.aload_n 0, 394, 0, 0, 0, 0) := by decide +kernel
theorem m190_394 : smI 190 394 = some (.iload_n 3, 395, 0, 0, 0, 0) := by decide +kernel
theorem m190_395 : smI 190 395 = some (.iconst 3, 396, 0, 0, 0, 3) := by decide +kernel
theorem m190_396 : smI 190 396 = some (.iadd, 397, 0, 0, 0, 0) := by decide +kernel
theorem m190_397 : smI 190 397 = some (.iaload, 398, 0, 0, 0, 0) := by decide +kernel
theorem m190_398 : smI 190 398 = some (.invokevirtual 39, 401, 20, 134, 3, 0) := by decide +kernel
theorem m190_401 : smI 190 401 = some (.if_icmp .eq 1027, 404, 0, 1428, 0, 0) := by decide +kernel
theorem m190_406 : smI 190 406 = some (.aload_n 1, 407, 0, 0, 0, 0) := by decide +kernel
theorem m190_407 : smI 190 407 = some (.aload_n 0, 408, 0, 0, 0, 0) := by decide +kernel
theorem m190_408 : smI 190 408 = some (.iload_n 3, 409, 0, 0, 0, 0) := by decide +kernel
theorem m190_409 : smI 190 409 = some (.iconst 1, 410, 0, 0, 0, 1) := by decide +kernel
theorem m190_410 : smI 190 410 = some (.iadd, 411, 0, 0, 0, 0) := by decide +kernel
theorem m190_411 : smI 190 411 = some (.iaload, 412, 0, 0, 0, 0) := by decide +kernel
theorem m190_412 : smI 190 412 = some (.aload_n 0, 413, 0, 0, 0, 0) := by decide +kernel
theorem m190_413 : smI 190 413 = some (.iload_n 3, 414, 0, 0, 0, 0) := by decide +kernel
theorem m190_414 : smI 190 414 = some (.iconst 2, 415, 0, 0, 0, 2) := by decide +kernel
theorem m190_415 : smI 190 415 = some (.iadd, 416, 0, 0, 0, 0) := by decide +kernel
theorem m190_416 : smI 190 416 = some (.iaload, 417, 0, 0, 0, 0) := by decide +kernel
theorem m190_417 : smI 190 417 = some (.invokevirtual 40, 420, 20, 64, 2, 0) := by decide +kernel
theorem m190_420 : smI 190 420 = some (.aload_n 2, 421, 0, 0, 0, 0) := by decide +kernel
theorem m190_421 : smI 190 421 = some (.aload_n 0, 422, 0, 0, 0, 0) := by decide +kernel
theorem m190_422 : smI 190 422 = some (.iload_n 3, 423, 0, 0, 0, 0) := by decide +kernel
theorem m190_423 : smI 190 423 = some (.iconst 1, 424, 0, 0, 0, 1) := by decide +kernel
theorem m190_424 : smI 190 424 = some (.iadd, 425, 0, 0, 0, 0) := by decide +kernel
theorem m190_425 : smI 190 425 = some (.iaload, 426, 0, 0, 0, 0) := by decide +kernel
theorem m190_426 : smI 190 426 = some (.aload_n 0, 427, 0, 0, 0, 0) := by decide +kernel
theorem m190_427 : smI 190 427 = some (.iload_n 3, 428, 0, 0, 0, 0) := by decide +kernel
theorem m190_428 : smI 190 428 = some (.iconst 2, 429, 0, 0, 0, 2) := by decide +kernel
theorem m190_429 : smI 190 429 = some (.iadd, 430, 0, 0, 0, 0) := by decide +kernel
theorem m190_430 : smI 190 430 = some (.iaload, 431, 0, 0, 0, 0) := by decide +kernel
theorem m190_431 : smI 190 431 = some (.invokevirtual 43, 434, 20, 135, 2, 0) := by decide +kernel
theorem m190_434 : smI 190 434 = some (.if_icmp .eq 994, 437, 0, 1428, 0, 0) := by decide +kernel
theorem m190_439 : smI 190 439 = some (.aload_n 1, 440, 0, 0, 0, 0) := by decide +kernel
theorem m190_440 : smI 190 440 = some (.aload_n 0, 441, 0, 0, 0, 0) := by decide +kernel
theorem m190_441 : smI 190 441 = some (.iload_n 3, 442, 0, 0, 0, 0) := by decide +kernel
theorem m190_442 : smI 190 442 = some (.iconst 1, 443, 0, 0, 0, 1) := by decide +kernel
theorem m190_443 : smI 190 443 = some (.iadd, 444, 0, 0, 0, 0) := by decide +kernel
theorem m190_444 : smI 190 444 = some (.iaload, 445, 0, 0, 0, 0) := by decide +kernel
theorem m190_445 : smI 190 445 = some (.aload_n 0, 446, 0, 0, 0, 0) := by decide +kernel
theorem m190_446 : smI 190 446 = some (.iload_n 3, 447, 0, 0, 0, 0) := by decide +kernel
theorem m190_447 : smI 190 447 = some (.iconst 2, 448, 0, 0, 0, 2) := by decide +kernel
theorem m190_448 : smI 190 448 = some (.iadd, 449, 0, 0, 0, 0) := by decide +kernel
theorem m190_449 : smI 190 449 = some (.iaload, 450, 0, 0, 0, 0) := by decide +kernel
theorem m190_450 : smI 190 450 = some (.invokevirtual 44, 453, 20, 66, 2, 0) := by decide +kernel
theorem m190_453 : smI 190 453 = some (.aload_n 2, 454, 0, 0, 0, 0) := by decide +kernel
theorem m190_454 : smI 190 454 = some (.aload_n 0, 455, 0, 0, 0, 0) := by decide +kernel
theorem m190_455 : smI 190 455 = some (.iload_n 3, 456, 0, 0, 0, 0) := by decide +kernel
theorem m190_456 : smI 190 456 = some (.iconst 1, 457, 0, 0, 0, 1) := by decide +kernel
theorem m190_457 : smI 190 457 = some (.iadd, 458, 0, 0, 0, 0) := by decide +kernel
theorem m190_458 : smI 190 458 = some (.iaload, 459, 0, 0, 0, 0) := by decide +kernel
theorem m190_459 : smI 190 459 = some (.aload_n 0, 460, 0, 0, 0, 0) := by decide +kernel
theorem m190_460 : smI 190 460 = some (.iload_n 3, 461, 0, 0, 0, 0) := by decide +kernel
theorem m190_461 : smI 190 461 = some (.iconst 2, 462, 0, 0, 0, 2) := by decide +kernel
theorem m190_462 : smI 190 462 = some (.iadd, 463, 0, 0, 0, 0) := by decide +kernel
theorem m190_463 : smI 190 463 = some (.iaload, 464, 0, 0, 0, 0) := by decide +kernel
theorem m190_464 : smI 190 464 = some (.invokevirtual 47, 467, 20, 137, 2, 0) := by decide +kernel
theorem m190_467 : smI 190 467 = some (.if_icmp .eq 961, 470, 0, 1428, 0, 0) := by decide +kernel
theorem m190_472 : smI 190 472 = some (.aload_n 1, 473, 0, 0, 0, 0) := by decide +kernel
theorem m190_473 : smI 190 473 = some (.aload_n 0, 474, 0, 0, 0, 0) := by decide +kernel
theorem m190_474 : smI 190 474 = some (.iload_n 3, 475, 0, 0, 0, 0) := by decide +kernel
theorem m190_475 : smI 190 475 = some (.iconst 1, 476, 0, 0, 0, 1) := by decide +kernel
theorem m190_476 : smI 190 476 = some (.iadd, 477, 0, 0, 0, 0) := by decide +kernel
theorem m190_477 : smI 190 477 = some (.iaload, 478, 0, 0, 0, 0) := by decide +kernel
theorem m190_478 : smI 190 478 = some (.i2l, 479, 0, 0, 0, 0) := by decide +kernel
theorem m190_479 : smI 190 479 = some (.bipush 32, 481, 0, 0, 0, 32) := by decide +kernel
theorem m190_481 : smI 190 481 = some (.lshl, 482, 0, 0, 0, 0) := by decide +kernel
theorem m190_482 : smI 190 482 = some (.aload_n 0, 483, 0, 0, 0, 0) := by decide +kernel
theorem m190_483 : smI 190 483 = some (.iload_n 3, 484, 0, 0, 0, 0) := by decide +kernel
theorem m190_484 : smI 190 484 = some (.iconst 2, 485, 0, 0, 0, 2) := by decide +kernel
theorem m190_485 : smI 190 485 = some (.iadd, 486, 0, 0, 0, 0) := by decide +kernel
theorem m190_486 : smI 190 486 = some (.iaload, 487, 0, 0, 0, 0) := by decide +kernel
theorem m190_487 : smI 190 487 = some (.i2l, 488, 0, 0, 0, 0) := by decide +kernel
theorem m190_488 : smI 190 488 = some (.ldc2_w 48, 491, 0, 4294967295, 0, 0) := by decide +kernel
theorem m190_491 : smI 190 491 = some (.land, 492, 0, 0, 0, 0) := by decide +kernel
theorem m190_492 : smI 190 492 = some (.lor, 493, 0, 0, 0, 0) := by decide +kernel
theorem m190_493 : smI 190 493 = some (.aload_n 0, 494, 0, 0, 0, 0) := by decide +kernel
theorem m190_494 : smI 190 494 = some (.iload_n 3, 495, 0, 0, 0, 0) := by decide +kernel
theorem m190_495 : smI 190 495 = some (.iconst 3, 496, 0, 0, 0, 3) := by decide +kernel
theorem m190_496 : smI 190 496 = some (.iadd, 497, 0, 0, 0, 0) := by decide +kernel
theorem m190_497 : smI 190 497 = some (.iaload, 498, 0, 0, 0, 0) := by decide +kernel
theorem m190_498 : smI 190 498 = some (.invokevirtual 50, 501, 20, 67, 2, 0) := by decide +kernel
theorem m190_501 : smI 190 501 = some (.aload_n 2, 502, 0, 0, 0, 0) := by decide +kernel
theorem m190_502 : smI 190 502 = some (.aload_n 0, 503, 0, 0, 0, 0) := by decide +kernel
theorem m190_503 : smI 190 503 = some (.iload_n 3, 504, 0, 0, 0, 0) := by decide +kernel
theorem m190_504 : smI 190 504 = some (.iconst 1, 505, 0, 0, 0, 1) := by decide +kernel
theorem m190_505 : smI 190 505 = some (.iadd, 506, 0, 0, 0, 0) := by decide +kernel
theorem m190_506 : smI 190 506 = some (.iaload, 507, 0, 0, 0, 0) := by decide +kernel
theorem m190_507 : smI 190 507 = some (.i2l, 508, 0, 0, 0, 0) := by decide +kernel
theorem m190_508 : smI 190 508 = some (.bipush 32, 510, 0, 0, 0, 32) := by decide +kernel
theorem m190_510 : smI 190 510 = some (.lshl, 511, 0, 0, 0, 0) := by decide +kernel
theorem m190_511 : smI 190 511 = some (.aload_n 0, 512, 0, 0, 0, 0) := by decide +kernel
theorem m190_512 : smI 190 512 = some (.iload_n 3, 513, 0, 0, 0, 0) := by decide +kernel
theorem m190_513 : smI 190 513 = some (.iconst 2, 514, 0, 0, 0, 2) := by decide +kernel
theorem m190_514 : smI 190 514 = some (.iadd, 515, 0, 0, 0, 0) := by decide +kernel
theorem m190_515 : smI 190 515 = some (.iaload, 516, 0, 0, 0, 0) := by decide +kernel
theorem m190_516 : smI 190 516 = some (.i2l, 517, 0, 0, 0, 0) := by decide +kernel
theorem m190_517 : smI 190 517 = some (.ldc2_w 48, 520, 0, 4294967295, 0, 0) := by decide +kernel
theorem m190_520 : smI 190 520 = some (.land, 521, 0, 0, 0, 0) := by decide +kernel
theorem m190_521 : smI 190 521 = some (.lor, 522, 0, 0, 0, 0) := by decide +kernel
theorem m190_522 : smI 190 522 = some (.aload_n 0, 523, 0, 0, 0, 0) := by decide +kernel
theorem m190_523 : smI 190 523 = some (.iload_n 3, 524, 0, 0, 0, 0) := by decide +kernel
theorem m190_524 : smI 190 524 = some (.iconst 3, 525, 0, 0, 0, 3) := by decide +kernel
theorem m190_525 : smI 190 525 = some (.iadd, 526, 0, 0, 0, 0) := by decide +kernel
theorem m190_526 : smI 190 526 = some (.iaload, 527, 0, 0, 0, 0) := by decide +kernel
theorem m190_527 : smI 190 527 = some (.invokevirtual 54, 530, 20, 139, 2, 0) := by decide +kernel
theorem m190_530 : smI 190 530 = some (.if_icmp .eq 898, 533, 0, 1428, 0, 0) := by decide +kernel
theorem m190_535 : smI 190 535 = some (.aload_n 1, 536, 0, 0, 0, 0) := by decide +kernel
theorem m190_536 : smI 190 536 = some (.aload_n 0, 537, 0, 0, 0, 0) := by decide +kernel
theorem m190_537 : smI 190 537 = some (.iload_n 3, 538, 0, 0, 0, 0) := by decide +kernel
theorem m190_538 : smI 190 538 = some (.iconst 1, 539, 0, 0, 0, 1) := by decide +kernel
theorem m190_539 : smI 190 539 = some (.iadd, 540, 0, 0, 0, 0) := by decide +kernel
theorem m190_540 : smI 190 540 = some (.iaload, 541, 0, 0, 0, 0) := by decide +kernel
theorem m190_541 : smI 190 541 = some (.invokevirtual 55, 544, 20, 68, 1, 0) := by decide +kernel
theorem m190_544 : smI 190 544 = some (.aload_n 2, 545, 0, 0, 0, 0) := by decide +kernel
theorem m190_545 : smI 190 545 = some (.aload_n 0, 546, 0, 0, 0, 0) := by decide +kernel
theorem m190_546 : smI 190 546 = some (.iload_n 3, 547, 0, 0, 0, 0) := by decide +kernel
theorem m190_547 : smI 190 547 = some (.iconst 1, 548, 0, 0, 0, 1) := by decide +kernel
theorem m190_548 : smI 190 548 = some (.iadd, 549, 0, 0, 0, 0) := by decide +kernel
theorem m190_549 : smI 190 549 = some (.iaload, 550, 0, 0, 0, 0) := by decide +kernel
theorem m190_550 : smI 190 550 = some (.invokevirtual 58, 553, 20, 140, 1, 0) := by decide +kernel
theorem m190_553 : smI 190 553 = some (.if_icmp .eq 875, 556, 0, 1428, 0, 0) := by decide +kernel
theorem m190_558 : smI 190 558 = some (.aload_n 1, 559, 0, 0, 0, 0) := by decide +kernel
theorem m190_559 : smI 190 559 = some (.aload_n 0, 560, 0, 0, 0, 0) := by decide +kernel
theorem m190_560 : smI 190 560 = some (.iload_n 3, 561, 0, 0, 0, 0) := by decide +kernel
theorem m190_561 : smI 190 561 = some (.iconst 1, 562, 0, 0, 0, 1) := by decide +kernel
theorem m190_562 : smI 190 562 = some (.iadd, 563, 0, 0, 0, 0) := by decide +kernel
theorem m190_563 : smI 190 563 = some (.iaload, 564, 0, 0, 0, 0) := by decide +kernel
theorem m190_564 : smI 190 564 = some (.aload_n 0, 565, 0, 0, 0, 0) := by decide +kernel
theorem m190_565 : smI 190 565 = some (.iload_n 3, 566, 0, 0, 0, 0) := by decide +kernel
theorem m190_566 : smI 190 566 = some (.iconst 2, 567, 0, 0, 0, 2) := by decide +kernel
theorem m190_567 : smI 190 567 = some (.iadd, 568, 0, 0, 0, 0) := by decide +kernel
theorem m190_568 : smI 190 568 = some (.iaload, 569, 0, 0, 0, 0) := by decide +kernel
theorem m190_569 : smI 190 569 = some (.aload_n 0, 570, 0, 0, 0, 0) := by decide +kernel
theorem m190_570 : smI 190 570 = some (.iload_n 3, 571, 0, 0, 0, 0) := by decide +kernel
theorem m190_571 : smI 190 571 = some (.iconst 3, 572, 0, 0, 0, 3) := by decide +kernel
theorem m190_572 : smI 190 572 = some (.iadd, 573, 0, 0, 0, 0) := by decide +kernel
theorem m190_573 : smI 190 573 = some (.iaload, 574, 0, 0, 0, 0) := by decide +kernel
theorem m190_574 : smI 190 574 = some (.aload_n 0, 575, 0, 0, 0, 0) := by decide +kernel
theorem m190_575 : smI 190 575 = some (.iload_n 3, 576, 0, 0, 0, 0) := by decide +kernel
theorem m190_576 : smI 190 576 = some (.iconst 4, 577, 0, 0, 0, 4) := by decide +kernel
theorem m190_577 : smI 190 577 = some (.iadd, 578, 0, 0, 0, 0) := by decide +kernel
theorem m190_578 : smI 190 578 = some (.iaload, 579, 0, 0, 0, 0) := by decide +kernel
theorem m190_579 : smI 190 579 = some (.invokevirtual 59, 582, 20, 69, 4, 0) := by decide +kernel
theorem m190_582 : smI 190 582 = some (.aload_n 2, 583, 0, 0, 0, 0) := by decide +kernel
theorem m190_583 : smI 190 583 = some (.aload_n 0, 584, 0, 0, 0, 0) := by decide +kernel
theorem m190_584 : smI 190 584 = some (.iload_n 3, 585, 0, 0, 0, 0) := by decide +kernel
theorem m190_585 : smI 190 585 = some (.iconst 1, 586, 0, 0, 0, 1) := by decide +kernel
theorem m190_586 : smI 190 586 = some (.iadd, 587, 0, 0, 0, 0) := by decide +kernel
theorem m190_587 : smI 190 587 = some (.iaload, 588, 0, 0, 0, 0) := by decide +kernel
theorem m190_588 : smI 190 588 = some (.aload_n 0, 589, 0, 0, 0, 0) := by decide +kernel
theorem m190_589 : smI 190 589 = some (.iload_n 3, 590, 0, 0, 0, 0) := by decide +kernel
theorem m190_590 : smI 190 590 = some (.iconst 2, 591, 0, 0, 0, 2) := by decide +kernel
theorem m190_591 : smI 190 591 = some (.iadd, 592, 0, 0, 0, 0) := by decide +kernel
theorem m190_592 : smI 190 592 = some (.iaload, 593, 0, 0, 0, 0) := by decide +kernel
theorem m190_593 : smI 190 593 = some (.aload_n 0, 594, 0, 0, 0, 0) := by decide +kernel
theorem m190_594 : smI 190 594 = some (.iload_n 3, 595, 0, 0, 0, 0) := by decide +kernel
theorem m190_595 : smI 190 595 = some (.iconst 3, 596, 0, 0, 0, 3) := by decide +kernel
theorem m190_596 : smI 190 596 = some (.iadd, 597, 0, 0, 0, 0) := by decide +kernel
theorem m190_597 : smI 190 597 = some (.iaload, 598, 0, 0, 0, 0) := by decide +kernel
theorem m190_598 : smI 190 598 = some (.aload_n 0, 599, 0, 0, 0, 0) := by decide +kernel
theorem m190_599 : smI 190 599 = some (.iload_n 3, 600, 0, 0, 0, 0) := by decide +kernel
theorem m190_600 : smI 190 600 = some (.iconst 4, 601, 0, 0, 0, 4) := by decide +kernel
theorem m190_601 : smI 190 601 = some (.iadd, 602, 0, 0, 0, 0) := by decide +kernel
theorem m190_602 : smI 190 602 = some (.iaload, 603, 0, 0, 0, 0) := by decide +kernel
theorem m190_603 : smI 190 603 = some (.invokevirtual 63, 606, 20, 138, 4, 0) := by decide +kernel
theorem m190_606 : smI 190 606 = some (.if_icmp .eq 822, 609, 0, 1428, 0, 0) := by decide +kernel
theorem m190_611 : smI 190 611 = some (.aload_n 1, 612, 0, 0, 0, 0) := by decide +kernel
theorem m190_612 : smI 190 612 = some (.aload_n 0, 613, 0, 0, 0, 0) := by decide +kernel
theorem m190_613 : smI 190 613 = some (.iload_n 3, 614, 0, 0, 0, 0) := by decide +kernel
theorem m190_614 : smI 190 614 = some (.iconst 1, 615, 0, 0, 0, 1) := by decide +kernel
theorem m190_615 : smI 190 615 = some (.iadd, 616, 0, 0, 0, 0) := by decide +kernel
theorem m190_616 : smI 190 616 = some (.iaload, 617, 0, 0, 0, 0) := by decide +kernel
theorem m190_617 : smI 190 617 = some (.invokevirtual 64, 620, 20, 70, 1, 0) := by decide +kernel
theorem m190_620 : smI 190 620 = some (.aload_n 2, 621, 0, 0, 0, 0) := by decide +kernel
theorem m190_621 : smI 190 621 = some (.aload_n 0, 622, 0, 0, 0, 0) := by decide +kernel
theorem m190_622 : smI 190 622 = some (.iload_n 3, 623, 0, 0, 0, 0) := by decide +kernel
theorem m190_623 : smI 190 623 = some (.iconst 1, 624, 0, 0, 0, 1) := by decide +kernel
theorem m190_624 : smI 190 624 = some (.iadd, 625, 0, 0, 0, 0) := by decide +kernel
theorem m190_625 : smI 190 625 = some (.iaload, 626, 0, 0, 0, 0) := by decide +kernel
theorem m190_626 : smI 190 626 = some (.invokevirtual 67, 629, 20, 148, 1, 0) := by decide +kernel
theorem m190_629 : smI 190 629 = some (.if_icmp .eq 799, 632, 0, 1428, 0, 0) := by decide +kernel
theorem m190_634 : smI 190 634 = some (.aload_n 1, 635, 0, 0, 0, 0) := by decide +kernel
theorem m190_635 : smI 190 635 = some (.aload_n 0, 636, 0, 0, 0, 0) := by decide +kernel
theorem m190_636 : smI 190 636 = some (.iload_n 3, 637, 0, 0, 0, 0) := by decide +kernel
theorem m190_637 : smI 190 637 = some (.iconst 1, 638, 0, 0, 0, 1) := by decide +kernel
theorem m190_638 : smI 190 638 = some (.iadd, 639, 0, 0, 0, 0) := by decide +kernel
theorem m190_639 : smI 190 639 = some (.iaload, 640, 0, 0, 0, 0) := by decide +kernel
theorem m190_640 : smI 190 640 = some (.invokevirtual 68, 643, 20, 72, 1, 0) := by decide +kernel
theorem m190_643 : smI 190 643 = some (.aload_n 2, 644, 0, 0, 0, 0) := by decide +kernel
theorem m190_644 : smI 190 644 = some (.aload_n 0, 645, 0, 0, 0, 0) := by decide +kernel
theorem m190_645 : smI 190 645 = some (.iload_n 3, 646, 0, 0, 0, 0) := by decide +kernel
theorem m190_646 : smI 190 646 = some (.iconst 1, 647, 0, 0, 0, 1) := by decide +kernel
theorem m190_647 : smI 190 647 = some (.iadd, 648, 0, 0, 0, 0) := by decide +kernel
theorem m190_648 : smI 190 648 = some (.iaload, 649, 0, 0, 0, 0) := by decide +kernel
theorem m190_649 : smI 190 649 = some (.invokevirtual 71, 652, 20, 150, 1, 0) := by decide +kernel
theorem m190_652 : smI 190 652 = some (.if_icmp .eq 776, 655, 0, 1428, 0, 0) := by decide +kernel
theorem m190_657 : smI 190 657 = some (.aload_n 1, 658, 0, 0, 0, 0) := by decide +kernel
theorem m190_658 : smI 190 658 = some (.invokevirtual 72, 661, 20, 73, 0, 0) := by decide +kernel
theorem m190_661 : smI 190 661 = some (.aload_n 2, 662, 0, 0, 0, 0) := by decide +kernel
theorem m190_662 : smI 190 662 = some (.invokevirtual 76, 665, 20, 151, 0, 0) := by decide +kernel
theorem m190_665 : smI 190 665 = some (.if_icmp .eq 763, 668, 0, 1428, 0, 0) := by decide +kernel
theorem m190_670 : smI 190 670 = some (.aload_n 1, 671, 0, 0, 0, 0) := by decide +kernel
theorem m190_671 : smI 190 671 = some (.aload_n 0, 672, 0, 0, 0, 0) := by decide +kernel
theorem m190_672 : smI 190 672 = some (.iload_n 3, 673, 0, 0, 0, 0) := by decide +kernel
theorem m190_673 : smI 190 673 = some (.iconst 1, 674, 0, 0, 0, 1) := by decide +kernel
theorem m190_674 : smI 190 674 = some (.iadd, 675, 0, 0, 0, 0) := by decide +kernel
theorem m190_675 : smI 190 675 = some (.iaload, 676, 0, 0, 0, 0) := by decide +kernel
theorem m190_676 : smI 190 676 = some (.aload_n 0, 677, 0, 0, 0, 0) := by decide +kernel
theorem m190_677 : smI 190 677 = some (.iload_n 3, 678, 0, 0, 0, 0) := by decide +kernel
theorem m190_678 : smI 190 678 = some (.iconst 2, 679, 0, 0, 0, 2) := by decide +kernel
theorem m190_679 : smI 190 679 = some (.iadd, 680, 0, 0, 0, 0) := by decide +kernel
theorem m190_680 : smI 190 680 = some (.iaload, 681, 0, 0, 0, 0) := by decide +kernel
theorem m190_681 : smI 190 681 = some (.aload_n 0, 682, 0, 0, 0, 0) := by decide +kernel
theorem m190_682 : smI 190 682 = some (.iload_n 3, 683, 0, 0, 0, 0) := by decide +kernel
theorem m190_683 : smI 190 683 = some (.iconst 3, 684, 0, 0, 0, 3) := by decide +kernel
theorem m190_684 : smI 190 684 = some (.iadd, 685, 0, 0, 0, 0) := by decide +kernel
theorem m190_685 : smI 190 685 = some (.iaload, 686, 0, 0, 0, 0) := by decide +kernel
theorem m190_686 : smI 190 686 = some (.invokevirtual 77, 689, 20, 75, 3, 0) := by decide +kernel
theorem m190_689 : smI 190 689 = some (.aload_n 2, 690, 0, 0, 0, 0) := by decide +kernel
theorem m190_690 : smI 190 690 = some (.aload_n 0, 691, 0, 0, 0, 0) := by decide +kernel
theorem m190_691 : smI 190 691 = some (.iload_n 3, 692, 0, 0, 0, 0) := by decide +kernel
theorem m190_692 : smI 190 692 = some (.iconst 1, 693, 0, 0, 0, 1) := by decide +kernel
theorem m190_693 : smI 190 693 = some (.iadd, 694, 0, 0, 0, 0) := by decide +kernel
theorem m190_694 : smI 190 694 = some (.iaload, 695, 0, 0, 0, 0) := by decide +kernel
theorem m190_695 : smI 190 695 = some (.aload_n 0, 696, 0, 0, 0, 0) := by decide +kernel
theorem m190_696 : smI 190 696 = some (.iload_n 3, 697, 0, 0, 0, 0) := by decide +kernel
theorem m190_697 : smI 190 697 = some (.iconst 2, 698, 0, 0, 0, 2) := by decide +kernel
theorem m190_698 : smI 190 698 = some (.iadd, 699, 0, 0, 0, 0) := by decide +kernel
theorem m190_699 : smI 190 699 = some (.iaload, 700, 0, 0, 0, 0) := by decide +kernel
theorem m190_700 : smI 190 700 = some (.aload_n 0, 701, 0, 0, 0, 0) := by decide +kernel
theorem m190_701 : smI 190 701 = some (.iload_n 3, 702, 0, 0, 0, 0) := by decide +kernel
theorem m190_702 : smI 190 702 = some (.iconst 3, 703, 0, 0, 0, 3) := by decide +kernel
theorem m190_703 : smI 190 703 = some (.iadd, 704, 0, 0, 0, 0) := by decide +kernel
theorem m190_704 : smI 190 704 = some (.iaload, 705, 0, 0, 0, 0) := by decide +kernel
theorem m190_705 : smI 190 705 = some (.invokevirtual 80, 708, 20, 152, 3, 0) := by decide +kernel
theorem m190_708 : smI 190 708 = some (.if_icmp .eq 720, 711, 0, 1428, 0, 0) := by decide +kernel
theorem m190_713 : smI 190 713 = some (.aload_n 1, 714, 0, 0, 0, 0) := by decide +kernel
theorem m190_714 : smI 190 714 = some (.aload_n 0, 715, 0, 0, 0, 0) := by decide +kernel
theorem m190_715 : smI 190 715 = some (.iload_n 3, 716, 0, 0, 0, 0) := by decide +kernel
theorem m190_716 : smI 190 716 = some (.iconst 1, 717, 0, 0, 0, 1) := by decide +kernel
theorem m190_717 : smI 190 717 = some (.iadd, 718, 0, 0, 0, 0) := by decide +kernel
theorem m190_718 : smI 190 718 = some (.iaload, 719, 0, 0, 0, 0) := by decide +kernel
theorem m190_719 : smI 190 719 = some (.invokevirtual 81, 722, 20, 76, 1, 0) := by decide +kernel
theorem m190_722 : smI 190 722 = some (.aload_n 2, 723, 0, 0, 0, 0) := by decide +kernel
theorem m190_723 : smI 190 723 = some (.aload_n 0, 724, 0, 0, 0, 0) := by decide +kernel
theorem m190_724 : smI 190 724 = some (.iload_n 3, 725, 0, 0, 0, 0) := by decide +kernel
theorem m190_725 : smI 190 725 = some (.iconst 1, 726, 0, 0, 0, 1) := by decide +kernel
theorem m190_726 : smI 190 726 = some (.iadd, 727, 0, 0, 0, 0) := by decide +kernel
theorem m190_727 : smI 190 727 = some (.iaload, 728, 0, 0, 0, 0) := by decide +kernel
theorem m190_728 : smI 190 728 = some (.invokevirtual 84, 731, 20, 153, 1, 0) := by decide +kernel
theorem m190_731 : smI 190 731 = some (.if_icmp .eq 697, 734, 0, 1428, 0, 0) := by decide +kernel
theorem m190_736 : smI 190 736 = some (.aload_n 1, 737, 0, 0, 0, 0) := by decide +kernel
theorem m190_737 : smI 190 737 = some (.invokevirtual 85, 740, 20, 77, 0, 0) := by decide +kernel
theorem m190_740 : smI 190 740 = some (.aload_n 2, 741, 0, 0, 0, 0) := by decide +kernel
theorem m190_741 : smI 190 741 = some (.invokevirtual 88, 744, 20, 156, 0, 0) := by decide +kernel
theorem m190_744 : smI 190 744 = some (.if_icmp .eq 684, 747, 0, 1428, 0, 0) := by decide +kernel
theorem m190_749 : smI 190 749 = some (.aload_n 1, 750, 0, 0, 0, 0) := by decide +kernel
theorem m190_750 : smI 190 750 = some (.aload_n 0, 751, 0, 0, 0, 0) := by decide +kernel
theorem m190_751 : smI 190 751 = some (.iload_n 3, 752, 0, 0, 0, 0) := by decide +kernel
theorem m190_752 : smI 190 752 = some (.iconst 1, 753, 0, 0, 0, 1) := by decide +kernel
theorem m190_753 : smI 190 753 = some (.iadd, 754, 0, 0, 0, 0) := by decide +kernel
theorem m190_754 : smI 190 754 = some (.iaload, 755, 0, 0, 0, 0) := by decide +kernel
theorem m190_755 : smI 190 755 = some (.aload_n 0, 756, 0, 0, 0, 0) := by decide +kernel
theorem m190_756 : smI 190 756 = some (.iload_n 3, 757, 0, 0, 0, 0) := by decide +kernel
theorem m190_757 : smI 190 757 = some (.iconst 2, 758, 0, 0, 0, 2) := by decide +kernel
theorem m190_758 : smI 190 758 = some (.iadd, 759, 0, 0, 0, 0) := by decide +kernel
theorem m190_759 : smI 190 759 = some (.iaload, 760, 0, 0, 0, 0) := by decide +kernel
theorem m190_760 : smI 190 760 = some (.invokevirtual 89, 763, 20, 78, 2, 0) := by decide +kernel
theorem m190_763 : smI 190 763 = some (.aload_n 2, 764, 0, 0, 0, 0) := by decide +kernel
theorem m190_764 : smI 190 764 = some (.aload_n 0, 765, 0, 0, 0, 0) := by decide +kernel
theorem m190_765 : smI 190 765 = some (.iload_n 3, 766, 0, 0, 0, 0) := by decide +kernel
theorem m190_766 : smI 190 766 = some (.iconst 1, 767, 0, 0, 0, 1) := by decide +kernel
theorem m190_767 : smI 190 767 = some (.iadd, 768, 0, 0, 0, 0) := by decide +kernel
theorem m190_768 : smI 190 768 = some (.iaload, 769, 0, 0, 0, 0) := by decide +kernel
theorem m190_769 : smI 190 769 = some (.aload_n 0, 770, 0, 0, 0, 0) := by decide +kernel
theorem m190_770 : smI 190 770 = some (.iload_n 3, 771, 0, 0, 0, 0) := by decide +kernel
theorem m190_771 : smI 190 771 = some (.iconst 2, 772, 0, 0, 0, 2) := by decide +kernel
theorem m190_772 : smI 190 772 = some (.iadd, 773, 0, 0, 0, 0) := by decide +kernel
theorem m190_773 : smI 190 773 = some (.iaload, 774, 0, 0, 0, 0) := by decide +kernel
theorem m190_774 : smI 190 774 = some (.invokevirtual 92, 777, 20, 158, 2, 0) := by decide +kernel
theorem m190_777 : smI 190 777 = some (.if_icmp .eq 651, 780, 0, 1428, 0, 0) := by decide +kernel
theorem m190_782 : smI 190 782 = some (.aload_n 1, 783, 0, 0, 0, 0) := by decide +kernel
theorem m190_783 : smI 190 783 = some (.aload_n 0, 784, 0, 0, 0, 0) := by decide +kernel
theorem m190_784 : smI 190 784 = some (.iload_n 3, 785, 0, 0, 0, 0) := by decide +kernel
theorem m190_785 : smI 190 785 = some (.iconst 1, 786, 0, 0, 0, 1) := by decide +kernel
theorem m190_786 : smI 190 786 = some (.iadd, 787, 0, 0, 0, 0) := by decide +kernel
theorem m190_787 : smI 190 787 = some (.iaload, 788, 0, 0, 0, 0) := by decide +kernel
theorem m190_788 : smI 190 788 = some (.aload_n 0, 789, 0, 0, 0, 0) := by decide +kernel
theorem m190_789 : smI 190 789 = some (.iload_n 3, 790, 0, 0, 0, 0) := by decide +kernel
theorem m190_790 : smI 190 790 = some (.iconst 2, 791, 0, 0, 0, 2) := by decide +kernel
theorem m190_791 : smI 190 791 = some (.iadd, 792, 0, 0, 0, 0) := by decide +kernel
theorem m190_792 : smI 190 792 = some (.iaload, 793, 0, 0, 0, 0) := by decide +kernel
theorem m190_793 : smI 190 793 = some (.invokevirtual 93, 796, 20, 80, 2, 0) := by decide +kernel
theorem m190_796 : smI 190 796 = some (.aload_n 2, 797, 0, 0, 0, 0) := by decide +kernel
theorem m190_797 : smI 190 797 = some (.aload_n 0, 798, 0, 0, 0, 0) := by decide +kernel
theorem m190_798 : smI 190 798 = some (.iload_n 3, 799, 0, 0, 0, 0) := by decide +kernel
theorem m190_799 : smI 190 799 = some (.iconst 1, 800, 0, 0, 0, 1) := by decide +kernel
theorem m190_800 : smI 190 800 = some (.iadd, 801, 0, 0, 0, 0) := by decide +kernel
theorem m190_801 : smI 190 801 = some (.iaload, 802, 0, 0, 0, 0) := by decide +kernel
theorem m190_802 : smI 190 802 = some (.aload_n 0, 803, 0, 0, 0, 0) := by decide +kernel
theorem m190_803 : smI 190 803 = some (.iload_n 3, 804, 0, 0, 0, 0) := by decide +kernel
theorem m190_804 : smI 190 804 = some (.iconst 2, 805, 0, 0, 0, 2) := by decide +kernel
theorem m190_805 : smI 190 805 = some (.iadd, 806, 0, 0, 0, 0) := by decide +kernel
theorem m190_806 : smI 190 806 = some (.iaload, 807, 0, 0, 0, 0) := by decide +kernel
theorem m190_807 : smI 190 807 = some (.invokevirtual 96, 810, 20, 159, 2, 0) := by decide +kernel
theorem m190_810 : smI 190 810 = some (.if_icmp .eq 618, 813, 0, 1428, 0, 0) := by decide +kernel
theorem m190_815 : smI 190 815 = some (.aload_n 1, 816, 0, 0, 0, 0) := by decide +kernel
theorem m190_816 : smI 190 816 = some (.aload_n 0, 817, 0, 0, 0, 0) := by decide +kernel
theorem m190_817 : smI 190 817 = some (.iload_n 3, 818, 0, 0, 0, 0) := by decide +kernel
theorem m190_818 : smI 190 818 = some (.iconst 1, 819, 0, 0, 0, 1) := by decide +kernel
theorem m190_819 : smI 190 819 = some (.iadd, 820, 0, 0, 0, 0) := by decide +kernel
theorem m190_820 : smI 190 820 = some (.iaload, 821, 0, 0, 0, 0) := by decide +kernel
theorem m190_821 : smI 190 821 = some (.aload_n 0, 822, 0, 0, 0, 0) := by decide +kernel
theorem m190_822 : smI 190 822 = some (.iload_n 3, 823, 0, 0, 0, 0) := by decide +kernel
theorem m190_823 : smI 190 823 = some (.iconst 2, 824, 0, 0, 0, 2) := by decide +kernel
theorem m190_824 : smI 190 824 = some (.iadd, 825, 0, 0, 0, 0) := by decide +kernel
theorem m190_825 : smI 190 825 = some (.iaload, 826, 0, 0, 0, 0) := by decide +kernel
theorem m190_826 : smI 190 826 = some (.invokevirtual 97, 829, 20, 82, 2, 0) := by decide +kernel
theorem m190_829 : smI 190 829 = some (.aload_n 2, 830, 0, 0, 0, 0) := by decide +kernel
theorem m190_830 : smI 190 830 = some (.aload_n 0, 831, 0, 0, 0, 0) := by decide +kernel
theorem m190_831 : smI 190 831 = some (.iload_n 3, 832, 0, 0, 0, 0) := by decide +kernel
theorem m190_832 : smI 190 832 = some (.iconst 1, 833, 0, 0, 0, 1) := by decide +kernel
theorem m190_833 : smI 190 833 = some (.iadd, 834, 0, 0, 0, 0) := by decide +kernel
theorem m190_834 : smI 190 834 = some (.iaload, 835, 0, 0, 0, 0) := by decide +kernel
theorem m190_835 : smI 190 835 = some (.aload_n 0, 836, 0, 0, 0, 0) := by decide +kernel
theorem m190_836 : smI 190 836 = some (.iload_n 3, 837, 0, 0, 0, 0) := by decide +kernel
theorem m190_837 : smI 190 837 = some (.iconst 2, 838, 0, 0, 0, 2) := by decide +kernel
theorem m190_838 : smI 190 838 = some (.iadd, 839, 0, 0, 0, 0) := by decide +kernel
theorem m190_839 : smI 190 839 = some (.iaload, 840, 0, 0, 0, 0) := by decide +kernel
theorem m190_840 : smI 190 840 = some (.invokevirtual 100, 843, 20, 162, 2, 0) := by decide +kernel
theorem m190_843 : smI 190 843 = some (.if_icmp .eq 585, 846, 0, 1428, 0, 0) := by decide +kernel
theorem m190_848 : smI 190 848 = some (.aload_n 1, 849, 0, 0, 0, 0) := by decide +kernel
theorem m190_849 : smI 190 849 = some (.aload_n 0, 850, 0, 0, 0, 0) := by decide +kernel
theorem m190_850 : smI 190 850 = some (.iload_n 3, 851, 0, 0, 0, 0) := by decide +kernel
theorem m190_851 : smI 190 851 = some (.iconst 1, 852, 0, 0, 0, 1) := by decide +kernel
theorem m190_852 : smI 190 852 = some (.iadd, 853, 0, 0, 0, 0) := by decide +kernel
theorem m190_853 : smI 190 853 = some (.iaload, 854, 0, 0, 0, 0) := by decide +kernel
theorem m190_854 : smI 190 854 = some (.invokevirtual 101, 857, 20, 83, 1, 0) := by decide +kernel
theorem m190_857 : smI 190 857 = some (.aload_n 2, 858, 0, 0, 0, 0) := by decide +kernel
theorem m190_858 : smI 190 858 = some (.aload_n 0, 859, 0, 0, 0, 0) := by decide +kernel
theorem m190_859 : smI 190 859 = some (.iload_n 3, 860, 0, 0, 0, 0) := by decide +kernel
theorem m190_860 : smI 190 860 = some (.iconst 1, 861, 0, 0, 0, 1) := by decide +kernel
theorem m190_861 : smI 190 861 = some (.iadd, 862, 0, 0, 0, 0) := by decide +kernel
theorem m190_862 : smI 190 862 = some (.iaload, 863, 0, 0, 0, 0) := by decide +kernel
theorem m190_863 : smI 190 863 = some (.invokevirtual 104, 866, 20, 163, 1, 0) := by decide +kernel
theorem m190_866 : smI 190 866 = some (.if_icmp .eq 562, 869, 0, 1428, 0, 0) := by decide +kernel
theorem m190_871 : smI 190 871 = some (.aload_n 1, 872, 0, 0, 0, 0) := by decide +kernel
theorem m190_872 : smI 190 872 = some (.aload_n 0, 873, 0, 0, 0, 0) := by decide +kernel
theorem m190_873 : smI 190 873 = some (.iload_n 3, 874, 0, 0, 0, 0) := by decide +kernel
theorem m190_874 : smI 190 874 = some (.iconst 1, 875, 0, 0, 0, 1) := by decide +kernel
theorem m190_875 : smI 190 875 = some (.iadd, 876, 0, 0, 0, 0) := by decide +kernel
theorem m190_876 : smI 190 876 = some (.iaload, 877, 0, 0, 0, 0) := by decide +kernel
theorem m190_877 : smI 190 877 = some (.aload_n 0, 878, 0, 0, 0, 0) := by decide +kernel
theorem m190_878 : smI 190 878 = some (.iload_n 3, 879, 0, 0, 0, 0) := by decide +kernel
theorem m190_879 : smI 190 879 = some (.iconst 2, 880, 0, 0, 0, 2) := by decide +kernel
theorem m190_880 : smI 190 880 = some (.iadd, 881, 0, 0, 0, 0) := by decide +kernel
theorem m190_881 : smI 190 881 = some (.iaload, 882, 0, 0, 0, 0) := by decide +kernel
theorem m190_882 : smI 190 882 = some (.invokevirtual 105, 885, 20, 84, 2, 0) := by decide +kernel
theorem m190_885 : smI 190 885 = some (.aload_n 2, 886, 0, 0, 0, 0) := by decide +kernel
theorem m190_886 : smI 190 886 = some (.aload_n 0, 887, 0, 0, 0, 0) := by decide +kernel
theorem m190_887 : smI 190 887 = some (.iload_n 3, 888, 0, 0, 0, 0) := by decide +kernel
theorem m190_888 : smI 190 888 = some (.iconst 1, 889, 0, 0, 0, 1) := by decide +kernel
theorem m190_889 : smI 190 889 = some (.iadd, 890, 0, 0, 0, 0) := by decide +kernel
theorem m190_890 : smI 190 890 = some (.iaload, 891, 0, 0, 0, 0) := by decide +kernel
theorem m190_891 : smI 190 891 = some (.aload_n 0, 892, 0, 0, 0, 0) := by decide +kernel
theorem m190_892 : smI 190 892 = some (.iload_n 3, 893, 0, 0, 0, 0) := by decide +kernel
theorem m190_893 : smI 190 893 = some (.iconst 2, 894, 0, 0, 0, 2) := by decide +kernel
theorem m190_894 : smI 190 894 = some (.iadd, 895, 0, 0, 0, 0) := by decide +kernel
theorem m190_895 : smI 190 895 = some (.iaload, 896, 0, 0, 0, 0) := by decide +kernel
theorem m190_896 : smI 190 896 = some (.invokevirtual 108, 899, 20, 164, 2, 0) := by decide +kernel
theorem m190_899 : smI 190 899 = some (.if_icmp .eq 529, 902, 0, 1428, 0, 0) := by decide +kernel
theorem m190_904 : smI 190 904 = some (.aload_n 1, 905, 0, 0, 0, 0) := by decide +kernel
theorem m190_905 : smI 190 905 = some (.aload_n 0, 906, 0, 0, 0, 0) := by decide +kernel
theorem m190_906 : smI 190 906 = some (.iload_n 3, 907, 0, 0, 0, 0) := by decide +kernel
theorem m190_907 : smI 190 907 = some (.iconst 1, 908, 0, 0, 0, 1) := by decide +kernel
theorem m190_908 : smI 190 908 = some (.iadd, 909, 0, 0, 0, 0) := by decide +kernel
theorem m190_909 : smI 190 909 = some (.iaload, 910, 0, 0, 0, 0) := by decide +kernel
theorem m190_910 : smI 190 910 = some (.aload_n 0, 911, 0, 0, 0, 0) := by decide +kernel
theorem m190_911 : smI 190 911 = some (.iload_n 3, 912, 0, 0, 0, 0) := by decide +kernel
theorem m190_912 : smI 190 912 = some (.iconst 2, 913, 0, 0, 0, 2) := by decide +kernel
theorem m190_913 : smI 190 913 = some (.iadd, 914, 0, 0, 0, 0) := by decide +kernel
theorem m190_914 : smI 190 914 = some (.iaload, 915, 0, 0, 0, 0) := by decide +kernel
theorem m190_915 : smI 190 915 = some (.invokevirtual 109, 918, 20, 85, 2, 0) := by decide +kernel
theorem m190_918 : smI 190 918 = some (.aload_n 2, 919, 0, 0, 0, 0) := by decide +kernel
theorem m190_919 : smI 190 919 = some (.aload_n 0, 920, 0, 0, 0, 0) := by decide +kernel
theorem m190_920 : smI 190 920 = some (.iload_n 3, 921, 0, 0, 0, 0) := by decide +kernel
theorem m190_921 : smI 190 921 = some (.iconst 1, 922, 0, 0, 0, 1) := by decide +kernel
theorem m190_922 : smI 190 922 = some (.iadd, 923, 0, 0, 0, 0) := by decide +kernel
theorem m190_923 : smI 190 923 = some (.iaload, 924, 0, 0, 0, 0) := by decide +kernel
theorem m190_924 : smI 190 924 = some (.aload_n 0, 925, 0, 0, 0, 0) := by decide +kernel
theorem m190_925 : smI 190 925 = some (.iload_n 3, 926, 0, 0, 0, 0) := by decide +kernel
theorem m190_926 : smI 190 926 = some (.iconst 2, 927, 0, 0, 0, 2) := by decide +kernel
theorem m190_927 : smI 190 927 = some (.iadd, 928, 0, 0, 0, 0) := by decide +kernel
theorem m190_928 : smI 190 928 = some (.iaload, 929, 0, 0, 0, 0) := by decide +kernel
theorem m190_929 : smI 190 929 = some (.invokevirtual 112, 932, 20, 165, 2, 0) := by decide +kernel
theorem m190_932 : smI 190 932 = some (.if_icmp .eq 496, 935, 0, 1428, 0, 0) := by decide +kernel
theorem m190_937 : smI 190 937 = some (.aload_n 1, 938, 0, 0, 0, 0) := by decide +kernel
theorem m190_938 : smI 190 938 = some (.aload_n 0, 939, 0, 0, 0, 0) := by decide +kernel
theorem m190_939 : smI 190 939 = some (.iload_n 3, 940, 0, 0, 0, 0) := by decide +kernel
theorem m190_940 : smI 190 940 = some (.iconst 1, 941, 0, 0, 0, 1) := by decide +kernel
theorem m190_941 : smI 190 941 = some (.iadd, 942, 0, 0, 0, 0) := by decide +kernel
theorem m190_942 : smI 190 942 = some (.iaload, 943, 0, 0, 0, 0) := by decide +kernel
theorem m190_943 : smI 190 943 = some (.aload_n 0, 944, 0, 0, 0, 0) := by decide +kernel
theorem m190_944 : smI 190 944 = some (.iload_n 3, 945, 0, 0, 0, 0) := by decide +kernel
theorem m190_945 : smI 190 945 = some (.iconst 2, 946, 0, 0, 0, 2) := by decide +kernel
theorem m190_946 : smI 190 946 = some (.iadd, 947, 0, 0, 0, 0) := by decide +kernel
theorem m190_947 : smI 190 947 = some (.iaload, 948, 0, 0, 0, 0) := by decide +kernel
theorem m190_948 : smI 190 948 = some (.invokevirtual 113, 951, 20, 86, 2, 0) := by decide +kernel
theorem m190_951 : smI 190 951 = some (.aload_n 2, 952, 0, 0, 0, 0) := by decide +kernel
theorem m190_952 : smI 190 952 = some (.aload_n 0, 953, 0, 0, 0, 0) := by decide +kernel
theorem m190_953 : smI 190 953 = some (.iload_n 3, 954, 0, 0, 0, 0) := by decide +kernel
theorem m190_954 : smI 190 954 = some (.iconst 1, 955, 0, 0, 0, 1) := by decide +kernel
theorem m190_955 : smI 190 955 = some (.iadd, 956, 0, 0, 0, 0) := by decide +kernel
theorem m190_956 : smI 190 956 = some (.iaload, 957, 0, 0, 0, 0) := by decide +kernel
theorem m190_957 : smI 190 957 = some (.aload_n 0, 958, 0, 0, 0, 0) := by decide +kernel
theorem m190_958 : smI 190 958 = some (.iload_n 3, 959, 0, 0, 0, 0) := by decide +kernel
theorem m190_959 : smI 190 959 = some (.iconst 2, 960, 0, 0, 0, 2) := by decide +kernel
theorem m190_960 : smI 190 960 = some (.iadd, 961, 0, 0, 0, 0) := by decide +kernel
theorem m190_961 : smI 190 961 = some (.iaload, 962, 0, 0, 0, 0) := by decide +kernel
theorem m190_962 : smI 190 962 = some (.invokevirtual 116, 965, 20, 166, 2, 0) := by decide +kernel
theorem m190_965 : smI 190 965 = some (.if_icmp .eq 463, 968, 0, 1428, 0, 0) := by decide +kernel
theorem m190_970 : smI 190 970 = some (.aload_n 1, 971, 0, 0, 0, 0) := by decide +kernel
theorem m190_971 : smI 190 971 = some (.aload_n 0, 972, 0, 0, 0, 0) := by decide +kernel
theorem m190_972 : smI 190 972 = some (.iload_n 3, 973, 0, 0, 0, 0) := by decide +kernel
theorem m190_973 : smI 190 973 = some (.iconst 1, 974, 0, 0, 0, 1) := by decide +kernel
theorem m190_974 : smI 190 974 = some (.iadd, 975, 0, 0, 0, 0) := by decide +kernel
theorem m190_975 : smI 190 975 = some (.iaload, 976, 0, 0, 0, 0) := by decide +kernel
theorem m190_976 : smI 190 976 = some (.invokevirtual 117, 979, 20, 87, 1, 0) := by decide +kernel
theorem m190_979 : smI 190 979 = some (.aload_n 2, 980, 0, 0, 0, 0) := by decide +kernel
theorem m190_980 : smI 190 980 = some (.aload_n 0, 981, 0, 0, 0, 0) := by decide +kernel
theorem m190_981 : smI 190 981 = some (.iload_n 3, 982, 0, 0, 0, 0) := by decide +kernel
theorem m190_982 : smI 190 982 = some (.iconst 1, 983, 0, 0, 0, 1) := by decide +kernel
theorem m190_983 : smI 190 983 = some (.iadd, 984, 0, 0, 0, 0) := by decide +kernel
theorem m190_984 : smI 190 984 = some (.iaload, 985, 0, 0, 0, 0) := by decide +kernel
theorem m190_985 : smI 190 985 = some (.invokevirtual 120, 988, 20, 167, 1, 0) := by decide +kernel
theorem m190_988 : smI 190 988 = some (.if_icmp .eq 440, 991, 0, 1428, 0, 0) := by decide +kernel
theorem m190_993 : smI 190 993 = some (.aload_n 1, 994, 0, 0, 0, 0) := by decide +kernel
theorem m190_994 : smI 190 994 = some (.aload_n 0, 995, 0, 0, 0, 0) := by decide +kernel
theorem m190_995 : smI 190 995 = some (.iload_n 3, 996, 0, 0, 0, 0) := by decide +kernel
theorem m190_996 : smI 190 996 = some (.iconst 1, 997, 0, 0, 0, 1) := by decide +kernel
theorem m190_997 : smI 190 997 = some (.iadd, 998, 0, 0, 0, 0) := by decide +kernel
theorem m190_998 : smI 190 998 = some (.iaload, 999, 0, 0, 0, 0) := by decide +kernel
theorem m190_999 : smI 190 999 = some (.aload_n 0, 1000, 0, 0, 0, 0) := by decide +kernel
theorem m190_1000 : smI 190 1000 = some (.iload_n 3, 1001, 0, 0, 0, 0) := by decide +kernel
theorem m190_1001 : smI 190 1001 = some (.iconst 2, 1002, 0, 0, 0, 2) := by decide +kernel
theorem m190_1002 : smI 190 1002 = some (.iadd, 1003, 0, 0, 0, 0) := by decide +kernel
theorem m190_1003 : smI 190 1003 = some (.iaload, 1004, 0, 0, 0, 0) := by decide +kernel
theorem m190_1004 : smI 190 1004 = some (.aload_n 0, 1005, 0, 0, 0, 0) := by decide +kernel
theorem m190_1005 : smI 190 1005 = some (.iload_n 3, 1006, 0, 0, 0, 0) := by decide +kernel
theorem m190_1006 : smI 190 1006 = some (.iconst 3, 1007, 0, 0, 0, 3) := by decide +kernel
theorem m190_1007 : smI 190 1007 = some (.iadd, 1008, 0, 0, 0, 0) := by decide +kernel
theorem m190_1008 : smI 190 1008 = some (.iaload, 1009, 0, 0, 0, 0) := by decide +kernel
theorem m190_1009 : smI 190 1009 = some (.invokevirtual 121, 1012, 20, 89, 3, 0) := by decide +kernel
theorem m190_1012 : smI 190 1012 = some (.aload_n 2, 1013, 0, 0, 0, 0) := by decide +kernel
theorem m190_1013 : smI 190 1013 = some (.aload_n 0, 1014, 0, 0, 0, 0) := by decide +kernel
theorem m190_1014 : smI 190 1014 = some (.iload_n 3, 1015, 0, 0, 0, 0) := by decide +kernel
theorem m190_1015 : smI 190 1015 = some (.iconst 1, 1016, 0, 0, 0, 1) := by decide +kernel
theorem m190_1016 : smI 190 1016 = some (.iadd, 1017, 0, 0, 0, 0) := by decide +kernel
theorem m190_1017 : smI 190 1017 = some (.iaload, 1018, 0, 0, 0, 0) := by decide +kernel
theorem m190_1018 : smI 190 1018 = some (.aload_n 0, 1019, 0, 0, 0, 0) := by decide +kernel
theorem m190_1019 : smI 190 1019 = some (.iload_n 3, 1020, 0, 0, 0, 0) := by decide +kernel
theorem m190_1020 : smI 190 1020 = some (.iconst 2, 1021, 0, 0, 0, 2) := by decide +kernel
theorem m190_1021 : smI 190 1021 = some (.iadd, 1022, 0, 0, 0, 0) := by decide +kernel
theorem m190_1022 : smI 190 1022 = some (.iaload, 1023, 0, 0, 0, 0) := by decide +kernel
theorem m190_1023 : smI 190 1023 = some (.aload_n 0, 1024, 0, 0, 0, 0) := by decide +kernel
theorem m190_1024 : smI 190 1024 = some (.iload_n 3, 1025, 0, 0, 0, 0) := by decide +kernel
theorem m190_1025 : smI 190 1025 = some (.iconst 3, 1026, 0, 0, 0, 3) := by decide +kernel
theorem m190_1026 : smI 190 1026 = some (.iadd, 1027, 0, 0, 0, 0) := by decide +kernel
theorem m190_1027 : smI 190 1027 = some (.iaload, 1028, 0, 0, 0, 0) := by decide +kernel
theorem m190_1028 : smI 190 1028 = some (.invokevirtual 124, 1031, 20, 169, 3, 0) := by decide +kernel
theorem m190_1031 : smI 190 1031 = some (.if_icmp .eq 397, 1034, 0, 1428, 0, 0) := by decide +kernel
theorem m190_1036 : smI 190 1036 = some (.aload_n 1, 1037, 0, 0, 0, 0) := by decide +kernel
theorem m190_1037 : smI 190 1037 = some (.aload_n 0, 1038, 0, 0, 0, 0) := by decide +kernel
theorem m190_1038 : smI 190 1038 = some (.iload_n 3, 1039, 0, 0, 0, 0) := by decide +kernel
theorem m190_1039 : smI 190 1039 = some (.iconst 1, 1040, 0, 0, 0, 1) := by decide +kernel
theorem m190_1040 : smI 190 1040 = some (.iadd, 1041, 0, 0, 0, 0) := by decide +kernel
theorem m190_1041 : smI 190 1041 = some (.iaload, 1042, 0, 0, 0, 0) := by decide +kernel
theorem m190_1042 : smI 190 1042 = some (.invokevirtual 125, 1045, 20, 90, 1, 0) := by decide +kernel
theorem m190_1045 : smI 190 1045 = some (.aload_n 2, 1046, 0, 0, 0, 0) := by decide +kernel
theorem m190_1046 : smI 190 1046 = some (.aload_n 0, 1047, 0, 0, 0, 0) := by decide +kernel
theorem m190_1047 : smI 190 1047 = some (.iload_n 3, 1048, 0, 0, 0, 0) := by decide +kernel
theorem m190_1048 : smI 190 1048 = some (.iconst 1, 1049, 0, 0, 0, 1) := by decide +kernel
theorem m190_1049 : smI 190 1049 = some (.iadd, 1050, 0, 0, 0, 0) := by decide +kernel
theorem m190_1050 : smI 190 1050 = some (.iaload, 1051, 0, 0, 0, 0) := by decide +kernel
theorem m190_1051 : smI 190 1051 = some (.invokevirtual 128, 1054, 20, 170, 1, 0) := by decide +kernel
theorem m190_1054 : smI 190 1054 = some (.if_icmp .eq 374, 1057, 0, 1428, 0, 0) := by decide +kernel
theorem m190_1059 : smI 190 1059 = some (.aload_n 1, 1060, 0, 0, 0, 0) := by decide +kernel
theorem m190_1060 : smI 190 1060 = some (.aload_n 0, 1061, 0, 0, 0, 0) := by decide +kernel
theorem m190_1061 : smI 190 1061 = some (.iload_n 3, 1062, 0, 0, 0, 0) := by decide +kernel
theorem m190_1062 : smI 190 1062 = some (.iconst 1, 1063, 0, 0, 0, 1) := by decide +kernel
theorem m190_1063 : smI 190 1063 = some (.iadd, 1064, 0, 0, 0, 0) := by decide +kernel
theorem m190_1064 : smI 190 1064 = some (.iaload, 1065, 0, 0, 0, 0) := by decide +kernel
theorem m190_1065 : smI 190 1065 = some (.aload_n 0, 1066, 0, 0, 0, 0) := by decide +kernel
theorem m190_1066 : smI 190 1066 = some (.iload_n 3, 1067, 0, 0, 0, 0) := by decide +kernel
theorem m190_1067 : smI 190 1067 = some (.iconst 2, 1068, 0, 0, 0, 2) := by decide +kernel
theorem m190_1068 : smI 190 1068 = some (.iadd, 1069, 0, 0, 0, 0) := by decide +kernel
theorem m190_1069 : smI 190 1069 = some (.iaload, 1070, 0, 0, 0, 0) := by decide +kernel
theorem m190_1070 : smI 190 1070 = some (.aload_n 0, 1071, 0, 0, 0, 0) := by decide +kernel
theorem m190_1071 : smI 190 1071 = some (.iload_n 3, 1072, 0, 0, 0, 0) := by decide +kernel
theorem m190_1072 : smI 190 1072 = some (.iconst 3, 1073, 0, 0, 0, 3) := by decide +kernel
theorem m190_1073 : smI 190 1073 = some (.iadd, 1074, 0, 0, 0, 0) := by decide +kernel
theorem m190_1074 : smI 190 1074 = some (.iaload, 1075, 0, 0, 0, 0) := by decide +kernel
theorem m190_1075 : smI 190 1075 = some (.invokevirtual 129, 1078, 20, 93, 3, 0) := by decide +kernel
theorem m190_1078 : smI 190 1078 = some (.aload_n 2, 1079, 0, 0, 0, 0) := by decide +kernel
theorem m190_1079 : smI 190 1079 = some (.aload_n 0, 1080, 0, 0, 0, 0) := by decide +kernel
theorem m190_1080 : smI 190 1080 = some (.iload_n 3, 1081, 0, 0, 0, 0) := by decide +kernel
theorem m190_1081 : smI 190 1081 = some (.iconst 1, 1082, 0, 0, 0, 1) := by decide +kernel
theorem m190_1082 : smI 190 1082 = some (.iadd, 1083, 0, 0, 0, 0) := by decide +kernel
theorem m190_1083 : smI 190 1083 = some (.iaload, 1084, 0, 0, 0, 0) := by decide +kernel
theorem m190_1084 : smI 190 1084 = some (.aload_n 0, 1085, 0, 0, 0, 0) := by decide +kernel
theorem m190_1085 : smI 190 1085 = some (.iload_n 3, 1086, 0, 0, 0, 0) := by decide +kernel
theorem m190_1086 : smI 190 1086 = some (.iconst 2, 1087, 0, 0, 0, 2) := by decide +kernel
theorem m190_1087 : smI 190 1087 = some (.iadd, 1088, 0, 0, 0, 0) := by decide +kernel
theorem m190_1088 : smI 190 1088 = some (.iaload, 1089, 0, 0, 0, 0) := by decide +kernel
theorem m190_1089 : smI 190 1089 = some (.aload_n 0, 1090, 0, 0, 0, 0) := by decide +kernel
theorem m190_1090 : smI 190 1090 = some (.iload_n 3, 1091, 0, 0, 0, 0) := by decide +kernel
theorem m190_1091 : smI 190 1091 = some (.iconst 3, 1092, 0, 0, 0, 3) := by decide +kernel
theorem m190_1092 : smI 190 1092 = some (.iadd, 1093, 0, 0, 0, 0) := by decide +kernel
theorem m190_1093 : smI 190 1093 = some (.iaload, 1094, 0, 0, 0, 0) := by decide +kernel
theorem m190_1094 : smI 190 1094 = some (.invokevirtual 132, 1097, 20, 176, 3, 0) := by decide +kernel
theorem m190_1097 : smI 190 1097 = some (.if_icmp .eq 331, 1100, 0, 1428, 0, 0) := by decide +kernel
theorem m190_1102 : smI 190 1102 = some (.aload_n 1, 1103, 0, 0, 0, 0) := by decide +kernel
theorem m190_1103 : smI 190 1103 = some (.aload_n 0, 1104, 0, 0, 0, 0) := by decide +kernel
theorem m190_1104 : smI 190 1104 = some (.iload_n 3, 1105, 0, 0, 0, 0) := by decide +kernel
theorem m190_1105 : smI 190 1105 = some (.iconst 1, 1106, 0, 0, 0, 1) := by decide +kernel
theorem m190_1106 : smI 190 1106 = some (.iadd, 1107, 0, 0, 0, 0) := by decide +kernel
theorem m190_1107 : smI 190 1107 = some (.iaload, 1108, 0, 0, 0, 0) := by decide +kernel
theorem m190_1108 : smI 190 1108 = some (.invokevirtual 133, 1111, 20, 94, 1, 0) := by decide +kernel
theorem m190_1111 : smI 190 1111 = some (.aload_n 2, 1112, 0, 0, 0, 0) := by decide +kernel
theorem m190_1112 : smI 190 1112 = some (.aload_n 0, 1113, 0, 0, 0, 0) := by decide +kernel
theorem m190_1113 : smI 190 1113 = some (.iload_n 3, 1114, 0, 0, 0, 0) := by decide +kernel
theorem m190_1114 : smI 190 1114 = some (.iconst 1, 1115, 0, 0, 0, 1) := by decide +kernel
theorem m190_1115 : smI 190 1115 = some (.iadd, 1116, 0, 0, 0, 0) := by decide +kernel
theorem m190_1116 : smI 190 1116 = some (.iaload, 1117, 0, 0, 0, 0) := by decide +kernel
theorem m190_1117 : smI 190 1117 = some (.invokevirtual 136, 1120, 20, 177, 1, 0) := by decide +kernel
theorem m190_1120 : smI 190 1120 = some (.if_icmp .eq 308, 1123, 0, 1428, 0, 0) := by decide +kernel
theorem m190_1125 : smI 190 1125 = some (.aload_n 1, 1126, 0, 0, 0, 0) := by decide +kernel
theorem m190_1126 : smI 190 1126 = some (.aload_n 0, 1127, 0, 0, 0, 0) := by decide +kernel
theorem m190_1127 : smI 190 1127 = some (.iload_n 3, 1128, 0, 0, 0, 0) := by decide +kernel
theorem m190_1128 : smI 190 1128 = some (.iconst 1, 1129, 0, 0, 0, 1) := by decide +kernel
theorem m190_1129 : smI 190 1129 = some (.iadd, 1130, 0, 0, 0, 0) := by decide +kernel
theorem m190_1130 : smI 190 1130 = some (.iaload, 1131, 0, 0, 0, 0) := by decide +kernel
theorem m190_1131 : smI 190 1131 = some (.aload_n 0, 1132, 0, 0, 0, 0) := by decide +kernel
theorem m190_1132 : smI 190 1132 = some (.iload_n 3, 1133, 0, 0, 0, 0) := by decide +kernel
theorem m190_1133 : smI 190 1133 = some (.iconst 2, 1134, 0, 0, 0, 2) := by decide +kernel
theorem m190_1134 : smI 190 1134 = some (.iadd, 1135, 0, 0, 0, 0) := by decide +kernel
theorem m190_1135 : smI 190 1135 = some (.iaload, 1136, 0, 0, 0, 0) := by decide +kernel
theorem m190_1136 : smI 190 1136 = some (.aload_n 0, 1137, 0, 0, 0, 0) := by decide +kernel
theorem m190_1137 : smI 190 1137 = some (.iload_n 3, 1138, 0, 0, 0, 0) := by decide +kernel
theorem m190_1138 : smI 190 1138 = some (.iconst 3, 1139, 0, 0, 0, 3) := by decide +kernel
theorem m190_1139 : smI 190 1139 = some (.iadd, 1140, 0, 0, 0, 0) := by decide +kernel
theorem m190_1140 : smI 190 1140 = some (.iaload, 1141, 0, 0, 0, 0) := by decide +kernel
theorem m190_1141 : smI 190 1141 = some (.invokevirtual 137, 1144, 20, 95, 3, 0) := by decide +kernel
theorem m190_1144 : smI 190 1144 = some (.aload_n 2, 1145, 0, 0, 0, 0) := by decide +kernel
theorem m190_1145 : smI 190 1145 = some (.aload_n 0, 1146, 0, 0, 0, 0) := by decide +kernel
theorem m190_1146 : smI 190 1146 = some (.iload_n 3, 1147, 0, 0, 0, 0) := by decide +kernel
theorem m190_1147 : smI 190 1147 = some (.iconst 1, 1148, 0, 0, 0, 1) := by decide +kernel
theorem m190_1148 : smI 190 1148 = some (.iadd, 1149, 0, 0, 0, 0) := by decide +kernel
theorem m190_1149 : smI 190 1149 = some (.iaload, 1150, 0, 0, 0, 0) := by decide +kernel
theorem m190_1150 : smI 190 1150 = some (.aload_n 0, 1151, 0, 0, 0, 0) := by decide +kernel
theorem m190_1151 : smI 190 1151 = some (.iload_n 3, 1152, 0, 0, 0, 0) := by decide +kernel
theorem m190_1152 : smI 190 1152 = some (.iconst 2, 1153, 0, 0, 0, 2) := by decide +kernel
theorem m190_1153 : smI 190 1153 = some (.iadd, 1154, 0, 0, 0, 0) := by decide +kernel
theorem m190_1154 : smI 190 1154 = some (.iaload, 1155, 0, 0, 0, 0) := by decide +kernel
theorem m190_1155 : smI 190 1155 = some (.aload_n 0, 1156, 0, 0, 0, 0) := by decide +kernel
theorem m190_1156 : smI 190 1156 = some (.iload_n 3, 1157, 0, 0, 0, 0) := by decide +kernel
theorem m190_1157 : smI 190 1157 = some (.iconst 3, 1158, 0, 0, 0, 3) := by decide +kernel
theorem m190_1158 : smI 190 1158 = some (.iadd, 1159, 0, 0, 0, 0) := by decide +kernel
theorem m190_1159 : smI 190 1159 = some (.iaload, 1160, 0, 0, 0, 0) := by decide +kernel
theorem m190_1160 : smI 190 1160 = some (.invokevirtual 140, 1163, 20, 179, 3, 0) := by decide +kernel
theorem m190_1163 : smI 190 1163 = some (.if_icmp .eq 265, 1166, 0, 1428, 0, 0) := by decide +kernel
theorem m190_1168 : smI 190 1168 = some (.aload_n 1, 1169, 0, 0, 0, 0) := by decide +kernel
theorem m190_1169 : smI 190 1169 = some (.aload_n 0, 1170, 0, 0, 0, 0) := by decide +kernel
theorem m190_1170 : smI 190 1170 = some (.iload_n 3, 1171, 0, 0, 0, 0) := by decide +kernel
theorem m190_1171 : smI 190 1171 = some (.iconst 1, 1172, 0, 0, 0, 1) := by decide +kernel
theorem m190_1172 : smI 190 1172 = some (.iadd, 1173, 0, 0, 0, 0) := by decide +kernel
theorem m190_1173 : smI 190 1173 = some (.iaload, 1174, 0, 0, 0, 0) := by decide +kernel
theorem m190_1174 : smI 190 1174 = some (.aload_n 0, 1175, 0, 0, 0, 0) := by decide +kernel
theorem m190_1175 : smI 190 1175 = some (.iload_n 3, 1176, 0, 0, 0, 0) := by decide +kernel
theorem m190_1176 : smI 190 1176 = some (.iconst 2, 1177, 0, 0, 0, 2) := by decide +kernel
theorem m190_1177 : smI 190 1177 = some (.iadd, 1178, 0, 0, 0, 0) := by decide +kernel
theorem m190_1178 : smI 190 1178 = some (.iaload, 1179, 0, 0, 0, 0) := by decide +kernel
theorem m190_1179 : smI 190 1179 = some (.aload_n 0, 1180, 0, 0, 0, 0) := by decide +kernel
theorem m190_1180 : smI 190 1180 = some (.iload_n 3, 1181, 0, 0, 0, 0) := by decide +kernel
theorem m190_1181 : smI 190 1181 = some (.iconst 3, 1182, 0, 0, 0, 3) := by decide +kernel
theorem m190_1182 : smI 190 1182 = some (.iadd, 1183, 0, 0, 0, 0) := by decide +kernel
theorem m190_1183 : smI 190 1183 = some (.iaload, 1184, 0, 0, 0, 0) := by decide +kernel
theorem m190_1184 : smI 190 1184 = some (.invokevirtual 141, 1187, 20, 96, 3, 0) := by decide +kernel
theorem m190_1187 : smI 190 1187 = some (.aload_n 2, 1188, 0, 0, 0, 0) := by decide +kernel
theorem m190_1188 : smI 190 1188 = some (.aload_n 0, 1189, 0, 0, 0, 0) := by decide +kernel
theorem m190_1189 : smI 190 1189 = some (.iload_n 3, 1190, 0, 0, 0, 0) := by decide +kernel
theorem m190_1190 : smI 190 1190 = some (.iconst 1, 1191, 0, 0, 0, 1) := by decide +kernel
theorem m190_1191 : smI 190 1191 = some (.iadd, 1192, 0, 0, 0, 0) := by decide +kernel
theorem m190_1192 : smI 190 1192 = some (.iaload, 1193, 0, 0, 0, 0) := by decide +kernel
theorem m190_1193 : smI 190 1193 = some (.aload_n 0, 1194, 0, 0, 0, 0) := by decide +kernel
theorem m190_1194 : smI 190 1194 = some (.iload_n 3, 1195, 0, 0, 0, 0) := by decide +kernel
theorem m190_1195 : smI 190 1195 = some (.iconst 2, 1196, 0, 0, 0, 2) := by decide +kernel
theorem m190_1196 : smI 190 1196 = some (.iadd, 1197, 0, 0, 0, 0) := by decide +kernel
theorem m190_1197 : smI 190 1197 = some (.iaload, 1198, 0, 0, 0, 0) := by decide +kernel
theorem m190_1198 : smI 190 1198 = some (.aload_n 0, 1199, 0, 0, 0, 0) := by decide +kernel
theorem m190_1199 : smI 190 1199 = some (.iload_n 3, 1200, 0, 0, 0, 0) := by decide +kernel
theorem m190_1200 : smI 190 1200 = some (.iconst 3, 1201, 0, 0, 0, 3) := by decide +kernel
theorem m190_1201 : smI 190 1201 = some (.iadd, 1202, 0, 0, 0, 0) := by decide +kernel
theorem m190_1202 : smI 190 1202 = some (.iaload, 1203, 0, 0, 0, 0) := by decide +kernel
theorem m190_1203 : smI 190 1203 = some (.invokevirtual 144, 1206, 20, 180, 3, 0) := by decide +kernel
theorem m190_1206 : smI 190 1206 = some (.if_icmp .eq 222, 1209, 0, 1428, 0, 0) := by decide +kernel
theorem m190_1211 : smI 190 1211 = some (.aload_n 1, 1212, 0, 0, 0, 0) := by decide +kernel
theorem m190_1212 : smI 190 1212 = some (.aload_n 0, 1213, 0, 0, 0, 0) := by decide +kernel
theorem m190_1213 : smI 190 1213 = some (.iload_n 3, 1214, 0, 0, 0, 0) := by decide +kernel
theorem m190_1214 : smI 190 1214 = some (.iconst 1, 1215, 0, 0, 0, 1) := by decide +kernel
theorem m190_1215 : smI 190 1215 = some (.iadd, 1216, 0, 0, 0, 0) := by decide +kernel
theorem m190_1216 : smI 190 1216 = some (.iaload, 1217, 0, 0, 0, 0) := by decide +kernel
theorem m190_1217 : smI 190 1217 = some (.aload_n 0, 1218, 0, 0, 0, 0) := by decide +kernel
theorem m190_1218 : smI 190 1218 = some (.iload_n 3, 1219, 0, 0, 0, 0) := by decide +kernel
theorem m190_1219 : smI 190 1219 = some (.iconst 2, 1220, 0, 0, 0, 2) := by decide +kernel
theorem m190_1220 : smI 190 1220 = some (.iadd, 1221, 0, 0, 0, 0) := by decide +kernel
theorem m190_1221 : smI 190 1221 = some (.iaload, 1222, 0, 0, 0, 0) := by decide +kernel
theorem m190_1222 : smI 190 1222 = some (.aload_n 0, 1223, 0, 0, 0, 0) := by decide +kernel
theorem m190_1223 : smI 190 1223 = some (.iload_n 3, 1224, 0, 0, 0, 0) := by decide +kernel
theorem m190_1224 : smI 190 1224 = some (.iconst 3, 1225, 0, 0, 0, 3) := by decide +kernel
theorem m190_1225 : smI 190 1225 = some (.iadd, 1226, 0, 0, 0, 0) := by decide +kernel
theorem m190_1226 : smI 190 1226 = some (.iaload, 1227, 0, 0, 0, 0) := by decide +kernel
theorem m190_1227 : smI 190 1227 = some (.aload_n 0, 1228, 0, 0, 0, 0) := by decide +kernel
theorem m190_1228 : smI 190 1228 = some (.iload_n 3, 1229, 0, 0, 0, 0) := by decide +kernel
theorem m190_1229 : smI 190 1229 = some (.iconst 4, 1230, 0, 0, 0, 4) := by decide +kernel
theorem m190_1230 : smI 190 1230 = some (.iadd, 1231, 0, 0, 0, 0) := by decide +kernel
theorem m190_1231 : smI 190 1231 = some (.iaload, 1232, 0, 0, 0, 0) := by decide +kernel
theorem m190_1232 : smI 190 1232 = some (.aload_n 0, 1233, 0, 0, 0, 0) := by decide +kernel
theorem m190_1233 : smI 190 1233 = some (.iload_n 3, 1234, 0, 0, 0, 0) := by decide +kernel
theorem m190_1234 : smI 190 1234 = some (.iconst 5, 1235, 0, 0, 0, 5) := by decide +kernel
theorem m190_1235 : smI 190 1235 = some (.iadd, 1236, 0, 0, 0, 0) := by decide +kernel
theorem m190_1236 : smI 190 1236 = some (.iaload, 1237, 0, 0, 0, 0) := by decide +kernel
theorem m190_1237 : smI 190 1237 = some (.invokevirtual 145, 1240, 20, 97, 5, 0) := by decide +kernel
theorem m190_1240 : smI 190 1240 = some (.aload_n 2, 1241, 0, 0, 0, 0) := by decide +kernel
theorem m190_1241 : smI 190 1241 = some (.aload_n 0, 1242, 0, 0, 0, 0) := by decide +kernel
theorem m190_1242 : smI 190 1242 = some (.iload_n 3, 1243, 0, 0, 0, 0) := by decide +kernel
theorem m190_1243 : smI 190 1243 = some (.iconst 1, 1244, 0, 0, 0, 1) := by decide +kernel
theorem m190_1244 : smI 190 1244 = some (.iadd, 1245, 0, 0, 0, 0) := by decide +kernel
theorem m190_1245 : smI 190 1245 = some (.iaload, 1246, 0, 0, 0, 0) := by decide +kernel
theorem m190_1246 : smI 190 1246 = some (.aload_n 0, 1247, 0, 0, 0, 0) := by decide +kernel
theorem m190_1247 : smI 190 1247 = some (.iload_n 3, 1248, 0, 0, 0, 0) := by decide +kernel
theorem m190_1248 : smI 190 1248 = some (.iconst 2, 1249, 0, 0, 0, 2) := by decide +kernel
theorem m190_1249 : smI 190 1249 = some (.iadd, 1250, 0, 0, 0, 0) := by decide +kernel
theorem m190_1250 : smI 190 1250 = some (.iaload, 1251, 0, 0, 0, 0) := by decide +kernel
theorem m190_1251 : smI 190 1251 = some (.aload_n 0, 1252, 0, 0, 0, 0) := by decide +kernel
theorem m190_1252 : smI 190 1252 = some (.iload_n 3, 1253, 0, 0, 0, 0) := by decide +kernel
theorem m190_1253 : smI 190 1253 = some (.iconst 3, 1254, 0, 0, 0, 3) := by decide +kernel
theorem m190_1254 : smI 190 1254 = some (.iadd, 1255, 0, 0, 0, 0) := by decide +kernel
theorem m190_1255 : smI 190 1255 = some (.iaload, 1256, 0, 0, 0, 0) := by decide +kernel
theorem m190_1256 : smI 190 1256 = some (.aload_n 0, 1257, 0, 0, 0, 0) := by decide +kernel
theorem m190_1257 : smI 190 1257 = some (.iload_n 3, 1258, 0, 0, 0, 0) := by decide +kernel
theorem m190_1258 : smI 190 1258 = some (.iconst 4, 1259, 0, 0, 0, 4) := by decide +kernel
theorem m190_1259 : smI 190 1259 = some (.iadd, 1260, 0, 0, 0, 0) := by decide +kernel
theorem m190_1260 : smI 190 1260 = some (.iaload, 1261, 0, 0, 0, 0) := by decide +kernel
theorem m190_1261 : smI 190 1261 = some (.aload_n 0, 1262, 0, 0, 0, 0) := by decide +kernel
theorem m190_1262 : smI 190 1262 = some (.iload_n 3, 1263, 0, 0, 0, 0) := by decide +kernel
theorem m190_1263 : smI 190 1263 = some (.iconst 5, 1264, 0, 0, 0, 5) := by decide +kernel
theorem m190_1264 : smI 190 1264 = some (.iadd, 1265, 0, 0, 0, 0) := by decide +kernel
theorem m190_1265 : smI 190 1265 = some (.iaload, 1266, 0, 0, 0, 0) := by decide +kernel
theorem m190_1266 : smI 190 1266 = some (.invokevirtual 149, 1269, 20, 181, 5, 0) := by decide +kernel
theorem m190_1269 : smI 190 1269 = some (.if_icmp .eq 159, 1272, 0, 1428, 0, 0) := by decide +kernel
theorem m190_1274 : smI 190 1274 = some (.aload_n 1, 1275, 0, 0, 0, 0) := by decide +kernel
theorem m190_1275 : smI 190 1275 = some (.aload_n 0, 1276, 0, 0, 0, 0) := by decide +kernel
theorem m190_1276 : smI 190 1276 = some (.iload_n 3, 1277, 0, 0, 0, 0) := by decide +kernel
theorem m190_1277 : smI 190 1277 = some (.iconst 1, 1278, 0, 0, 0, 1) := by decide +kernel
theorem m190_1278 : smI 190 1278 = some (.iadd, 1279, 0, 0, 0, 0) := by decide +kernel
theorem m190_1279 : smI 190 1279 = some (.iaload, 1280, 0, 0, 0, 0) := by decide +kernel
theorem m190_1280 : smI 190 1280 = some (.invokevirtual 150, 1283, 20, 98, 1, 0) := by decide +kernel
theorem m190_1283 : smI 190 1283 = some (.aload_n 2, 1284, 0, 0, 0, 0) := by decide +kernel
theorem m190_1284 : smI 190 1284 = some (.aload_n 0, 1285, 0, 0, 0, 0) := by decide +kernel
theorem m190_1285 : smI 190 1285 = some (.iload_n 3, 1286, 0, 0, 0, 0) := by decide +kernel
theorem m190_1286 : smI 190 1286 = some (.iconst 1, 1287, 0, 0, 0, 1) := by decide +kernel
theorem m190_1287 : smI 190 1287 = some (.iadd, 1288, 0, 0, 0, 0) := by decide +kernel
theorem m190_1288 : smI 190 1288 = some (.iaload, 1289, 0, 0, 0, 0) := by decide +kernel
theorem m190_1289 : smI 190 1289 = some (.invokevirtual 153, 1292, 20, 182, 1, 0) := by decide +kernel
theorem m190_1292 : smI 190 1292 = some (.if_icmp .eq 136, 1295, 0, 1428, 0, 0) := by decide +kernel
theorem m190_1297 : smI 190 1297 = some (.aload_n 1, 1298, 0, 0, 0, 0) := by decide +kernel
theorem m190_1298 : smI 190 1298 = some (.aload_n 0, 1299, 0, 0, 0, 0) := by decide +kernel
theorem m190_1299 : smI 190 1299 = some (.iload_n 3, 1300, 0, 0, 0, 0) := by decide +kernel
theorem m190_1300 : smI 190 1300 = some (.iconst 1, 1301, 0, 0, 0, 1) := by decide +kernel
theorem m190_1301 : smI 190 1301 = some (.iadd, 1302, 0, 0, 0, 0) := by decide +kernel
theorem m190_1302 : smI 190 1302 = some (.iaload, 1303, 0, 0, 0, 0) := by decide +kernel
theorem m190_1303 : smI 190 1303 = some (.invokevirtual 154, 1306, 20, 99, 1, 0) := by decide +kernel
theorem m190_1306 : smI 190 1306 = some (.aload_n 2, 1307, 0, 0, 0, 0) := by decide +kernel
theorem m190_1307 : smI 190 1307 = some (.aload_n 0, 1308, 0, 0, 0, 0) := by decide +kernel
theorem m190_1308 : smI 190 1308 = some (.iload_n 3, 1309, 0, 0, 0, 0) := by decide +kernel
theorem m190_1309 : smI 190 1309 = some (.iconst 1, 1310, 0, 0, 0, 1) := by decide +kernel
theorem m190_1310 : smI 190 1310 = some (.iadd, 1311, 0, 0, 0, 0) := by decide +kernel
theorem m190_1311 : smI 190 1311 = some (.iaload, 1312, 0, 0, 0, 0) := by decide +kernel
theorem m190_1312 : smI 190 1312 = some (.invokevirtual 157, 1315, 20, 183, 1, 0) := by decide +kernel
theorem m190_1315 : smI 190 1315 = some (.if_icmp .eq 113, 1318, 0, 1428, 0, 0) := by decide +kernel
theorem m190_1320 : smI 190 1320 = some (.aload_n 1, 1321, 0, 0, 0, 0) := by decide +kernel
theorem m190_1321 : smI 190 1321 = some (.invokevirtual 158, 1324, 20, 100, 0, 0) := by decide +kernel
theorem m190_1324 : smI 190 1324 = some (.aload_n 2, 1325, 0, 0, 0, 0) := by decide +kernel
theorem m190_1325 : smI 190 1325 = some (.invokevirtual 161, 1328, 20, 184, 0, 0) := by decide +kernel
theorem m190_1328 : smI 190 1328 = some (.if_icmp .eq 100, 1331, 0, 1428, 0, 0) := by decide +kernel
theorem m190_1333 : smI 190 1333 = some (.aload_n 1, 1334, 0, 0, 0, 0) := by decide +kernel
theorem m190_1334 : smI 190 1334 = some (.invokevirtual 162, 1337, 20, 101, 0, 0) := by decide +kernel
theorem m190_1337 : smI 190 1337 = some (.aload_n 2, 1338, 0, 0, 0, 0) := by decide +kernel
theorem m190_1338 : smI 190 1338 = some (.invokevirtual 165, 1341, 20, 185, 0, 0) := by decide +kernel
theorem m190_1341 : smI 190 1341 = some (.if_icmp .eq 87, 1344, 0, 1428, 0, 0) := by decide +kernel
theorem m190_1346 : smI 190 1346 = some (.aload_n 1, 1347, 0, 0, 0, 0) := by decide +kernel
theorem m190_1347 : smI 190 1347 = some (.aload_n 0, 1348, 0, 0, 0, 0) := by decide +kernel
theorem m190_1348 : smI 190 1348 = some (.iload_n 3, 1349, 0, 0, 0, 0) := by decide +kernel
theorem m190_1349 : smI 190 1349 = some (.iconst 1, 1350, 0, 0, 0, 1) := by decide +kernel
theorem m190_1350 : smI 190 1350 = some (.iadd, 1351, 0, 0, 0, 0) := by decide +kernel
theorem m190_1351 : smI 190 1351 = some (.iaload, 1352, 0, 0, 0, 0) := by decide +kernel
theorem m190_1352 : smI 190 1352 = some (.invokevirtual 166, 1355, 20, 102, 1, 0) := by decide +kernel
theorem m190_1355 : smI 190 1355 = some (.aload_n 2, 1356, 0, 0, 0, 0) := by decide +kernel
theorem m190_1356 : smI 190 1356 = some (.aload_n 0, 1357, 0, 0, 0, 0) := by decide +kernel
theorem m190_1357 : smI 190 1357 = some (.iload_n 3, 1358, 0, 0, 0, 0) := by decide +kernel
theorem m190_1358 : smI 190 1358 = some (.iconst 1, 1359, 0, 0, 0, 1) := by decide +kernel
theorem m190_1359 : smI 190 1359 = some (.iadd, 1360, 0, 0, 0, 0) := by decide +kernel
theorem m190_1360 : smI 190 1360 = some (.iaload, 1361, 0, 0, 0, 0) := by decide +kernel
theorem m190_1361 : smI 190 1361 = some (.invokevirtual 169, 1364, 20, 186, 1, 0) := by decide +kernel
theorem m190_1364 : smI 190 1364 = some (.if_icmp .eq 64, 1367, 0, 1428, 0, 0) := by decide +kernel
theorem m190_1369 : smI 190 1369 = some (.aload_n 1, 1370, 0, 0, 0, 0) := by decide +kernel
theorem m190_1370 : smI 190 1370 = some (.invokevirtual 170, 1373, 20, 103, 0, 0) := by decide +kernel
theorem m190_1373 : smI 190 1373 = some (.aload_n 2, 1374, 0, 0, 0, 0) := by decide +kernel
theorem m190_1374 : smI 190 1374 = some (.invokevirtual 173, 1377, 20, 187, 0, 0) := by decide +kernel
theorem m190_1377 : smI 190 1377 = some (.if_icmp .eq 51, 1380, 0, 1428, 0, 0) := by decide +kernel
theorem m190_1382 : smI 190 1382 = some (.aload_n 1, 1383, 0, 0, 0, 0) := by decide +kernel
theorem m190_1383 : smI 190 1383 = some (.aload_n 0, 1384, 0, 0, 0, 0) := by decide +kernel
theorem m190_1384 : smI 190 1384 = some (.iload_n 3, 1385, 0, 0, 0, 0) := by decide +kernel
theorem m190_1385 : smI 190 1385 = some (.iconst 1, 1386, 0, 0, 0, 1) := by decide +kernel
theorem m190_1386 : smI 190 1386 = some (.iadd, 1387, 0, 0, 0, 0) := by decide +kernel
theorem m190_1387 : smI 190 1387 = some (.iaload, 1388, 0, 0, 0, 0) := by decide +kernel
theorem m190_1388 : smI 190 1388 = some (.invokevirtual 174, 1391, 20, 104, 1, 0) := by decide +kernel
theorem m190_1391 : smI 190 1391 = some (.aload_n 2, 1392, 0, 0, 0, 0) := by decide +kernel
theorem m190_1392 : smI 190 1392 = some (.aload_n 0, 1393, 0, 0, 0, 0) := by decide +kernel
theorem m190_1393 : smI 190 1393 = some (.iload_n 3, 1394, 0, 0, 0, 0) := by decide +kernel
theorem m190_1394 : smI 190 1394 = some (.iconst 1, 1395, 0, 0, 0, 1) := by decide +kernel
theorem m190_1395 : smI 190 1395 = some (.iadd, 1396, 0, 0, 0, 0) := by decide +kernel
theorem m190_1396 : smI 190 1396 = some (.iaload, 1397, 0, 0, 0, 0) := by decide +kernel
theorem m190_1397 : smI 190 1397 = some (.invokevirtual 177, 1400, 20, 188, 1, 0) := by decide +kernel
theorem m190_1400 : smI 190 1400 = some (.if_icmp .eq 28, 1403, 0, 1428, 0, 0) := by decide +kernel
theorem m190_1405 : smI 190 1405 = some (.aload_n 1, 1406, 0, 0, 0, 0) := by decide +kernel
theorem m190_1406 : smI 190 1406 = some (.aload_n 0, 1407, 0, 0, 0, 0) := by decide +kernel
theorem m190_1407 : smI 190 1407 = some (.iload_n 3, 1408, 0, 0, 0, 0) := by decide +kernel
theorem m190_1408 : smI 190 1408 = some (.iconst 1, 1409, 0, 0, 0, 1) := by decide +kernel
theorem m190_1409 : smI 190 1409 = some (.iadd, 1410, 0, 0, 0, 0) := by decide +kernel
theorem m190_1410 : smI 190 1410 = some (.iaload, 1411, 0, 0, 0, 0) := by decide +kernel
theorem m190_1411 : smI 190 1411 = some (.invokevirtual 178, 1414, 20, 105, 1, 0) := by decide +kernel
theorem m190_1414 : smI 190 1414 = some (.aload_n 2, 1415, 0, 0, 0, 0) := by decide +kernel
theorem m190_1415 : smI 190 1415 = some (.aload_n 0, 1416, 0, 0, 0, 0) := by decide +kernel
theorem m190_1416 : smI 190 1416 = some (.iload_n 3, 1417, 0, 0, 0, 0) := by decide +kernel
theorem m190_1417 : smI 190 1417 = some (.iconst 1, 1418, 0, 0, 0, 1) := by decide +kernel
theorem m190_1418 : smI 190 1418 = some (.iadd, 1419, 0, 0, 0, 0) := by decide +kernel
theorem m190_1419 : smI 190 1419 = some (.iaload, 1420, 0, 0, 0, 0) := by decide +kernel
theorem m190_1420 : smI 190 1420 = some (.invokevirtual 181, 1423, 20, 189, 1, 0) := by decide +kernel
theorem m190_1423 : smI 190 1423 = some (.if_icmp .eq 5, 1426, 0, 1428, 0, 0) := by decide +kernel
theorem m190_1428 : smI 190 1428 = some (.iinc 3 6, 1431, 0, 0, 0, 6) := by decide +kernel
theorem m190_1431 : smI 190 1431 = some (.goto (-1413), 1434, 0, 18, 0, 0) := by decide +kernel
theorem m190_1434 : smI 190 1434 = some (.iconst 1, 1435, 0, 0, 0, 1) := by decide +kernel
theorem m190_1435 : smI 190 1435 = some (.ireturn, 1436, 0, 0, 0, 0) := by decide +kernel
