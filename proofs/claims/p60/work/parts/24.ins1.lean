/-! THE SMALL MACHINE: instructions, part 1 (by program) -/
theorem i1_0 : am_ins 1 0 = some (.aload_n 0) := by decide +kernel
theorem i1_1 : am_ins 1 1 = some (.getfield 9) := by decide +kernel
theorem i1_4 : am_ins 1 4 = some (.arraylength) := by decide +kernel
theorem i1_5 : am_ins 1 5 = some (.aload_n 0) := by decide +kernel
theorem i1_6 : am_ins 1 6 = some (.invokevirtual 335) := by decide +kernel
theorem i1_9 : am_ins 1 9 = some (.ishr) := by decide +kernel
theorem i1_10 : am_ins 1 10 = some (.ireturn) := by decide +kernel
theorem i2_0 : am_ins 2 0 = some (.aload_n 0) := by decide +kernel
theorem i2_1 : am_ins 2 1 = some (.invokevirtual 492) := by decide +kernel
theorem i2_4 : am_ins 2 4 = some (.ifCond .eq 12) := by decide +kernel
theorem i2_7 : am_ins 2 7 = some (.aload_n 0) := by decide +kernel
theorem i2_8 : am_ins 2 8 = some (.getfield 9) := by decide +kernel
theorem i2_11 : am_ins 2 11 = some (.iload_n 1) := by decide +kernel
theorem i2_12 : am_ins 2 12 = some (.invokestatic 495) := by decide +kernel
theorem i2_15 : am_ins 2 15 = some (.ireturn) := by decide +kernel
theorem i2_16 : am_ins 2 16 = some (.aload_n 0) := by decide +kernel
theorem i2_17 : am_ins 2 17 = some (.getfield 9) := by decide +kernel
theorem i2_20 : am_ins 2 20 = some (.iload_n 1) := by decide +kernel
theorem i2_21 : am_ins 2 21 = some (.invokestatic 498) := by decide +kernel
theorem i2_24 : am_ins 2 24 = some (.ireturn) := by decide +kernel
theorem i3_0 : am_ins 3 0 = some (.getstatic 38) := by decide +kernel
theorem i3_3 : am_ins 3 3 = some (.ifCond .eq 14) := by decide +kernel
theorem i3_6 : am_ins 3 6 = some (.aload_n 0) := by decide +kernel
theorem i3_7 : am_ins 3 7 = some (.getfield 15) := by decide +kernel
theorem i3_10 : am_ins 3 10 = some (.ifCond .ne 7) := by decide +kernel
theorem i3_13 : am_ins 3 13 = some (.iconst 1) := by decide +kernel
theorem i3_14 : am_ins 3 14 = some (.goto 4) := by decide +kernel
theorem i3_17 : am_ins 3 17 = some (.iconst 0) := by decide +kernel
theorem i3_18 : am_ins 3 18 = some (.ireturn) := by decide +kernel
theorem i4_0 : am_ins 4 0 = some (.getstatic 38) := by decide +kernel
theorem i4_3 : am_ins 4 3 = some (.ifCond .eq 10) := by decide +kernel
theorem i4_6 : am_ins 4 6 = some (.aload_n 0) := by decide +kernel
theorem i4_7 : am_ins 4 7 = some (.getfield 15) := by decide +kernel
theorem i4_10 : am_ins 4 10 = some (.goto 4) := by decide +kernel
theorem i4_13 : am_ins 4 13 = some (.iconst 1) := by decide +kernel
theorem i4_14 : am_ins 4 14 = some (.ireturn) := by decide +kernel
theorem i5_0 : am_ins 5 0 = some (.iload_n 0) := by decide +kernel
theorem i5_1 : am_ins 5 1 = some (.iload_n 1) := by decide +kernel
theorem i5_2 : am_ins 5 2 = some (.getstatic 1053) := by decide +kernel
theorem i5_5 : am_ins 5 5 = some (.invokestatic 1059) := by decide +kernel
theorem i5_8 : am_ins 5 8 = some (.pop) := by decide +kernel
theorem i5_9 : am_ins 5 9 = some (.return_) := by decide +kernel
theorem i6_0 : am_ins 6 0 = some (.iload_n 1) := by decide +kernel
theorem i6_1 : am_ins 6 1 = some (.aload_n 0) := by decide +kernel
theorem i6_2 : am_ins 6 2 = some (.arraylength) := by decide +kernel
theorem i6_3 : am_ins 6 3 = some (.invokestatic 9) := by decide +kernel
theorem i6_6 : am_ins 6 6 = some (.aload_n 0) := by decide +kernel
theorem i6_7 : am_ins 6 7 = some (.iload_n 1) := by decide +kernel
theorem i6_8 : am_ins 6 8 = some (.baload) := by decide +kernel
theorem i6_9 : am_ins 6 9 = some (.sipush 255) := by decide +kernel
theorem i6_12 : am_ins 6 12 = some (.iand) := by decide +kernel
theorem i6_13 : am_ins 6 13 = some (.i2c) := by decide +kernel
theorem i6_14 : am_ins 6 14 = some (.ireturn) := by decide +kernel
theorem i7_0 : am_ins 7 0 = some (.iload_n 0) := by decide +kernel
theorem i7_1 : am_ins 7 1 = some (.ifCond .lt 8) := by decide +kernel
theorem i7_4 : am_ins 7 4 = some (.iload_n 0) := by decide +kernel
theorem i7_5 : am_ins 7 5 = some (.iload_n 1) := by decide +kernel
theorem i7_6 : am_ins 7 6 = some (.if_icmp .lt 10) := by decide +kernel
theorem i7_9 : am_ins 7 9 = some (.aload_n 2) := by decide +kernel
theorem i7_10 : am_ins 7 10 = some (.iload_n 0) := by decide +kernel
theorem i7_11 : am_ins 7 11 = some (.iload_n 1) := by decide +kernel
theorem i7_12 : am_ins 7 12 = some (.invokestatic 95) := by decide +kernel
theorem i7_16 : am_ins 7 16 = some (.iload_n 0) := by decide +kernel
theorem i7_17 : am_ins 7 17 = some (.ireturn) := by decide +kernel
theorem i8_0 : am_ins 8 0 = some (.aload_n 0) := by decide +kernel
theorem i8_1 : am_ins 8 1 = some (.invokespecial 3) := by decide +kernel
theorem i8_4 : am_ins 8 4 = some (.aload_n 0) := by decide +kernel
theorem i8_5 : am_ins 8 5 = some (.iconst 4) := by decide +kernel
theorem i8_6 : am_ins 8 6 = some (.newarray .int) := by decide +kernel
theorem i8_8 : am_ins 8 8 = some (.putfield 9) := by decide +kernel
theorem i8_11 : am_ins 8 11 = some (.aload_n 0) := by decide +kernel
theorem i8_12 : am_ins 8 12 = some (.iconst 4) := by decide +kernel
theorem i8_13 : am_ins 8 13 = some (.newarray .int) := by decide +kernel
theorem i8_15 : am_ins 8 15 = some (.putfield 15) := by decide +kernel
theorem i8_18 : am_ins 8 18 = some (.aload_n 0) := by decide +kernel
theorem i8_19 : am_ins 8 19 = some (.bipush 6) := by decide +kernel
theorem i8_21 : am_ins 8 21 = some (.newarray .int) := by decide +kernel
theorem i8_23 : am_ins 8 23 = some (.putfield 18) := by decide +kernel
theorem i8_26 : am_ins 8 26 = some (.aload_n 0) := by decide +kernel
theorem i8_27 : am_ins 8 27 = some (.bipush 6) := by decide +kernel
theorem i8_29 : am_ins 8 29 = some (.bipush 6) := by decide +kernel
theorem i8_31 : am_ins 8 31 = some (.multianewarray 21 2) := by decide +kernel
theorem i8_35 : am_ins 8 35 = some (.putfield 23) := by decide +kernel
theorem i8_38 : am_ins 8 38 = some (.return_) := by decide +kernel
theorem i9_0 : am_ins 9 0 = some (.iconst 0) := by decide +kernel
theorem i9_1 : am_ins 9 1 = some (.istore_n 3) := by decide +kernel
theorem i9_2 : am_ins 9 2 = some (.iload_n 3) := by decide +kernel
theorem i9_3 : am_ins 9 3 = some (.aload_n 0) := by decide +kernel
theorem i9_4 : am_ins 9 4 = some (.getfield 26) := by decide +kernel
theorem i9_7 : am_ins 9 7 = some (.if_icmp .ge 31) := by decide +kernel
theorem i9_10 : am_ins 9 10 = some (.aload_n 0) := by decide +kernel
theorem i9_11 : am_ins 9 11 = some (.getfield 9) := by decide +kernel
theorem i9_14 : am_ins 9 14 = some (.iload_n 3) := by decide +kernel
theorem i9_15 : am_ins 9 15 = some (.iaload) := by decide +kernel
theorem i9_16 : am_ins 9 16 = some (.iload_n 1) := by decide +kernel
theorem i9_17 : am_ins 9 17 = some (.if_icmp .ne 15) := by decide +kernel
theorem i9_20 : am_ins 9 20 = some (.aload_n 0) := by decide +kernel
theorem i9_21 : am_ins 9 21 = some (.getfield 15) := by decide +kernel
theorem i9_24 : am_ins 9 24 = some (.iload_n 3) := by decide +kernel
theorem i9_25 : am_ins 9 25 = some (.iaload) := by decide +kernel
theorem i9_26 : am_ins 9 26 = some (.iload_n 2) := by decide +kernel
theorem i9_27 : am_ins 9 27 = some (.if_icmp .ne 5) := by decide +kernel
theorem i9_30 : am_ins 9 30 = some (.iconst 1) := by decide +kernel
theorem i9_31 : am_ins 9 31 = some (.ireturn) := by decide +kernel
theorem i9_32 : am_ins 9 32 = some (.iinc 3 1) := by decide +kernel
theorem i9_35 : am_ins 9 35 = some (.goto (-33)) := by decide +kernel
theorem i9_38 : am_ins 9 38 = some (.iconst 0) := by decide +kernel
theorem i9_39 : am_ins 9 39 = some (.ireturn) := by decide +kernel
theorem i10_0 : am_ins 10 0 = some (.aload_n 0) := by decide +kernel
theorem i10_1 : am_ins 10 1 = some (.getfield 26) := by decide +kernel
theorem i10_4 : am_ins 10 4 = some (.iconst 4) := by decide +kernel
theorem i10_5 : am_ins 10 5 = some (.if_icmp .ge 33) := by decide +kernel
theorem i10_8 : am_ins 10 8 = some (.aload_n 0) := by decide +kernel
theorem i10_9 : am_ins 10 9 = some (.getfield 9) := by decide +kernel
theorem i10_12 : am_ins 10 12 = some (.aload_n 0) := by decide +kernel
theorem i10_13 : am_ins 10 13 = some (.getfield 26) := by decide +kernel
theorem i10_16 : am_ins 10 16 = some (.iload_n 1) := by decide +kernel
theorem i10_17 : am_ins 10 17 = some (.iastore) := by decide +kernel
theorem i10_18 : am_ins 10 18 = some (.aload_n 0) := by decide +kernel
theorem i10_19 : am_ins 10 19 = some (.getfield 15) := by decide +kernel
theorem i10_22 : am_ins 10 22 = some (.aload_n 0) := by decide +kernel
theorem i10_23 : am_ins 10 23 = some (.getfield 26) := by decide +kernel
theorem i10_26 : am_ins 10 26 = some (.iload_n 2) := by decide +kernel
theorem i10_27 : am_ins 10 27 = some (.iastore) := by decide +kernel
theorem i10_28 : am_ins 10 28 = some (.aload_n 0) := by decide +kernel
theorem i10_29 : am_ins 10 29 = some (.dup) := by decide +kernel
theorem i10_30 : am_ins 10 30 = some (.getfield 26) := by decide +kernel
theorem i10_33 : am_ins 10 33 = some (.iconst 1) := by decide +kernel
theorem i10_34 : am_ins 10 34 = some (.iadd) := by decide +kernel
theorem i10_35 : am_ins 10 35 = some (.putfield 26) := by decide +kernel
theorem i10_38 : am_ins 10 38 = some (.return_) := by decide +kernel
theorem i11_0 : am_ins 11 0 = some (.aload_n 0) := by decide +kernel
theorem i11_1 : am_ins 11 1 = some (.getfield 30) := by decide +kernel
theorem i11_4 : am_ins 11 4 = some (.bipush 6) := by decide +kernel
theorem i11_6 : am_ins 11 6 = some (.if_icmp .ge 23) := by decide +kernel
theorem i11_9 : am_ins 11 9 = some (.aload_n 0) := by decide +kernel
theorem i11_10 : am_ins 11 10 = some (.getfield 18) := by decide +kernel
theorem i11_13 : am_ins 11 13 = some (.aload_n 0) := by decide +kernel
theorem i11_14 : am_ins 11 14 = some (.getfield 30) := by decide +kernel
theorem i11_17 : am_ins 11 17 = some (.iconst 0) := by decide +kernel
theorem i11_18 : am_ins 11 18 = some (.iastore) := by decide +kernel
theorem i11_19 : am_ins 11 19 = some (.aload_n 0) := by decide +kernel
theorem i11_20 : am_ins 11 20 = some (.dup) := by decide +kernel
theorem i11_21 : am_ins 11 21 = some (.getfield 30) := by decide +kernel
theorem i11_24 : am_ins 11 24 = some (.iconst 1) := by decide +kernel
theorem i11_25 : am_ins 11 25 = some (.iadd) := by decide +kernel
theorem i11_26 : am_ins 11 26 = some (.putfield 30) := by decide +kernel
theorem i11_29 : am_ins 11 29 = some (.return_) := by decide +kernel
theorem i12_0 : am_ins 12 0 = some (.aload_n 0) := by decide +kernel
theorem i12_1 : am_ins 12 1 = some (.getfield 30) := by decide +kernel
theorem i12_4 : am_ins 12 4 = some (.iconst 1) := by decide +kernel
theorem i12_5 : am_ins 12 5 = some (.isub) := by decide +kernel
theorem i12_6 : am_ins 12 6 = some (.istore_n 2) := by decide +kernel
theorem i12_7 : am_ins 12 7 = some (.iload_n 2) := by decide +kernel
theorem i12_8 : am_ins 12 8 = some (.ifCond .lt 38) := by decide +kernel
theorem i12_11 : am_ins 12 11 = some (.aload_n 0) := by decide +kernel
theorem i12_12 : am_ins 12 12 = some (.getfield 18) := by decide +kernel
theorem i12_15 : am_ins 12 15 = some (.iload_n 2) := by decide +kernel
theorem i12_16 : am_ins 12 16 = some (.iaload) := by decide +kernel
theorem i12_17 : am_ins 12 17 = some (.bipush 6) := by decide +kernel
theorem i12_19 : am_ins 12 19 = some (.if_icmp .ge 27) := by decide +kernel
theorem i12_22 : am_ins 12 22 = some (.aload_n 0) := by decide +kernel
theorem i12_23 : am_ins 12 23 = some (.getfield 23) := by decide +kernel
theorem i12_26 : am_ins 12 26 = some (.iload_n 2) := by decide +kernel
theorem i12_27 : am_ins 12 27 = some (.aaload) := by decide +kernel
theorem i12_28 : am_ins 12 28 = some (.aload_n 0) := by decide +kernel
theorem i12_29 : am_ins 12 29 = some (.getfield 18) := by decide +kernel
theorem i12_32 : am_ins 12 32 = some (.iload_n 2) := by decide +kernel
theorem i12_33 : am_ins 12 33 = some (.iaload) := by decide +kernel
theorem i12_34 : am_ins 12 34 = some (.iload_n 1) := by decide +kernel
theorem i12_35 : am_ins 12 35 = some (.iastore) := by decide +kernel
theorem i12_36 : am_ins 12 36 = some (.aload_n 0) := by decide +kernel
theorem i12_37 : am_ins 12 37 = some (.getfield 18) := by decide +kernel
theorem i12_40 : am_ins 12 40 = some (.iload_n 2) := by decide +kernel
theorem i12_41 : am_ins 12 41 = some (.dup2) := by decide +kernel
theorem i12_42 : am_ins 12 42 = some (.iaload) := by decide +kernel
theorem i12_43 : am_ins 12 43 = some (.iconst 1) := by decide +kernel
theorem i12_44 : am_ins 12 44 = some (.iadd) := by decide +kernel
theorem i12_45 : am_ins 12 45 = some (.iastore) := by decide +kernel
theorem i12_46 : am_ins 12 46 = some (.return_) := by decide +kernel
theorem i13_0 : am_ins 13 0 = some (.aload_n 0) := by decide +kernel
theorem i13_1 : am_ins 13 1 = some (.aload_n 1) := by decide +kernel
theorem i13_2 : am_ins 13 2 = some (.getfield 26) := by decide +kernel
theorem i13_5 : am_ins 13 5 = some (.putfield 26) := by decide +kernel
theorem i13_8 : am_ins 13 8 = some (.aload_n 0) := by decide +kernel
theorem i13_9 : am_ins 13 9 = some (.aload_n 1) := by decide +kernel
theorem i13_10 : am_ins 13 10 = some (.getfield 30) := by decide +kernel
theorem i13_13 : am_ins 13 13 = some (.putfield 30) := by decide +kernel
theorem i13_16 : am_ins 13 16 = some (.aload_n 1) := by decide +kernel
theorem i13_17 : am_ins 13 17 = some (.getfield 9) := by decide +kernel
theorem i13_20 : am_ins 13 20 = some (.iconst 0) := by decide +kernel
theorem i13_21 : am_ins 13 21 = some (.aload_n 0) := by decide +kernel
theorem i13_22 : am_ins 13 22 = some (.getfield 9) := by decide +kernel
theorem i13_25 : am_ins 13 25 = some (.iconst 0) := by decide +kernel
theorem i13_26 : am_ins 13 26 = some (.iconst 4) := by decide +kernel
theorem i13_27 : am_ins 13 27 = some (.invokestatic 33) := by decide +kernel
theorem i13_30 : am_ins 13 30 = some (.aload_n 1) := by decide +kernel
theorem i13_31 : am_ins 13 31 = some (.getfield 15) := by decide +kernel
theorem i13_34 : am_ins 13 34 = some (.iconst 0) := by decide +kernel
theorem i13_35 : am_ins 13 35 = some (.aload_n 0) := by decide +kernel
theorem i13_36 : am_ins 13 36 = some (.getfield 15) := by decide +kernel
theorem i13_39 : am_ins 13 39 = some (.iconst 0) := by decide +kernel
theorem i13_40 : am_ins 13 40 = some (.iconst 4) := by decide +kernel
theorem i13_41 : am_ins 13 41 = some (.invokestatic 33) := by decide +kernel
theorem i13_44 : am_ins 13 44 = some (.aload_n 1) := by decide +kernel
theorem i13_45 : am_ins 13 45 = some (.getfield 18) := by decide +kernel
theorem i13_48 : am_ins 13 48 = some (.iconst 0) := by decide +kernel
theorem i13_49 : am_ins 13 49 = some (.aload_n 0) := by decide +kernel
theorem i13_50 : am_ins 13 50 = some (.getfield 18) := by decide +kernel
theorem i13_53 : am_ins 13 53 = some (.iconst 0) := by decide +kernel
theorem i13_54 : am_ins 13 54 = some (.bipush 6) := by decide +kernel
theorem i13_56 : am_ins 13 56 = some (.invokestatic 33) := by decide +kernel
theorem i13_59 : am_ins 13 59 = some (.iconst 0) := by decide +kernel
theorem i13_60 : am_ins 13 60 = some (.istore_n 2) := by decide +kernel
theorem i13_61 : am_ins 13 61 = some (.iload_n 2) := by decide +kernel
theorem i13_62 : am_ins 13 62 = some (.bipush 6) := by decide +kernel
theorem i13_64 : am_ins 13 64 = some (.if_icmp .ge 28) := by decide +kernel
theorem i13_67 : am_ins 13 67 = some (.aload_n 1) := by decide +kernel
theorem i13_68 : am_ins 13 68 = some (.getfield 23) := by decide +kernel
theorem i13_71 : am_ins 13 71 = some (.iload_n 2) := by decide +kernel
theorem i13_72 : am_ins 13 72 = some (.aaload) := by decide +kernel
theorem i13_73 : am_ins 13 73 = some (.iconst 0) := by decide +kernel
theorem i13_74 : am_ins 13 74 = some (.aload_n 0) := by decide +kernel
theorem i13_75 : am_ins 13 75 = some (.getfield 23) := by decide +kernel
theorem i13_78 : am_ins 13 78 = some (.iload_n 2) := by decide +kernel
theorem i13_79 : am_ins 13 79 = some (.aaload) := by decide +kernel
theorem i13_80 : am_ins 13 80 = some (.iconst 0) := by decide +kernel
theorem i13_81 : am_ins 13 81 = some (.bipush 6) := by decide +kernel
theorem i13_83 : am_ins 13 83 = some (.invokestatic 33) := by decide +kernel
theorem i13_86 : am_ins 13 86 = some (.iinc 2 1) := by decide +kernel
theorem i13_89 : am_ins 13 89 = some (.goto (-28)) := by decide +kernel
theorem i13_92 : am_ins 13 92 = some (.return_) := by decide +kernel
theorem i14_0 : am_ins 14 0 = some (.aload_n 0) := by decide +kernel
theorem i14_1 : am_ins 14 1 = some (.invokespecial 3) := by decide +kernel
theorem i14_4 : am_ins 14 4 = some (.aload_n 0) := by decide +kernel
theorem i14_5 : am_ins 14 5 = some (.iconst 2) := by decide +kernel
theorem i14_6 : am_ins 14 6 = some (.newarray .int) := by decide +kernel
theorem i14_8 : am_ins 14 8 = some (.putfield 9) := by decide +kernel
theorem i14_11 : am_ins 14 11 = some (.aload_n 0) := by decide +kernel
theorem i14_12 : am_ins 14 12 = some (.iconst 5) := by decide +kernel
theorem i14_13 : am_ins 14 13 = some (.bipush 80) := by decide +kernel
theorem i14_15 : am_ins 14 15 = some (.multianewarray 15 2) := by decide +kernel
theorem i14_19 : am_ins 14 19 = some (.putfield 17) := by decide +kernel
theorem i14_22 : am_ins 14 22 = some (.aload_n 0) := by decide +kernel
theorem i14_23 : am_ins 14 23 = some (.bipush 8) := by decide +kernel
theorem i14_25 : am_ins 14 25 = some (.bipush 16) := by decide +kernel
theorem i14_27 : am_ins 14 27 = some (.multianewarray 15 2) := by decide +kernel
theorem i14_31 : am_ins 14 31 = some (.putfield 20) := by decide +kernel
theorem i14_34 : am_ins 14 34 = some (.aload_n 0) := by decide +kernel
theorem i14_35 : am_ins 14 35 = some (.sipush 201) := by decide +kernel
theorem i14_38 : am_ins 14 38 = some (.newarray .int) := by decide +kernel
theorem i14_40 : am_ins 14 40 = some (.putfield 23) := by decide +kernel
theorem i14_43 : am_ins 14 43 = some (.aload_n 0) := by decide +kernel
theorem i14_44 : am_ins 14 44 = some (.iconst 4) := by decide +kernel
theorem i14_45 : am_ins 14 45 = some (.bipush 60) := by decide +kernel
theorem i14_47 : am_ins 14 47 = some (.multianewarray 15 2) := by decide +kernel
theorem i14_51 : am_ins 14 51 = some (.putfield 26) := by decide +kernel
theorem i14_54 : am_ins 14 54 = some (.aload_n 0) := by decide +kernel
theorem i14_55 : am_ins 14 55 = some (.bipush 8) := by decide +kernel
theorem i14_57 : am_ins 14 57 = some (.newarray .int) := by decide +kernel
theorem i14_59 : am_ins 14 59 = some (.putfield 29) := by decide +kernel
theorem i14_62 : am_ins 14 62 = some (.return_) := by decide +kernel
theorem i15_0 : am_ins 15 0 = some (.aload_n 0) := by decide +kernel
theorem i15_1 : am_ins 15 1 = some (.getfield 36) := by decide +kernel
theorem i15_4 : am_ins 15 4 = some (.bipush 80) := by decide +kernel
theorem i15_6 : am_ins 15 6 = some (.if_icmp .lt 5) := by decide +kernel
theorem i15_9 : am_ins 15 9 = some (.iconst (-1)) := by decide +kernel
theorem i15_10 : am_ins 15 10 = some (.ireturn) := by decide +kernel
theorem i15_11 : am_ins 15 11 = some (.aload_n 0) := by decide +kernel
theorem i15_12 : am_ins 15 12 = some (.getfield 36) := by decide +kernel
theorem i15_15 : am_ins 15 15 = some (.istore_n 3) := by decide +kernel
theorem i15_16 : am_ins 15 16 = some (.aload_n 0) := by decide +kernel
theorem i15_17 : am_ins 15 17 = some (.getfield 17) := by decide +kernel
theorem i15_20 : am_ins 15 20 = some (.iconst 0) := by decide +kernel
theorem i15_21 : am_ins 15 21 = some (.aaload) := by decide +kernel
theorem i15_22 : am_ins 15 22 = some (.iload_n 3) := by decide +kernel
theorem i15_23 : am_ins 15 23 = some (.iload_n 1) := by decide +kernel
theorem i15_24 : am_ins 15 24 = some (.iastore) := by decide +kernel
theorem i15_25 : am_ins 15 25 = some (.aload_n 0) := by decide +kernel
theorem i15_26 : am_ins 15 26 = some (.getfield 17) := by decide +kernel
theorem i15_29 : am_ins 15 29 = some (.iconst 1) := by decide +kernel
theorem i15_30 : am_ins 15 30 = some (.aaload) := by decide +kernel
theorem i15_31 : am_ins 15 31 = some (.iload_n 3) := by decide +kernel
theorem i15_32 : am_ins 15 32 = some (.iload_n 2) := by decide +kernel
theorem i15_33 : am_ins 15 33 = some (.iastore) := by decide +kernel
theorem i15_34 : am_ins 15 34 = some (.aload_n 0) := by decide +kernel
theorem i15_35 : am_ins 15 35 = some (.getfield 17) := by decide +kernel
theorem i15_38 : am_ins 15 38 = some (.iconst 2) := by decide +kernel
theorem i15_39 : am_ins 15 39 = some (.aaload) := by decide +kernel
theorem i15_40 : am_ins 15 40 = some (.iload_n 3) := by decide +kernel
theorem i15_41 : am_ins 15 41 = some (.iconst 0) := by decide +kernel
theorem i15_42 : am_ins 15 42 = some (.iastore) := by decide +kernel
theorem i15_43 : am_ins 15 43 = some (.aload_n 0) := by decide +kernel
theorem i15_44 : am_ins 15 44 = some (.getfield 17) := by decide +kernel
theorem i15_47 : am_ins 15 47 = some (.iconst 3) := by decide +kernel
theorem i15_48 : am_ins 15 48 = some (.aaload) := by decide +kernel
theorem i15_49 : am_ins 15 49 = some (.iload_n 3) := by decide +kernel
theorem i15_50 : am_ins 15 50 = some (.iconst 0) := by decide +kernel
theorem i15_51 : am_ins 15 51 = some (.iastore) := by decide +kernel
theorem i15_52 : am_ins 15 52 = some (.aload_n 0) := by decide +kernel
theorem i15_53 : am_ins 15 53 = some (.getfield 17) := by decide +kernel
theorem i15_56 : am_ins 15 56 = some (.iconst 4) := by decide +kernel
theorem i15_57 : am_ins 15 57 = some (.aaload) := by decide +kernel
theorem i15_58 : am_ins 15 58 = some (.iload_n 3) := by decide +kernel
theorem i15_59 : am_ins 15 59 = some (.iconst 0) := by decide +kernel
theorem i15_60 : am_ins 15 60 = some (.iastore) := by decide +kernel
theorem i15_61 : am_ins 15 61 = some (.aload_n 0) := by decide +kernel
theorem i15_62 : am_ins 15 62 = some (.dup) := by decide +kernel
theorem i15_63 : am_ins 15 63 = some (.getfield 36) := by decide +kernel
theorem i15_66 : am_ins 15 66 = some (.iconst 1) := by decide +kernel
theorem i15_67 : am_ins 15 67 = some (.iadd) := by decide +kernel
theorem i15_68 : am_ins 15 68 = some (.putfield 36) := by decide +kernel
theorem i15_71 : am_ins 15 71 = some (.iload_n 3) := by decide +kernel
theorem i15_72 : am_ins 15 72 = some (.ireturn) := by decide +kernel
theorem i16_0 : am_ins 16 0 = some (.aload_n 0) := by decide +kernel
theorem i16_1 : am_ins 16 1 = some (.getfield 39) := by decide +kernel
theorem i16_4 : am_ins 16 4 = some (.bipush 16) := by decide +kernel
theorem i16_6 : am_ins 16 6 = some (.if_icmp .lt 5) := by decide +kernel
theorem i16_9 : am_ins 16 9 = some (.iconst (-1)) := by decide +kernel
theorem i16_10 : am_ins 16 10 = some (.ireturn) := by decide +kernel
theorem i16_11 : am_ins 16 11 = some (.aload_n 0) := by decide +kernel
theorem i16_12 : am_ins 16 12 = some (.getfield 39) := by decide +kernel
theorem i16_15 : am_ins 16 15 = some (.istore 5) := by decide +kernel
theorem i16_17 : am_ins 16 17 = some (.aload_n 0) := by decide +kernel
theorem i16_18 : am_ins 16 18 = some (.getfield 20) := by decide +kernel
theorem i16_21 : am_ins 16 21 = some (.iconst 0) := by decide +kernel
theorem i16_22 : am_ins 16 22 = some (.aaload) := by decide +kernel
theorem i16_23 : am_ins 16 23 = some (.iload 5) := by decide +kernel
theorem i16_25 : am_ins 16 25 = some (.iload_n 1) := by decide +kernel
theorem i16_26 : am_ins 16 26 = some (.iastore) := by decide +kernel
theorem i16_27 : am_ins 16 27 = some (.aload_n 0) := by decide +kernel
theorem i16_28 : am_ins 16 28 = some (.getfield 20) := by decide +kernel
theorem i16_31 : am_ins 16 31 = some (.iconst 1) := by decide +kernel
theorem i16_32 : am_ins 16 32 = some (.aaload) := by decide +kernel
theorem i16_33 : am_ins 16 33 = some (.iload 5) := by decide +kernel
theorem i16_35 : am_ins 16 35 = some (.iload_n 2) := by decide +kernel
theorem i16_36 : am_ins 16 36 = some (.iastore) := by decide +kernel
theorem i16_37 : am_ins 16 37 = some (.aload_n 0) := by decide +kernel
theorem i16_38 : am_ins 16 38 = some (.getfield 20) := by decide +kernel
theorem i16_41 : am_ins 16 41 = some (.iconst 2) := by decide +kernel
theorem i16_42 : am_ins 16 42 = some (.aaload) := by decide +kernel
theorem i16_43 : am_ins 16 43 = some (.iload 5) := by decide +kernel
theorem i16_45 : am_ins 16 45 = some (.iload_n 3) := by decide +kernel
theorem i16_46 : am_ins 16 46 = some (.iastore) := by decide +kernel
theorem i16_47 : am_ins 16 47 = some (.aload_n 0) := by decide +kernel
theorem i16_48 : am_ins 16 48 = some (.getfield 20) := by decide +kernel
theorem i16_51 : am_ins 16 51 = some (.iconst 3) := by decide +kernel
theorem i16_52 : am_ins 16 52 = some (.aaload) := by decide +kernel
theorem i16_53 : am_ins 16 53 = some (.iload 5) := by decide +kernel
theorem i16_55 : am_ins 16 55 = some (.iload 4) := by decide +kernel
theorem i16_57 : am_ins 16 57 = some (.iastore) := by decide +kernel
theorem i16_58 : am_ins 16 58 = some (.aload_n 0) := by decide +kernel
theorem i16_59 : am_ins 16 59 = some (.getfield 20) := by decide +kernel
theorem i16_62 : am_ins 16 62 = some (.iconst 4) := by decide +kernel
theorem i16_63 : am_ins 16 63 = some (.aaload) := by decide +kernel
theorem i16_64 : am_ins 16 64 = some (.iload 5) := by decide +kernel
theorem i16_66 : am_ins 16 66 = some (.iload_n 2) := by decide +kernel
theorem i16_67 : am_ins 16 67 = some (.iastore) := by decide +kernel
theorem i16_68 : am_ins 16 68 = some (.aload_n 0) := by decide +kernel
theorem i16_69 : am_ins 16 69 = some (.getfield 20) := by decide +kernel
theorem i16_72 : am_ins 16 72 = some (.iconst 5) := by decide +kernel
theorem i16_73 : am_ins 16 73 = some (.aaload) := by decide +kernel
theorem i16_74 : am_ins 16 74 = some (.iload 5) := by decide +kernel
theorem i16_76 : am_ins 16 76 = some (.iconst 0) := by decide +kernel
theorem i16_77 : am_ins 16 77 = some (.iastore) := by decide +kernel
theorem i16_78 : am_ins 16 78 = some (.aload_n 0) := by decide +kernel
theorem i16_79 : am_ins 16 79 = some (.getfield 20) := by decide +kernel
theorem i16_82 : am_ins 16 82 = some (.bipush 6) := by decide +kernel
theorem i16_84 : am_ins 16 84 = some (.aaload) := by decide +kernel
theorem i16_85 : am_ins 16 85 = some (.iload 5) := by decide +kernel
theorem i16_87 : am_ins 16 87 = some (.iconst 0) := by decide +kernel
theorem i16_88 : am_ins 16 88 = some (.iastore) := by decide +kernel
theorem i16_89 : am_ins 16 89 = some (.aload_n 0) := by decide +kernel
theorem i16_90 : am_ins 16 90 = some (.getfield 20) := by decide +kernel
theorem i16_93 : am_ins 16 93 = some (.bipush 7) := by decide +kernel
theorem i16_95 : am_ins 16 95 = some (.aaload) := by decide +kernel
theorem i16_96 : am_ins 16 96 = some (.iload 5) := by decide +kernel
theorem i16_98 : am_ins 16 98 = some (.iconst 0) := by decide +kernel
theorem i16_99 : am_ins 16 99 = some (.iastore) := by decide +kernel
theorem i16_100 : am_ins 16 100 = some (.aload_n 0) := by decide +kernel
theorem i16_101 : am_ins 16 101 = some (.dup) := by decide +kernel
theorem i16_102 : am_ins 16 102 = some (.getfield 39) := by decide +kernel
theorem i16_105 : am_ins 16 105 = some (.iconst 1) := by decide +kernel
theorem i16_106 : am_ins 16 106 = some (.iadd) := by decide +kernel
theorem i16_107 : am_ins 16 107 = some (.putfield 39) := by decide +kernel
theorem i16_110 : am_ins 16 110 = some (.iload 5) := by decide +kernel
theorem i16_112 : am_ins 16 112 = some (.ireturn) := by decide +kernel
theorem i17_0 : am_ins 17 0 = some (.aload_n 0) := by decide +kernel
theorem i17_1 : am_ins 17 1 = some (.aload_n 1) := by decide +kernel
theorem i17_2 : am_ins 17 2 = some (.getfield 32) := by decide +kernel
theorem i17_5 : am_ins 17 5 = some (.putfield 32) := by decide +kernel
theorem i17_8 : am_ins 17 8 = some (.aload_n 0) := by decide +kernel
theorem i17_9 : am_ins 17 9 = some (.aload_n 1) := by decide +kernel
theorem i17_10 : am_ins 17 10 = some (.getfield 36) := by decide +kernel
theorem i17_13 : am_ins 17 13 = some (.putfield 36) := by decide +kernel
theorem i17_16 : am_ins 17 16 = some (.aload_n 0) := by decide +kernel
theorem i17_17 : am_ins 17 17 = some (.aload_n 1) := by decide +kernel
theorem i17_18 : am_ins 17 18 = some (.getfield 39) := by decide +kernel
theorem i17_21 : am_ins 17 21 = some (.putfield 39) := by decide +kernel
theorem i17_24 : am_ins 17 24 = some (.aload_n 0) := by decide +kernel
theorem i17_25 : am_ins 17 25 = some (.aload_n 1) := by decide +kernel
theorem i17_26 : am_ins 17 26 = some (.getfield 42) := by decide +kernel
theorem i17_29 : am_ins 17 29 = some (.putfield 42) := by decide +kernel
theorem i17_32 : am_ins 17 32 = some (.aload_n 1) := by decide +kernel
theorem i17_33 : am_ins 17 33 = some (.getfield 9) := by decide +kernel
theorem i17_36 : am_ins 17 36 = some (.iconst 0) := by decide +kernel
theorem i17_37 : am_ins 17 37 = some (.aload_n 0) := by decide +kernel
theorem i17_38 : am_ins 17 38 = some (.getfield 9) := by decide +kernel
theorem i17_41 : am_ins 17 41 = some (.iconst 0) := by decide +kernel
theorem i17_42 : am_ins 17 42 = some (.iconst 2) := by decide +kernel
theorem i17_43 : am_ins 17 43 = some (.invokestatic 45) := by decide +kernel
theorem i17_46 : am_ins 17 46 = some (.aload_n 1) := by decide +kernel
theorem i17_47 : am_ins 17 47 = some (.getfield 23) := by decide +kernel
theorem i17_50 : am_ins 17 50 = some (.iconst 0) := by decide +kernel
theorem i17_51 : am_ins 17 51 = some (.aload_n 0) := by decide +kernel
theorem i17_52 : am_ins 17 52 = some (.getfield 23) := by decide +kernel
theorem i17_55 : am_ins 17 55 = some (.iconst 0) := by decide +kernel
theorem i17_56 : am_ins 17 56 = some (.sipush 201) := by decide +kernel
theorem i17_59 : am_ins 17 59 = some (.invokestatic 45) := by decide +kernel
theorem i17_62 : am_ins 17 62 = some (.aload_n 1) := by decide +kernel
theorem i17_63 : am_ins 17 63 = some (.getfield 29) := by decide +kernel
theorem i17_66 : am_ins 17 66 = some (.iconst 0) := by decide +kernel
theorem i17_67 : am_ins 17 67 = some (.aload_n 0) := by decide +kernel
theorem i17_68 : am_ins 17 68 = some (.getfield 29) := by decide +kernel
theorem i17_71 : am_ins 17 71 = some (.iconst 0) := by decide +kernel
theorem i17_72 : am_ins 17 72 = some (.bipush 8) := by decide +kernel
theorem i17_74 : am_ins 17 74 = some (.invokestatic 45) := by decide +kernel
theorem i17_77 : am_ins 17 77 = some (.iconst 0) := by decide +kernel
theorem i17_78 : am_ins 17 78 = some (.istore_n 2) := by decide +kernel
theorem i17_79 : am_ins 17 79 = some (.iload_n 2) := by decide +kernel
theorem i17_80 : am_ins 17 80 = some (.iconst 5) := by decide +kernel
theorem i17_81 : am_ins 17 81 = some (.if_icmp .ge 30) := by decide +kernel
theorem i17_84 : am_ins 17 84 = some (.aload_n 1) := by decide +kernel
theorem i17_85 : am_ins 17 85 = some (.getfield 17) := by decide +kernel
theorem i17_88 : am_ins 17 88 = some (.iload_n 2) := by decide +kernel
theorem i17_89 : am_ins 17 89 = some (.aaload) := by decide +kernel
theorem i17_90 : am_ins 17 90 = some (.iconst 0) := by decide +kernel
theorem i17_91 : am_ins 17 91 = some (.aload_n 0) := by decide +kernel
theorem i17_92 : am_ins 17 92 = some (.getfield 17) := by decide +kernel
theorem i17_95 : am_ins 17 95 = some (.iload_n 2) := by decide +kernel
theorem i17_96 : am_ins 17 96 = some (.aaload) := by decide +kernel
theorem i17_97 : am_ins 17 97 = some (.iconst 0) := by decide +kernel
theorem i17_98 : am_ins 17 98 = some (.aload_n 0) := by decide +kernel
theorem i17_99 : am_ins 17 99 = some (.getfield 36) := by decide +kernel
theorem i17_102 : am_ins 17 102 = some (.invokestatic 45) := by decide +kernel
theorem i17_105 : am_ins 17 105 = some (.iinc 2 1) := by decide +kernel
theorem i17_108 : am_ins 17 108 = some (.goto (-29)) := by decide +kernel
theorem i17_111 : am_ins 17 111 = some (.iconst 0) := by decide +kernel
theorem i17_112 : am_ins 17 112 = some (.istore_n 2) := by decide +kernel
theorem i17_113 : am_ins 17 113 = some (.iload_n 2) := by decide +kernel
theorem i17_114 : am_ins 17 114 = some (.bipush 8) := by decide +kernel
theorem i17_116 : am_ins 17 116 = some (.if_icmp .ge 30) := by decide +kernel
theorem i17_119 : am_ins 17 119 = some (.aload_n 1) := by decide +kernel
theorem i17_120 : am_ins 17 120 = some (.getfield 20) := by decide +kernel
theorem i17_123 : am_ins 17 123 = some (.iload_n 2) := by decide +kernel
theorem i17_124 : am_ins 17 124 = some (.aaload) := by decide +kernel
theorem i17_125 : am_ins 17 125 = some (.iconst 0) := by decide +kernel
theorem i17_126 : am_ins 17 126 = some (.aload_n 0) := by decide +kernel
theorem i17_127 : am_ins 17 127 = some (.getfield 20) := by decide +kernel
theorem i17_130 : am_ins 17 130 = some (.iload_n 2) := by decide +kernel
theorem i17_131 : am_ins 17 131 = some (.aaload) := by decide +kernel
theorem i17_132 : am_ins 17 132 = some (.iconst 0) := by decide +kernel
theorem i17_133 : am_ins 17 133 = some (.aload_n 0) := by decide +kernel
theorem i17_134 : am_ins 17 134 = some (.getfield 39) := by decide +kernel
theorem i17_137 : am_ins 17 137 = some (.invokestatic 45) := by decide +kernel
theorem i17_140 : am_ins 17 140 = some (.iinc 2 1) := by decide +kernel
theorem i17_143 : am_ins 17 143 = some (.goto (-30)) := by decide +kernel
theorem i17_146 : am_ins 17 146 = some (.iconst 0) := by decide +kernel
theorem i17_147 : am_ins 17 147 = some (.istore_n 2) := by decide +kernel
theorem i17_148 : am_ins 17 148 = some (.iload_n 2) := by decide +kernel
theorem i17_149 : am_ins 17 149 = some (.iconst 4) := by decide +kernel
theorem i17_150 : am_ins 17 150 = some (.if_icmp .ge 30) := by decide +kernel
theorem i17_153 : am_ins 17 153 = some (.aload_n 1) := by decide +kernel
theorem i17_154 : am_ins 17 154 = some (.getfield 26) := by decide +kernel
theorem i17_157 : am_ins 17 157 = some (.iload_n 2) := by decide +kernel
theorem i17_158 : am_ins 17 158 = some (.aaload) := by decide +kernel
theorem i17_159 : am_ins 17 159 = some (.iconst 0) := by decide +kernel
theorem i17_160 : am_ins 17 160 = some (.aload_n 0) := by decide +kernel
theorem i17_161 : am_ins 17 161 = some (.getfield 26) := by decide +kernel
theorem i17_164 : am_ins 17 164 = some (.iload_n 2) := by decide +kernel
theorem i17_165 : am_ins 17 165 = some (.aaload) := by decide +kernel
theorem i17_166 : am_ins 17 166 = some (.iconst 0) := by decide +kernel
theorem i17_167 : am_ins 17 167 = some (.aload_n 0) := by decide +kernel
theorem i17_168 : am_ins 17 168 = some (.getfield 42) := by decide +kernel
theorem i17_171 : am_ins 17 171 = some (.invokestatic 45) := by decide +kernel
theorem i17_174 : am_ins 17 174 = some (.iinc 2 1) := by decide +kernel
theorem i17_177 : am_ins 17 177 = some (.goto (-29)) := by decide +kernel
theorem i17_180 : am_ins 17 180 = some (.return_) := by decide +kernel
theorem i18_0 : am_ins 18 0 = some (.iconst 0) := by decide +kernel
theorem i18_1 : am_ins 18 1 = some (.istore_n 1) := by decide +kernel
theorem i18_2 : am_ins 18 2 = some (.iconst 0) := by decide +kernel
theorem i18_3 : am_ins 18 3 = some (.istore_n 2) := by decide +kernel
theorem i18_4 : am_ins 18 4 = some (.iload_n 2) := by decide +kernel
theorem i18_5 : am_ins 18 5 = some (.aload_n 0) := by decide +kernel
theorem i18_6 : am_ins 18 6 = some (.getfield 36) := by decide +kernel
theorem i18_9 : am_ins 18 9 = some (.if_icmp .ge 23) := by decide +kernel
theorem i18_12 : am_ins 18 12 = some (.aload_n 0) := by decide +kernel
theorem i18_13 : am_ins 18 13 = some (.getfield 17) := by decide +kernel
theorem i18_16 : am_ins 18 16 = some (.iconst 2) := by decide +kernel
theorem i18_17 : am_ins 18 17 = some (.aaload) := by decide +kernel
theorem i18_18 : am_ins 18 18 = some (.iload_n 2) := by decide +kernel
theorem i18_19 : am_ins 18 19 = some (.iaload) := by decide +kernel
theorem i18_20 : am_ins 18 20 = some (.ifCond .ne 6) := by decide +kernel
theorem i18_23 : am_ins 18 23 = some (.iinc 1 1) := by decide +kernel
theorem i18_26 : am_ins 18 26 = some (.iinc 2 1) := by decide +kernel
theorem i18_29 : am_ins 18 29 = some (.goto (-25)) := by decide +kernel
theorem i18_32 : am_ins 18 32 = some (.iload_n 1) := by decide +kernel
theorem i18_33 : am_ins 18 33 = some (.ireturn) := by decide +kernel
theorem i19_0 : am_ins 19 0 = some (.iconst 0) := by decide +kernel
theorem i19_1 : am_ins 19 1 = some (.istore_n 1) := by decide +kernel
theorem i19_2 : am_ins 19 2 = some (.iconst 0) := by decide +kernel
theorem i19_3 : am_ins 19 3 = some (.istore_n 2) := by decide +kernel
theorem i19_4 : am_ins 19 4 = some (.iload_n 2) := by decide +kernel
theorem i19_5 : am_ins 19 5 = some (.aload_n 0) := by decide +kernel
theorem i19_6 : am_ins 19 6 = some (.getfield 39) := by decide +kernel
theorem i19_9 : am_ins 19 9 = some (.if_icmp .ge 23) := by decide +kernel
theorem i19_12 : am_ins 19 12 = some (.aload_n 0) := by decide +kernel
theorem i19_13 : am_ins 19 13 = some (.getfield 20) := by decide +kernel
theorem i19_16 : am_ins 19 16 = some (.iconst 4) := by decide +kernel
theorem i19_17 : am_ins 19 17 = some (.aaload) := by decide +kernel
theorem i19_18 : am_ins 19 18 = some (.iload_n 2) := by decide +kernel
theorem i19_19 : am_ins 19 19 = some (.iaload) := by decide +kernel
theorem i19_20 : am_ins 19 20 = some (.ifCond .le 6) := by decide +kernel
theorem i19_23 : am_ins 19 23 = some (.iinc 1 1) := by decide +kernel
theorem i19_26 : am_ins 19 26 = some (.iinc 2 1) := by decide +kernel
theorem i19_29 : am_ins 19 29 = some (.goto (-25)) := by decide +kernel
theorem i19_32 : am_ins 19 32 = some (.iload_n 1) := by decide +kernel
theorem i19_33 : am_ins 19 33 = some (.ireturn) := by decide +kernel
theorem i20_0 : am_ins 20 0 = some (.iconst 0) := by decide +kernel
theorem i20_1 : am_ins 20 1 = some (.istore_n 1) := by decide +kernel
theorem i20_2 : am_ins 20 2 = some (.iconst 0) := by decide +kernel
theorem i20_3 : am_ins 20 3 = some (.istore_n 2) := by decide +kernel
theorem i20_4 : am_ins 20 4 = some (.iload_n 2) := by decide +kernel
theorem i20_5 : am_ins 20 5 = some (.aload_n 0) := by decide +kernel
theorem i20_6 : am_ins 20 6 = some (.getfield 39) := by decide +kernel
theorem i20_9 : am_ins 20 9 = some (.if_icmp .ge 20) := by decide +kernel
theorem i20_12 : am_ins 20 12 = some (.iload_n 1) := by decide +kernel
theorem i20_13 : am_ins 20 13 = some (.aload_n 0) := by decide +kernel
theorem i20_14 : am_ins 20 14 = some (.getfield 20) := by decide +kernel
theorem i20_17 : am_ins 20 17 = some (.iconst 4) := by decide +kernel
theorem i20_18 : am_ins 20 18 = some (.aaload) := by decide +kernel
theorem i20_19 : am_ins 20 19 = some (.iload_n 2) := by decide +kernel
theorem i20_20 : am_ins 20 20 = some (.iaload) := by decide +kernel
theorem i20_21 : am_ins 20 21 = some (.iadd) := by decide +kernel
theorem i20_22 : am_ins 20 22 = some (.istore_n 1) := by decide +kernel
theorem i20_23 : am_ins 20 23 = some (.iinc 2 1) := by decide +kernel
theorem i20_26 : am_ins 20 26 = some (.goto (-22)) := by decide +kernel
theorem i20_29 : am_ins 20 29 = some (.iload_n 1) := by decide +kernel
theorem i20_30 : am_ins 20 30 = some (.ireturn) := by decide +kernel
theorem i21_0 : am_ins 21 0 = some (.iconst 0) := by decide +kernel
theorem i21_1 : am_ins 21 1 = some (.istore_n 1) := by decide +kernel
theorem i21_2 : am_ins 21 2 = some (.iconst 1) := by decide +kernel
theorem i21_3 : am_ins 21 3 = some (.istore_n 2) := by decide +kernel
theorem i21_4 : am_ins 21 4 = some (.iload_n 2) := by decide +kernel
theorem i21_5 : am_ins 21 5 = some (.sipush 200) := by decide +kernel
theorem i21_8 : am_ins 21 8 = some (.if_icmp .gt 18) := by decide +kernel
theorem i21_11 : am_ins 21 11 = some (.iload_n 1) := by decide +kernel
theorem i21_12 : am_ins 21 12 = some (.aload_n 0) := by decide +kernel
theorem i21_13 : am_ins 21 13 = some (.getfield 23) := by decide +kernel
theorem i21_16 : am_ins 21 16 = some (.iload_n 2) := by decide +kernel
theorem i21_17 : am_ins 21 17 = some (.iaload) := by decide +kernel
theorem i21_18 : am_ins 21 18 = some (.iadd) := by decide +kernel
theorem i21_19 : am_ins 21 19 = some (.istore_n 1) := by decide +kernel
theorem i21_20 : am_ins 21 20 = some (.iinc 2 1) := by decide +kernel
theorem i21_23 : am_ins 21 23 = some (.goto (-19)) := by decide +kernel
theorem i21_26 : am_ins 21 26 = some (.iload_n 1) := by decide +kernel
theorem i21_27 : am_ins 21 27 = some (.ireturn) := by decide +kernel
theorem i22_0 : am_ins 22 0 = some (.iconst 0) := by decide +kernel
theorem i22_1 : am_ins 22 1 = some (.istore_n 2) := by decide +kernel
theorem i22_2 : am_ins 22 2 = some (.iconst 0) := by decide +kernel
theorem i22_3 : am_ins 22 3 = some (.istore_n 3) := by decide +kernel
theorem i22_4 : am_ins 22 4 = some (.iload_n 3) := by decide +kernel
theorem i22_5 : am_ins 22 5 = some (.aload_n 0) := by decide +kernel
theorem i22_6 : am_ins 22 6 = some (.getfield 39) := by decide +kernel
theorem i22_9 : am_ins 22 9 = some (.if_icmp .ge 32) := by decide +kernel
theorem i22_12 : am_ins 22 12 = some (.aload_n 0) := by decide +kernel
theorem i22_13 : am_ins 22 13 = some (.getfield 20) := by decide +kernel
theorem i22_16 : am_ins 22 16 = some (.iconst 0) := by decide +kernel
theorem i22_17 : am_ins 22 17 = some (.aaload) := by decide +kernel
theorem i22_18 : am_ins 22 18 = some (.iload_n 3) := by decide +kernel
theorem i22_19 : am_ins 22 19 = some (.iaload) := by decide +kernel
theorem i22_20 : am_ins 22 20 = some (.iload_n 1) := by decide +kernel
theorem i22_21 : am_ins 22 21 = some (.if_icmp .ne 14) := by decide +kernel
theorem i22_24 : am_ins 22 24 = some (.iload_n 2) := by decide +kernel
theorem i22_25 : am_ins 22 25 = some (.aload_n 0) := by decide +kernel
theorem i22_26 : am_ins 22 26 = some (.getfield 20) := by decide +kernel
theorem i22_29 : am_ins 22 29 = some (.iconst 4) := by decide +kernel
theorem i22_30 : am_ins 22 30 = some (.aaload) := by decide +kernel
theorem i22_31 : am_ins 22 31 = some (.iload_n 3) := by decide +kernel
theorem i22_32 : am_ins 22 32 = some (.iaload) := by decide +kernel
theorem i22_33 : am_ins 22 33 = some (.iadd) := by decide +kernel
theorem i22_34 : am_ins 22 34 = some (.istore_n 2) := by decide +kernel
theorem i22_35 : am_ins 22 35 = some (.iinc 3 1) := by decide +kernel
theorem i22_38 : am_ins 22 38 = some (.goto (-34)) := by decide +kernel
theorem i22_41 : am_ins 22 41 = some (.iload_n 2) := by decide +kernel
theorem i22_42 : am_ins 22 42 = some (.ireturn) := by decide +kernel
theorem i23_0 : am_ins 23 0 = some (.iconst (-1)) := by decide +kernel
theorem i23_1 : am_ins 23 1 = some (.istore_n 1) := by decide +kernel
theorem i23_2 : am_ins 23 2 = some (.iconst 0) := by decide +kernel
theorem i23_3 : am_ins 23 3 = some (.istore_n 2) := by decide +kernel
theorem i23_4 : am_ins 23 4 = some (.iload_n 2) := by decide +kernel
theorem i23_5 : am_ins 23 5 = some (.aload_n 0) := by decide +kernel
theorem i23_6 : am_ins 23 6 = some (.getfield 36) := by decide +kernel
theorem i23_9 : am_ins 23 9 = some (.if_icmp .ge 41) := by decide +kernel
theorem i23_12 : am_ins 23 12 = some (.aload_n 0) := by decide +kernel
theorem i23_13 : am_ins 23 13 = some (.getfield 17) := by decide +kernel
theorem i23_16 : am_ins 23 16 = some (.iconst 1) := by decide +kernel
theorem i23_17 : am_ins 23 17 = some (.aaload) := by decide +kernel
theorem i23_18 : am_ins 23 18 = some (.iload_n 2) := by decide +kernel
theorem i23_19 : am_ins 23 19 = some (.iaload) := by decide +kernel
theorem i23_20 : am_ins 23 20 = some (.istore_n 3) := by decide +kernel
theorem i23_21 : am_ins 23 21 = some (.iload_n 3) := by decide +kernel
theorem i23_22 : am_ins 23 22 = some (.ifCond .le 22) := by decide +kernel
theorem i23_25 : am_ins 23 25 = some (.iload_n 1) := by decide +kernel
theorem i23_26 : am_ins 23 26 = some (.iconst (-1)) := by decide +kernel
theorem i23_27 : am_ins 23 27 = some (.if_icmp .eq 15) := by decide +kernel
theorem i23_30 : am_ins 23 30 = some (.iload_n 3) := by decide +kernel
theorem i23_31 : am_ins 23 31 = some (.aload_n 0) := by decide +kernel
theorem i23_32 : am_ins 23 32 = some (.getfield 17) := by decide +kernel
theorem i23_35 : am_ins 23 35 = some (.iconst 1) := by decide +kernel
theorem i23_36 : am_ins 23 36 = some (.aaload) := by decide +kernel
theorem i23_37 : am_ins 23 37 = some (.iload_n 1) := by decide +kernel
theorem i23_38 : am_ins 23 38 = some (.iaload) := by decide +kernel
theorem i23_39 : am_ins 23 39 = some (.if_icmp .le 5) := by decide +kernel
theorem i23_42 : am_ins 23 42 = some (.iload_n 2) := by decide +kernel
theorem i23_43 : am_ins 23 43 = some (.istore_n 1) := by decide +kernel
theorem i23_44 : am_ins 23 44 = some (.iinc 2 1) := by decide +kernel
theorem i23_47 : am_ins 23 47 = some (.goto (-43)) := by decide +kernel
theorem i23_50 : am_ins 23 50 = some (.iload_n 1) := by decide +kernel
theorem i23_51 : am_ins 23 51 = some (.ireturn) := by decide +kernel
theorem i24_0 : am_ins 24 0 = some (.iconst (-1)) := by decide +kernel
theorem i24_1 : am_ins 24 1 = some (.istore_n 2) := by decide +kernel
theorem i24_2 : am_ins 24 2 = some (.iconst 0) := by decide +kernel
theorem i24_3 : am_ins 24 3 = some (.istore_n 3) := by decide +kernel
theorem i24_4 : am_ins 24 4 = some (.iload_n 3) := by decide +kernel
theorem i24_5 : am_ins 24 5 = some (.aload_n 0) := by decide +kernel
theorem i24_6 : am_ins 24 6 = some (.getfield 39) := by decide +kernel
theorem i24_9 : am_ins 24 9 = some (.if_icmp .ge 58) := by decide +kernel
theorem i24_12 : am_ins 24 12 = some (.aload_n 0) := by decide +kernel
theorem i24_13 : am_ins 24 13 = some (.getfield 20) := by decide +kernel
theorem i24_16 : am_ins 24 16 = some (.iconst 4) := by decide +kernel
theorem i24_17 : am_ins 24 17 = some (.aaload) := by decide +kernel
theorem i24_18 : am_ins 24 18 = some (.iload_n 3) := by decide +kernel
theorem i24_19 : am_ins 24 19 = some (.iaload) := by decide +kernel
theorem i24_20 : am_ins 24 20 = some (.ifCond .le 41) := by decide +kernel
theorem i24_23 : am_ins 24 23 = some (.aload_n 0) := by decide +kernel
theorem i24_24 : am_ins 24 24 = some (.getfield 20) := by decide +kernel
theorem i24_27 : am_ins 24 27 = some (.iconst 0) := by decide +kernel
theorem i24_28 : am_ins 24 28 = some (.aaload) := by decide +kernel
theorem i24_29 : am_ins 24 29 = some (.iload_n 3) := by decide +kernel
theorem i24_30 : am_ins 24 30 = some (.iaload) := by decide +kernel
theorem i24_31 : am_ins 24 31 = some (.iload_n 1) := by decide +kernel
theorem i24_32 : am_ins 24 32 = some (.if_icmp .gt 29) := by decide +kernel
theorem i24_35 : am_ins 24 35 = some (.iload_n 2) := by decide +kernel
theorem i24_36 : am_ins 24 36 = some (.iconst (-1)) := by decide +kernel
theorem i24_37 : am_ins 24 37 = some (.if_icmp .eq 22) := by decide +kernel
theorem i24_40 : am_ins 24 40 = some (.aload_n 0) := by decide +kernel
theorem i24_41 : am_ins 24 41 = some (.getfield 20) := by decide +kernel
theorem i24_44 : am_ins 24 44 = some (.iconst 3) := by decide +kernel
theorem i24_45 : am_ins 24 45 = some (.aaload) := by decide +kernel
theorem i24_46 : am_ins 24 46 = some (.iload_n 3) := by decide +kernel
theorem i24_47 : am_ins 24 47 = some (.iaload) := by decide +kernel
theorem i24_48 : am_ins 24 48 = some (.aload_n 0) := by decide +kernel
theorem i24_49 : am_ins 24 49 = some (.getfield 20) := by decide +kernel
theorem i24_52 : am_ins 24 52 = some (.iconst 3) := by decide +kernel
theorem i24_53 : am_ins 24 53 = some (.aaload) := by decide +kernel
theorem i24_54 : am_ins 24 54 = some (.iload_n 2) := by decide +kernel
theorem i24_55 : am_ins 24 55 = some (.iaload) := by decide +kernel
theorem i24_56 : am_ins 24 56 = some (.if_icmp .ge 5) := by decide +kernel
theorem i24_59 : am_ins 24 59 = some (.iload_n 3) := by decide +kernel
theorem i24_60 : am_ins 24 60 = some (.istore_n 2) := by decide +kernel
theorem i24_61 : am_ins 24 61 = some (.iinc 3 1) := by decide +kernel
theorem i24_64 : am_ins 24 64 = some (.goto (-60)) := by decide +kernel
theorem i24_67 : am_ins 24 67 = some (.iload_n 2) := by decide +kernel
theorem i24_68 : am_ins 24 68 = some (.ireturn) := by decide +kernel
theorem i25_0 : am_ins 25 0 = some (.iconst (-1)) := by decide +kernel
theorem i25_1 : am_ins 25 1 = some (.istore_n 2) := by decide +kernel
theorem i25_2 : am_ins 25 2 = some (.iconst 0) := by decide +kernel
theorem i25_3 : am_ins 25 3 = some (.istore_n 3) := by decide +kernel
theorem i25_4 : am_ins 25 4 = some (.iload_n 3) := by decide +kernel
theorem i25_5 : am_ins 25 5 = some (.aload_n 0) := by decide +kernel
theorem i25_6 : am_ins 25 6 = some (.getfield 39) := by decide +kernel
theorem i25_9 : am_ins 25 9 = some (.if_icmp .ge 58) := by decide +kernel
theorem i25_12 : am_ins 25 12 = some (.aload_n 0) := by decide +kernel
theorem i25_13 : am_ins 25 13 = some (.getfield 20) := by decide +kernel
theorem i25_16 : am_ins 25 16 = some (.iconst 4) := by decide +kernel
theorem i25_17 : am_ins 25 17 = some (.aaload) := by decide +kernel
theorem i25_18 : am_ins 25 18 = some (.iload_n 3) := by decide +kernel
theorem i25_19 : am_ins 25 19 = some (.iaload) := by decide +kernel
theorem i25_20 : am_ins 25 20 = some (.ifCond .le 41) := by decide +kernel
theorem i25_23 : am_ins 25 23 = some (.aload_n 0) := by decide +kernel
theorem i25_24 : am_ins 25 24 = some (.getfield 20) := by decide +kernel
theorem i25_27 : am_ins 25 27 = some (.iconst 0) := by decide +kernel
theorem i25_28 : am_ins 25 28 = some (.aaload) := by decide +kernel
theorem i25_29 : am_ins 25 29 = some (.iload_n 3) := by decide +kernel
theorem i25_30 : am_ins 25 30 = some (.iaload) := by decide +kernel
theorem i25_31 : am_ins 25 31 = some (.iload_n 1) := by decide +kernel
theorem i25_32 : am_ins 25 32 = some (.if_icmp .ne 29) := by decide +kernel
theorem i25_35 : am_ins 25 35 = some (.iload_n 2) := by decide +kernel
theorem i25_36 : am_ins 25 36 = some (.iconst (-1)) := by decide +kernel
theorem i25_37 : am_ins 25 37 = some (.if_icmp .eq 22) := by decide +kernel
theorem i25_40 : am_ins 25 40 = some (.aload_n 0) := by decide +kernel
theorem i25_41 : am_ins 25 41 = some (.getfield 20) := by decide +kernel
theorem i25_44 : am_ins 25 44 = some (.iconst 3) := by decide +kernel
theorem i25_45 : am_ins 25 45 = some (.aaload) := by decide +kernel
theorem i25_46 : am_ins 25 46 = some (.iload_n 3) := by decide +kernel
theorem i25_47 : am_ins 25 47 = some (.iaload) := by decide +kernel
theorem i25_48 : am_ins 25 48 = some (.aload_n 0) := by decide +kernel
theorem i25_49 : am_ins 25 49 = some (.getfield 20) := by decide +kernel
theorem i25_52 : am_ins 25 52 = some (.iconst 3) := by decide +kernel
theorem i25_53 : am_ins 25 53 = some (.aaload) := by decide +kernel
theorem i25_54 : am_ins 25 54 = some (.iload_n 2) := by decide +kernel
theorem i25_55 : am_ins 25 55 = some (.iaload) := by decide +kernel
theorem i25_56 : am_ins 25 56 = some (.if_icmp .ge 5) := by decide +kernel
theorem i25_59 : am_ins 25 59 = some (.iload_n 3) := by decide +kernel
theorem i25_60 : am_ins 25 60 = some (.istore_n 2) := by decide +kernel
theorem i25_61 : am_ins 25 61 = some (.iinc 3 1) := by decide +kernel
theorem i25_64 : am_ins 25 64 = some (.goto (-60)) := by decide +kernel
theorem i25_67 : am_ins 25 67 = some (.iload_n 2) := by decide +kernel
theorem i25_68 : am_ins 25 68 = some (.ireturn) := by decide +kernel
theorem i26_0 : am_ins 26 0 = some (.aload_n 0) := by decide +kernel
theorem i26_1 : am_ins 26 1 = some (.getfield 42) := by decide +kernel
theorem i26_4 : am_ins 26 4 = some (.bipush 60) := by decide +kernel
theorem i26_6 : am_ins 26 6 = some (.if_icmp .ge 64) := by decide +kernel
theorem i26_9 : am_ins 26 9 = some (.aload_n 0) := by decide +kernel
theorem i26_10 : am_ins 26 10 = some (.getfield 26) := by decide +kernel
theorem i26_13 : am_ins 26 13 = some (.iconst 0) := by decide +kernel
theorem i26_14 : am_ins 26 14 = some (.aaload) := by decide +kernel
theorem i26_15 : am_ins 26 15 = some (.aload_n 0) := by decide +kernel
theorem i26_16 : am_ins 26 16 = some (.getfield 42) := by decide +kernel
theorem i26_19 : am_ins 26 19 = some (.aload_n 0) := by decide +kernel
theorem i26_20 : am_ins 26 20 = some (.getfield 32) := by decide +kernel
theorem i26_23 : am_ins 26 23 = some (.iastore) := by decide +kernel
theorem i26_24 : am_ins 26 24 = some (.aload_n 0) := by decide +kernel
theorem i26_25 : am_ins 26 25 = some (.getfield 26) := by decide +kernel
theorem i26_28 : am_ins 26 28 = some (.iconst 1) := by decide +kernel
theorem i26_29 : am_ins 26 29 = some (.aaload) := by decide +kernel
theorem i26_30 : am_ins 26 30 = some (.aload_n 0) := by decide +kernel
theorem i26_31 : am_ins 26 31 = some (.getfield 42) := by decide +kernel
theorem i26_34 : am_ins 26 34 = some (.iload_n 1) := by decide +kernel
theorem i26_35 : am_ins 26 35 = some (.iastore) := by decide +kernel
theorem i26_36 : am_ins 26 36 = some (.aload_n 0) := by decide +kernel
theorem i26_37 : am_ins 26 37 = some (.getfield 26) := by decide +kernel
theorem i26_40 : am_ins 26 40 = some (.iconst 2) := by decide +kernel
theorem i26_41 : am_ins 26 41 = some (.aaload) := by decide +kernel
theorem i26_42 : am_ins 26 42 = some (.aload_n 0) := by decide +kernel
theorem i26_43 : am_ins 26 43 = some (.getfield 42) := by decide +kernel
theorem i26_46 : am_ins 26 46 = some (.iload_n 2) := by decide +kernel
theorem i26_47 : am_ins 26 47 = some (.iastore) := by decide +kernel
theorem i26_48 : am_ins 26 48 = some (.aload_n 0) := by decide +kernel
theorem i26_49 : am_ins 26 49 = some (.getfield 26) := by decide +kernel
theorem i26_52 : am_ins 26 52 = some (.iconst 3) := by decide +kernel
theorem i26_53 : am_ins 26 53 = some (.aaload) := by decide +kernel
theorem i26_54 : am_ins 26 54 = some (.aload_n 0) := by decide +kernel
theorem i26_55 : am_ins 26 55 = some (.getfield 42) := by decide +kernel
theorem i26_58 : am_ins 26 58 = some (.iload_n 3) := by decide +kernel
theorem i26_59 : am_ins 26 59 = some (.iastore) := by decide +kernel
theorem i26_60 : am_ins 26 60 = some (.aload_n 0) := by decide +kernel
theorem i26_61 : am_ins 26 61 = some (.dup) := by decide +kernel
theorem i26_62 : am_ins 26 62 = some (.getfield 42) := by decide +kernel
theorem i26_65 : am_ins 26 65 = some (.iconst 1) := by decide +kernel
theorem i26_66 : am_ins 26 66 = some (.iadd) := by decide +kernel
theorem i26_67 : am_ins 26 67 = some (.putfield 42) := by decide +kernel
theorem i26_70 : am_ins 26 70 = some (.return_) := by decide +kernel
theorem i27_0 : am_ins 27 0 = some (.iconst (-1)) := by decide +kernel
theorem i27_1 : am_ins 27 1 = some (.istore_n 2) := by decide +kernel
theorem i27_2 : am_ins 27 2 = some (.iconst 0) := by decide +kernel
theorem i27_3 : am_ins 27 3 = some (.istore_n 3) := by decide +kernel
theorem i27_4 : am_ins 27 4 = some (.iload_n 3) := by decide +kernel
theorem i27_5 : am_ins 27 5 = some (.aload_n 0) := by decide +kernel
theorem i27_6 : am_ins 27 6 = some (.getfield 39) := by decide +kernel
theorem i27_9 : am_ins 27 9 = some (.if_icmp .ge 45) := by decide +kernel
theorem i27_12 : am_ins 27 12 = some (.aload_n 0) := by decide +kernel
theorem i27_13 : am_ins 27 13 = some (.getfield 20) := by decide +kernel
theorem i27_16 : am_ins 27 16 = some (.iconst 0) := by decide +kernel
theorem i27_17 : am_ins 27 17 = some (.aaload) := by decide +kernel
theorem i27_18 : am_ins 27 18 = some (.iload_n 3) := by decide +kernel
theorem i27_19 : am_ins 27 19 = some (.iaload) := by decide +kernel
theorem i27_20 : am_ins 27 20 = some (.istore 4) := by decide +kernel
theorem i27_22 : am_ins 27 22 = some (.aload_n 0) := by decide +kernel
theorem i27_23 : am_ins 27 23 = some (.getfield 20) := by decide +kernel
theorem i27_26 : am_ins 27 26 = some (.iconst 4) := by decide +kernel
theorem i27_27 : am_ins 27 27 = some (.aaload) := by decide +kernel
theorem i27_28 : am_ins 27 28 = some (.iload_n 3) := by decide +kernel
theorem i27_29 : am_ins 27 29 = some (.iaload) := by decide +kernel
theorem i27_30 : am_ins 27 30 = some (.ifCond .le 18) := by decide +kernel
theorem i27_33 : am_ins 27 33 = some (.iload 4) := by decide +kernel
theorem i27_35 : am_ins 27 35 = some (.iload_n 1) := by decide +kernel
theorem i27_36 : am_ins 27 36 = some (.if_icmp .gt 12) := by decide +kernel
theorem i27_39 : am_ins 27 39 = some (.iload 4) := by decide +kernel
theorem i27_41 : am_ins 27 41 = some (.iload_n 2) := by decide +kernel
theorem i27_42 : am_ins 27 42 = some (.if_icmp .le 6) := by decide +kernel
theorem i27_45 : am_ins 27 45 = some (.iload 4) := by decide +kernel
theorem i27_47 : am_ins 27 47 = some (.istore_n 2) := by decide +kernel
theorem i27_48 : am_ins 27 48 = some (.iinc 3 1) := by decide +kernel
theorem i27_51 : am_ins 27 51 = some (.goto (-47)) := by decide +kernel
theorem i27_54 : am_ins 27 54 = some (.iload_n 2) := by decide +kernel
theorem i27_55 : am_ins 27 55 = some (.ireturn) := by decide +kernel
theorem i28_0 : am_ins 28 0 = some (.aload_n 0) := by decide +kernel
theorem i28_1 : am_ins 28 1 = some (.invokespecial 3) := by decide +kernel
theorem i28_4 : am_ins 28 4 = some (.aload_n 0) := by decide +kernel
theorem i28_5 : am_ins 28 5 = some (.sipush 320) := by decide +kernel
theorem i28_8 : am_ins 28 8 = some (.newarray .byte) := by decide +kernel
theorem i28_10 : am_ins 28 10 = some (.putfield 11) := by decide +kernel
theorem i28_13 : am_ins 28 13 = some (.return_) := by decide +kernel
theorem i29_0 : am_ins 29 0 = some (.aload_n 0) := by decide +kernel
theorem i29_1 : am_ins 29 1 = some (.getfield 15) := by decide +kernel
theorem i29_4 : am_ins 29 4 = some (.aload_n 0) := by decide +kernel
theorem i29_5 : am_ins 29 5 = some (.getfield 11) := by decide +kernel
theorem i29_8 : am_ins 29 8 = some (.arraylength) := by decide +kernel
theorem i29_9 : am_ins 29 9 = some (.if_icmp .ge 24) := by decide +kernel
theorem i29_12 : am_ins 29 12 = some (.aload_n 0) := by decide +kernel
theorem i29_13 : am_ins 29 13 = some (.getfield 11) := by decide +kernel
theorem i29_16 : am_ins 29 16 = some (.aload_n 0) := by decide +kernel
theorem i29_17 : am_ins 29 17 = some (.getfield 15) := by decide +kernel
theorem i29_20 : am_ins 29 20 = some (.iload_n 1) := by decide +kernel
theorem i29_21 : am_ins 29 21 = some (.i2b) := by decide +kernel
theorem i29_22 : am_ins 29 22 = some (.bastore) := by decide +kernel
theorem i29_23 : am_ins 29 23 = some (.aload_n 0) := by decide +kernel
theorem i29_24 : am_ins 29 24 = some (.dup) := by decide +kernel
theorem i29_25 : am_ins 29 25 = some (.getfield 15) := by decide +kernel
theorem i29_28 : am_ins 29 28 = some (.iconst 1) := by decide +kernel
theorem i29_29 : am_ins 29 29 = some (.iadd) := by decide +kernel
theorem i29_30 : am_ins 29 30 = some (.putfield 15) := by decide +kernel
theorem i29_33 : am_ins 29 33 = some (.return_) := by decide +kernel
theorem i30_0 : am_ins 30 0 = some (.ldc 33) := by decide +kernel
theorem i30_2 : am_ins 30 2 = some (.istore_n 2) := by decide +kernel
theorem i30_3 : am_ins 30 3 = some (.iload_n 2) := by decide +kernel
theorem i30_4 : am_ins 30 4 = some (.iconst 1) := by decide +kernel
theorem i30_5 : am_ins 30 5 = some (.if_icmp .lt 35) := by decide +kernel
theorem i30_8 : am_ins 30 8 = some (.iload_n 2) := by decide +kernel
theorem i30_9 : am_ins 30 9 = some (.iconst 1) := by decide +kernel
theorem i30_10 : am_ins 30 10 = some (.if_icmp .eq 8) := by decide +kernel
theorem i30_13 : am_ins 30 13 = some (.iload_n 1) := by decide +kernel
theorem i30_14 : am_ins 30 14 = some (.iload_n 2) := by decide +kernel
theorem i30_15 : am_ins 30 15 = some (.if_icmp .lt 17) := by decide +kernel
theorem i30_18 : am_ins 30 18 = some (.aload_n 0) := by decide +kernel
theorem i30_19 : am_ins 30 19 = some (.bipush 48) := by decide +kernel
theorem i30_21 : am_ins 30 21 = some (.iload_n 1) := by decide +kernel
theorem i30_22 : am_ins 30 22 = some (.iload_n 2) := by decide +kernel
theorem i30_23 : am_ins 30 23 = some (.idiv) := by decide +kernel
theorem i30_24 : am_ins 30 24 = some (.bipush 10) := by decide +kernel
theorem i30_26 : am_ins 30 26 = some (.irem) := by decide +kernel
theorem i30_27 : am_ins 30 27 = some (.iadd) := by decide +kernel
theorem i30_28 : am_ins 30 28 = some (.i2c) := by decide +kernel
theorem i30_29 : am_ins 30 29 = some (.invokevirtual 29) := by decide +kernel
theorem i30_32 : am_ins 30 32 = some (.iload_n 2) := by decide +kernel
theorem i30_33 : am_ins 30 33 = some (.bipush 10) := by decide +kernel
theorem i30_35 : am_ins 30 35 = some (.idiv) := by decide +kernel
theorem i30_36 : am_ins 30 36 = some (.istore_n 2) := by decide +kernel
theorem i30_37 : am_ins 30 37 = some (.goto (-34)) := by decide +kernel
theorem i30_40 : am_ins 30 40 = some (.return_) := by decide +kernel
theorem i31_0 : am_ins 31 0 = some (.iconst 0) := by decide +kernel
theorem i31_1 : am_ins 31 1 = some (.istore_n 2) := by decide +kernel
theorem i31_2 : am_ins 31 2 = some (.iload_n 2) := by decide +kernel
theorem i31_3 : am_ins 31 3 = some (.aload_n 1) := by decide +kernel
theorem i31_4 : am_ins 31 4 = some (.invokevirtual 19) := by decide +kernel
theorem i31_7 : am_ins 31 7 = some (.if_icmp .ge 18) := by decide +kernel
theorem i31_10 : am_ins 31 10 = some (.aload_n 0) := by decide +kernel
theorem i31_11 : am_ins 31 11 = some (.aload_n 1) := by decide +kernel
theorem i31_12 : am_ins 31 12 = some (.iload_n 2) := by decide +kernel
theorem i31_13 : am_ins 31 13 = some (.invokevirtual 25) := by decide +kernel
theorem i31_16 : am_ins 31 16 = some (.invokevirtual 29) := by decide +kernel
theorem i31_19 : am_ins 31 19 = some (.iinc 2 1) := by decide +kernel
theorem i31_22 : am_ins 31 22 = some (.goto (-20)) := by decide +kernel
theorem i31_25 : am_ins 31 25 = some (.return_) := by decide +kernel
theorem i32_0 : am_ins 32 0 = some (.aload_n 0) := by decide +kernel
theorem i32_1 : am_ins 32 1 = some (.invokespecial 3) := by decide +kernel
theorem i32_4 : am_ins 32 4 = some (.aload_n 0) := by decide +kernel
theorem i32_5 : am_ins 32 5 = some (.aload_n 1) := by decide +kernel
theorem i32_6 : am_ins 32 6 = some (.putfield 9) := by decide +kernel
theorem i32_9 : am_ins 32 9 = some (.aload_n 0) := by decide +kernel
theorem i32_10 : am_ins 32 10 = some (.aload_n 2) := by decide +kernel
theorem i32_11 : am_ins 32 11 = some (.putfield 15) := by decide +kernel
theorem i32_14 : am_ins 32 14 = some (.return_) := by decide +kernel
theorem i33_0 : am_ins 33 0 = some (.iload_n 2) := by decide +kernel
theorem i33_1 : am_ins 33 1 = some (.iload_n 1) := by decide +kernel
theorem i33_2 : am_ins 33 2 = some (.if_icmp .le 7) := by decide +kernel
theorem i33_5 : am_ins 33 5 = some (.iconst (-1)) := by decide +kernel
theorem i33_6 : am_ins 33 6 = some (.goto 20) := by decide +kernel
theorem i33_9 : am_ins 33 9 = some (.iconst 0) := by decide +kernel
theorem i33_10 : am_ins 33 10 = some (.iload_n 1) := by decide +kernel
theorem i33_11 : am_ins 33 11 = some (.iload_n 2) := by decide +kernel
theorem i33_12 : am_ins 33 12 = some (.isub) := by decide +kernel
theorem i33_13 : am_ins 33 13 = some (.aload_n 0) := by decide +kernel
theorem i33_14 : am_ins 33 14 = some (.getfield 15) := by decide +kernel
theorem i33_17 : am_ins 33 17 = some (.getfield 31) := by decide +kernel
theorem i33_20 : am_ins 33 20 = some (.iconst 0) := by decide +kernel
theorem i33_21 : am_ins 33 21 = some (.iaload) := by decide +kernel
theorem i33_22 : am_ins 33 22 = some (.isub) := by decide +kernel
theorem i33_23 : am_ins 33 23 = some (.invokestatic 34) := by decide +kernel
theorem i33_26 : am_ins 33 26 = some (.ireturn) := by decide +kernel
theorem i34_0 : am_ins 34 0 = some (.iconst (-1)) := by decide +kernel
theorem i34_1 : am_ins 34 1 = some (.istore_n 3) := by decide +kernel
theorem i34_2 : am_ins 34 2 = some (.iconst 0) := by decide +kernel
theorem i34_3 : am_ins 34 3 = some (.istore 4) := by decide +kernel
theorem i34_5 : am_ins 34 5 = some (.iload 4) := by decide +kernel
theorem i34_7 : am_ins 34 7 = some (.aload_n 0) := by decide +kernel
theorem i34_8 : am_ins 34 8 = some (.getfield 15) := by decide +kernel
theorem i34_11 : am_ins 34 11 = some (.getfield 49) := by decide +kernel
theorem i34_14 : am_ins 34 14 = some (.if_icmp .ge 44) := by decide +kernel
theorem i34_17 : am_ins 34 17 = some (.aload_n 0) := by decide +kernel
theorem i34_18 : am_ins 34 18 = some (.getfield 15) := by decide +kernel
theorem i34_21 : am_ins 34 21 = some (.getfield 25) := by decide +kernel
theorem i34_24 : am_ins 34 24 = some (.iconst 1) := by decide +kernel
theorem i34_25 : am_ins 34 25 = some (.aaload) := by decide +kernel
theorem i34_26 : am_ins 34 26 = some (.iload 4) := by decide +kernel
theorem i34_28 : am_ins 34 28 = some (.iaload) := by decide +kernel
theorem i34_29 : am_ins 34 29 = some (.iload_n 1) := by decide +kernel
theorem i34_30 : am_ins 34 30 = some (.if_icmp .lt 22) := by decide +kernel
theorem i34_33 : am_ins 34 33 = some (.iload_n 3) := by decide +kernel
theorem i34_34 : am_ins 34 34 = some (.iconst (-1)) := by decide +kernel
theorem i34_35 : am_ins 34 35 = some (.if_icmp .eq 14) := by decide +kernel
theorem i34_38 : am_ins 34 38 = some (.aload_n 0) := by decide +kernel
theorem i34_39 : am_ins 34 39 = some (.iload_n 2) := by decide +kernel
theorem i34_40 : am_ins 34 40 = some (.iload 4) := by decide +kernel
theorem i34_42 : am_ins 34 42 = some (.iload_n 3) := by decide +kernel
theorem i34_43 : am_ins 34 43 = some (.invokevirtual 53) := by decide +kernel
theorem i34_46 : am_ins 34 46 = some (.ifCond .eq 6) := by decide +kernel
theorem i34_49 : am_ins 34 49 = some (.iload 4) := by decide +kernel
theorem i34_51 : am_ins 34 51 = some (.istore_n 3) := by decide +kernel
theorem i34_52 : am_ins 34 52 = some (.iinc 4 1) := by decide +kernel
theorem i34_55 : am_ins 34 55 = some (.goto (-50)) := by decide +kernel
theorem i34_58 : am_ins 34 58 = some (.iload_n 3) := by decide +kernel
theorem i34_59 : am_ins 34 59 = some (.ireturn) := by decide +kernel
theorem i35_0 : am_ins 35 0 = some (.aload_n 0) := by decide +kernel
theorem i35_1 : am_ins 35 1 = some (.getfield 15) := by decide +kernel
theorem i35_4 : am_ins 35 4 = some (.getfield 25) := by decide +kernel
theorem i35_7 : am_ins 35 7 = some (.iconst 1) := by decide +kernel
theorem i35_8 : am_ins 35 8 = some (.aaload) := by decide +kernel
theorem i35_9 : am_ins 35 9 = some (.iload_n 2) := by decide +kernel
theorem i35_10 : am_ins 35 10 = some (.iaload) := by decide +kernel
theorem i35_11 : am_ins 35 11 = some (.istore 4) := by decide +kernel
theorem i35_13 : am_ins 35 13 = some (.aload_n 0) := by decide +kernel
theorem i35_14 : am_ins 35 14 = some (.getfield 15) := by decide +kernel
theorem i35_17 : am_ins 35 17 = some (.getfield 25) := by decide +kernel
theorem i35_20 : am_ins 35 20 = some (.iconst 1) := by decide +kernel
theorem i35_21 : am_ins 35 21 = some (.aaload) := by decide +kernel
theorem i35_22 : am_ins 35 22 = some (.iload_n 3) := by decide +kernel
theorem i35_23 : am_ins 35 23 = some (.iaload) := by decide +kernel
theorem i35_24 : am_ins 35 24 = some (.istore 5) := by decide +kernel
theorem i35_26 : am_ins 35 26 = some (.iload_n 1) := by decide +kernel
theorem i35_27 : am_ins 35 27 = some (.iconst 1) := by decide +kernel
theorem i35_28 : am_ins 35 28 = some (.if_icmp .ne 10) := by decide +kernel
theorem i35_31 : am_ins 35 31 = some (.iload 4) := by decide +kernel
theorem i35_33 : am_ins 35 33 = some (.iload 5) := by decide +kernel
theorem i35_35 : am_ins 35 35 = some (.if_icmp .lt 15) := by decide +kernel
theorem i35_38 : am_ins 35 38 = some (.iload_n 1) := by decide +kernel
theorem i35_39 : am_ins 35 39 = some (.iconst 2) := by decide +kernel
theorem i35_40 : am_ins 35 40 = some (.if_icmp .ne 14) := by decide +kernel
theorem i35_43 : am_ins 35 43 = some (.iload 4) := by decide +kernel
theorem i35_45 : am_ins 35 45 = some (.iload 5) := by decide +kernel
theorem i35_47 : am_ins 35 47 = some (.if_icmp .le 7) := by decide +kernel
theorem i35_50 : am_ins 35 50 = some (.iconst 1) := by decide +kernel
theorem i35_51 : am_ins 35 51 = some (.goto 4) := by decide +kernel
theorem i35_54 : am_ins 35 54 = some (.iconst 0) := by decide +kernel
theorem i35_55 : am_ins 35 55 = some (.ireturn) := by decide +kernel
theorem i36_0 : am_ins 36 0 = some (.aload_n 0) := by decide +kernel
theorem i36_1 : am_ins 36 1 = some (.getfield 9) := by decide +kernel
theorem i36_4 : am_ins 36 4 = some (.getfield 19) := by decide +kernel
theorem i36_7 : am_ins 36 7 = some (.aload_n 0) := by decide +kernel
theorem i36_8 : am_ins 36 8 = some (.getfield 15) := by decide +kernel
theorem i36_11 : am_ins 36 11 = some (.getfield 25) := by decide +kernel
theorem i36_14 : am_ins 36 14 = some (.iconst 0) := by decide +kernel
theorem i36_15 : am_ins 36 15 = some (.aaload) := by decide +kernel
theorem i36_16 : am_ins 36 16 = some (.iload_n 1) := by decide +kernel
theorem i36_17 : am_ins 36 17 = some (.iaload) := by decide +kernel
theorem i36_18 : am_ins 36 18 = some (.iaload) := by decide +kernel
theorem i36_19 : am_ins 36 19 = some (.ireturn) := by decide +kernel
theorem i37_0 : am_ins 37 0 = some (.aload_n 0) := by decide +kernel
theorem i37_1 : am_ins 37 1 = some (.getfield 15) := by decide +kernel
theorem i37_4 : am_ins 37 4 = some (.getfield 25) := by decide +kernel
theorem i37_7 : am_ins 37 7 = some (.iconst 1) := by decide +kernel
theorem i37_8 : am_ins 37 8 = some (.aaload) := by decide +kernel
theorem i37_9 : am_ins 37 9 = some (.iload_n 2) := by decide +kernel
theorem i37_10 : am_ins 37 10 = some (.iaload) := by decide +kernel
theorem i37_11 : am_ins 37 11 = some (.istore_n 3) := by decide +kernel
theorem i37_12 : am_ins 37 12 = some (.aload_n 0) := by decide +kernel
theorem i37_13 : am_ins 37 13 = some (.getfield 9) := by decide +kernel
theorem i37_16 : am_ins 37 16 = some (.getfield 40) := by decide +kernel
theorem i37_19 : am_ins 37 19 = some (.iload_n 1) := by decide +kernel
theorem i37_20 : am_ins 37 20 = some (.iaload) := by decide +kernel
theorem i37_21 : am_ins 37 21 = some (.istore 4) := by decide +kernel
theorem i37_23 : am_ins 37 23 = some (.iconst 0) := by decide +kernel
theorem i37_24 : am_ins 37 24 = some (.istore 5) := by decide +kernel
theorem i37_26 : am_ins 37 26 = some (.iload 5) := by decide +kernel
theorem i37_28 : am_ins 37 28 = some (.iload 4) := by decide +kernel
theorem i37_30 : am_ins 37 30 = some (.if_icmp .ge 32) := by decide +kernel
theorem i37_33 : am_ins 37 33 = some (.iload_n 3) := by decide +kernel
theorem i37_34 : am_ins 37 34 = some (.iconst (-1)) := by decide +kernel
theorem i37_35 : am_ins 37 35 = some (.if_icmp .eq 27) := by decide +kernel
theorem i37_38 : am_ins 37 38 = some (.aload_n 0) := by decide +kernel
theorem i37_39 : am_ins 37 39 = some (.iload_n 3) := by decide +kernel
theorem i37_40 : am_ins 37 40 = some (.aload_n 0) := by decide +kernel
theorem i37_41 : am_ins 37 41 = some (.getfield 9) := by decide +kernel
theorem i37_44 : am_ins 37 44 = some (.getfield 43) := by decide +kernel
theorem i37_47 : am_ins 37 47 = some (.iload_n 1) := by decide +kernel
theorem i37_48 : am_ins 37 48 = some (.aaload) := by decide +kernel
theorem i37_49 : am_ins 37 49 = some (.iload 5) := by decide +kernel
theorem i37_51 : am_ins 37 51 = some (.iaload) := by decide +kernel
theorem i37_52 : am_ins 37 52 = some (.invokevirtual 46) := by decide +kernel
theorem i37_55 : am_ins 37 55 = some (.istore_n 3) := by decide +kernel
theorem i37_56 : am_ins 37 56 = some (.iinc 5 1) := by decide +kernel
theorem i37_59 : am_ins 37 59 = some (.goto (-33)) := by decide +kernel
theorem i37_62 : am_ins 37 62 = some (.iload_n 3) := by decide +kernel
theorem i37_63 : am_ins 37 63 = some (.ireturn) := by decide +kernel
theorem i38_0 : am_ins 38 0 = some (.iconst (-1)) := by decide +kernel
theorem i38_1 : am_ins 38 1 = some (.istore_n 2) := by decide +kernel
theorem i38_2 : am_ins 38 2 = some (.iconst 0) := by decide +kernel
theorem i38_3 : am_ins 38 3 = some (.istore_n 3) := by decide +kernel
theorem i38_4 : am_ins 38 4 = some (.iload_n 3) := by decide +kernel
theorem i38_5 : am_ins 38 5 = some (.aload_n 0) := by decide +kernel
theorem i38_6 : am_ins 38 6 = some (.getfield 15) := by decide +kernel
theorem i38_9 : am_ins 38 9 = some (.getfield 49) := by decide +kernel
theorem i38_12 : am_ins 38 12 = some (.if_icmp .ge 51) := by decide +kernel
theorem i38_15 : am_ins 38 15 = some (.aload_n 0) := by decide +kernel
theorem i38_16 : am_ins 38 16 = some (.iload_n 1) := by decide +kernel
theorem i38_17 : am_ins 38 17 = some (.iload_n 3) := by decide +kernel
theorem i38_18 : am_ins 38 18 = some (.invokevirtual 57) := by decide +kernel
theorem i38_21 : am_ins 38 21 = some (.iconst (-1)) := by decide +kernel
theorem i38_22 : am_ins 38 22 = some (.if_icmp .eq 35) := by decide +kernel
theorem i38_25 : am_ins 38 25 = some (.iload_n 2) := by decide +kernel
theorem i38_26 : am_ins 38 26 = some (.iconst (-1)) := by decide +kernel
theorem i38_27 : am_ins 38 27 = some (.if_icmp .eq 28) := by decide +kernel
theorem i38_30 : am_ins 38 30 = some (.aload_n 0) := by decide +kernel
theorem i38_31 : am_ins 38 31 = some (.getfield 15) := by decide +kernel
theorem i38_34 : am_ins 38 34 = some (.getfield 25) := by decide +kernel
theorem i38_37 : am_ins 38 37 = some (.iconst 1) := by decide +kernel
theorem i38_38 : am_ins 38 38 = some (.aaload) := by decide +kernel
theorem i38_39 : am_ins 38 39 = some (.iload_n 3) := by decide +kernel
theorem i38_40 : am_ins 38 40 = some (.iaload) := by decide +kernel
theorem i38_41 : am_ins 38 41 = some (.aload_n 0) := by decide +kernel
theorem i38_42 : am_ins 38 42 = some (.getfield 15) := by decide +kernel
theorem i38_45 : am_ins 38 45 = some (.getfield 25) := by decide +kernel
theorem i38_48 : am_ins 38 48 = some (.iconst 1) := by decide +kernel
theorem i38_49 : am_ins 38 49 = some (.aaload) := by decide +kernel
theorem i38_50 : am_ins 38 50 = some (.iload_n 2) := by decide +kernel
theorem i38_51 : am_ins 38 51 = some (.iaload) := by decide +kernel
theorem i38_52 : am_ins 38 52 = some (.if_icmp .ge 5) := by decide +kernel
theorem i38_55 : am_ins 38 55 = some (.iload_n 3) := by decide +kernel
theorem i38_56 : am_ins 38 56 = some (.istore_n 2) := by decide +kernel
theorem i38_57 : am_ins 38 57 = some (.iinc 3 1) := by decide +kernel
theorem i38_60 : am_ins 38 60 = some (.goto (-56)) := by decide +kernel
theorem i38_63 : am_ins 38 63 = some (.iload_n 2) := by decide +kernel
theorem i38_64 : am_ins 38 64 = some (.ireturn) := by decide +kernel
theorem i39_0 : am_ins 39 0 = some (.aload_n 0) := by decide +kernel
theorem i39_1 : am_ins 39 1 = some (.getfield 9) := by decide +kernel
theorem i39_4 : am_ins 39 4 = some (.getfield 40) := by decide +kernel
theorem i39_7 : am_ins 39 7 = some (.iload_n 1) := by decide +kernel
theorem i39_8 : am_ins 39 8 = some (.iaload) := by decide +kernel
theorem i39_9 : am_ins 39 9 = some (.istore_n 2) := by decide +kernel
theorem i39_10 : am_ins 39 10 = some (.iconst 0) := by decide +kernel
theorem i39_11 : am_ins 39 11 = some (.istore_n 3) := by decide +kernel
theorem i39_12 : am_ins 39 12 = some (.iload_n 3) := by decide +kernel
theorem i39_13 : am_ins 39 13 = some (.iload_n 2) := by decide +kernel
theorem i39_14 : am_ins 39 14 = some (.if_icmp .ge 43) := by decide +kernel
theorem i39_17 : am_ins 39 17 = some (.aload_n 0) := by decide +kernel
theorem i39_18 : am_ins 39 18 = some (.getfield 9) := by decide +kernel
theorem i39_21 : am_ins 39 21 = some (.getfield 43) := by decide +kernel
theorem i39_24 : am_ins 39 24 = some (.iload_n 1) := by decide +kernel
theorem i39_25 : am_ins 39 25 = some (.aaload) := by decide +kernel
theorem i39_26 : am_ins 39 26 = some (.iload_n 3) := by decide +kernel
theorem i39_27 : am_ins 39 27 = some (.iaload) := by decide +kernel
theorem i39_28 : am_ins 39 28 = some (.istore 4) := by decide +kernel
theorem i39_30 : am_ins 39 30 = some (.aload_n 0) := by decide +kernel
theorem i39_31 : am_ins 39 31 = some (.iload_n 1) := by decide +kernel
theorem i39_32 : am_ins 39 32 = some (.iload 4) := by decide +kernel
theorem i39_34 : am_ins 39 34 = some (.invokevirtual 60) := by decide +kernel
theorem i39_37 : am_ins 39 37 = some (.aload_n 0) := by decide +kernel
theorem i39_38 : am_ins 39 38 = some (.getfield 15) := by decide +kernel
theorem i39_41 : am_ins 39 41 = some (.iload 4) := by decide +kernel
theorem i39_43 : am_ins 39 43 = some (.invokevirtual 63) := by decide +kernel
theorem i39_46 : am_ins 39 46 = some (.if_icmp .le 5) := by decide +kernel
theorem i39_49 : am_ins 39 49 = some (.iconst 0) := by decide +kernel
theorem i39_50 : am_ins 39 50 = some (.ireturn) := by decide +kernel
theorem i39_51 : am_ins 39 51 = some (.iinc 3 1) := by decide +kernel
theorem i39_54 : am_ins 39 54 = some (.goto (-42)) := by decide +kernel
theorem i39_57 : am_ins 39 57 = some (.iconst 1) := by decide +kernel
theorem i39_58 : am_ins 39 58 = some (.ireturn) := by decide +kernel
theorem i40_0 : am_ins 40 0 = some (.aload_n 0) := by decide +kernel
theorem i40_1 : am_ins 40 1 = some (.getfield 9) := by decide +kernel
theorem i40_4 : am_ins 40 4 = some (.getfield 40) := by decide +kernel
theorem i40_7 : am_ins 40 7 = some (.iload_n 1) := by decide +kernel
theorem i40_8 : am_ins 40 8 = some (.iaload) := by decide +kernel
theorem i40_9 : am_ins 40 9 = some (.istore_n 3) := by decide +kernel
theorem i40_10 : am_ins 40 10 = some (.iconst 0) := by decide +kernel
theorem i40_11 : am_ins 40 11 = some (.istore 4) := by decide +kernel
theorem i40_13 : am_ins 40 13 = some (.iconst 0) := by decide +kernel
theorem i40_14 : am_ins 40 14 = some (.istore 5) := by decide +kernel
theorem i40_16 : am_ins 40 16 = some (.iload 5) := by decide +kernel
theorem i40_18 : am_ins 40 18 = some (.iload_n 3) := by decide +kernel
theorem i40_19 : am_ins 40 19 = some (.if_icmp .ge 28) := by decide +kernel
theorem i40_22 : am_ins 40 22 = some (.aload_n 0) := by decide +kernel
theorem i40_23 : am_ins 40 23 = some (.getfield 9) := by decide +kernel
theorem i40_26 : am_ins 40 26 = some (.getfield 43) := by decide +kernel
theorem i40_29 : am_ins 40 29 = some (.iload_n 1) := by decide +kernel
theorem i40_30 : am_ins 40 30 = some (.aaload) := by decide +kernel
theorem i40_31 : am_ins 40 31 = some (.iload 5) := by decide +kernel
theorem i40_33 : am_ins 40 33 = some (.iaload) := by decide +kernel
theorem i40_34 : am_ins 40 34 = some (.iload_n 2) := by decide +kernel
theorem i40_35 : am_ins 40 35 = some (.if_icmp .ne 6) := by decide +kernel
theorem i40_38 : am_ins 40 38 = some (.iinc 4 1) := by decide +kernel
theorem i40_41 : am_ins 40 41 = some (.iinc 5 1) := by decide +kernel
theorem i40_44 : am_ins 40 44 = some (.goto (-28)) := by decide +kernel
theorem i40_47 : am_ins 40 47 = some (.iload 4) := by decide +kernel
theorem i40_49 : am_ins 40 49 = some (.ireturn) := by decide +kernel
theorem i41_0 : am_ins 41 0 = some (.iload_n 1) := by decide +kernel
theorem i41_1 : am_ins 41 1 = some (.iconst 3) := by decide +kernel
theorem i41_2 : am_ins 41 2 = some (.if_icmp .ne 14) := by decide +kernel
theorem i41_5 : am_ins 41 5 = some (.aload_n 0) := by decide +kernel
theorem i41_6 : am_ins 41 6 = some (.invokevirtual 99) := by decide +kernel
theorem i41_9 : am_ins 41 9 = some (.aload_n 0) := by decide +kernel
theorem i41_10 : am_ins 41 10 = some (.iconst 1) := by decide +kernel
theorem i41_11 : am_ins 41 11 = some (.invokevirtual 103) := by decide +kernel
theorem i41_14 : am_ins 41 14 = some (.iadd) := by decide +kernel
theorem i41_15 : am_ins 41 15 = some (.ireturn) := by decide +kernel
theorem i41_16 : am_ins 41 16 = some (.aload_n 0) := by decide +kernel
theorem i41_17 : am_ins 41 17 = some (.iload_n 1) := by decide +kernel
theorem i41_18 : am_ins 41 18 = some (.invokevirtual 103) := by decide +kernel
theorem i41_21 : am_ins 41 21 = some (.ireturn) := by decide +kernel
theorem i42_0 : am_ins 42 0 = some (.iconst 0) := by decide +kernel
theorem i42_1 : am_ins 42 1 = some (.istore_n 1) := by decide +kernel
theorem i42_2 : am_ins 42 2 = some (.iconst 0) := by decide +kernel
theorem i42_3 : am_ins 42 3 = some (.istore_n 2) := by decide +kernel
theorem i42_4 : am_ins 42 4 = some (.iload_n 2) := by decide +kernel
theorem i42_5 : am_ins 42 5 = some (.aload_n 0) := by decide +kernel
theorem i42_6 : am_ins 42 6 = some (.getfield 9) := by decide +kernel
theorem i42_9 : am_ins 42 9 = some (.getfield 121) := by decide +kernel
theorem i42_12 : am_ins 42 12 = some (.if_icmp .ge 68) := by decide +kernel
theorem i42_15 : am_ins 42 15 = some (.iconst 0) := by decide +kernel
theorem i42_16 : am_ins 42 16 = some (.istore_n 3) := by decide +kernel
theorem i42_17 : am_ins 42 17 = some (.iload_n 3) := by decide +kernel
theorem i42_18 : am_ins 42 18 = some (.sipush 144) := by decide +kernel
theorem i42_21 : am_ins 42 21 = some (.if_icmp .ge 53) := by decide +kernel
theorem i42_24 : am_ins 42 24 = some (.aload_n 0) := by decide +kernel
theorem i42_25 : am_ins 42 25 = some (.iload_n 2) := by decide +kernel
theorem i42_26 : am_ins 42 26 = some (.invokevirtual 124) := by decide +kernel
theorem i42_29 : am_ins 42 29 = some (.ifCond .eq 45) := by decide +kernel
theorem i42_32 : am_ins 42 32 = some (.aload_n 0) := by decide +kernel
theorem i42_33 : am_ins 42 33 = some (.iload_n 2) := by decide +kernel
theorem i42_34 : am_ins 42 34 = some (.invokevirtual 128) := by decide +kernel
theorem i42_37 : am_ins 42 37 = some (.istore 4) := by decide +kernel
theorem i42_39 : am_ins 42 39 = some (.iload 4) := by decide +kernel
theorem i42_41 : am_ins 42 41 = some (.iconst (-1)) := by decide +kernel
theorem i42_42 : am_ins 42 42 = some (.if_icmp .ne 6) := by decide +kernel
theorem i42_45 : am_ins 42 45 = some (.goto 29) := by decide +kernel
theorem i42_48 : am_ins 42 48 = some (.aload_n 0) := by decide +kernel
theorem i42_49 : am_ins 42 49 = some (.iload_n 2) := by decide +kernel
theorem i42_50 : am_ins 42 50 = some (.iload 4) := by decide +kernel
theorem i42_52 : am_ins 42 52 = some (.invokevirtual 131) := by decide +kernel
theorem i42_55 : am_ins 42 55 = some (.pop) := by decide +kernel
theorem i42_56 : am_ins 42 56 = some (.iload_n 1) := by decide +kernel
theorem i42_57 : am_ins 42 57 = some (.aload_n 0) := by decide +kernel
theorem i42_58 : am_ins 42 58 = some (.getfield 9) := by decide +kernel
theorem i42_61 : am_ins 42 61 = some (.getfield 40) := by decide +kernel
theorem i42_64 : am_ins 42 64 = some (.iload_n 2) := by decide +kernel
theorem i42_65 : am_ins 42 65 = some (.iaload) := by decide +kernel
theorem i42_66 : am_ins 42 66 = some (.iadd) := by decide +kernel
theorem i42_67 : am_ins 42 67 = some (.istore_n 1) := by decide +kernel
theorem i42_68 : am_ins 42 68 = some (.iinc 3 1) := by decide +kernel
theorem i42_71 : am_ins 42 71 = some (.goto (-54)) := by decide +kernel
theorem i42_74 : am_ins 42 74 = some (.iinc 2 1) := by decide +kernel
theorem i42_77 : am_ins 42 77 = some (.goto (-73)) := by decide +kernel
theorem i42_80 : am_ins 42 80 = some (.iload_n 1) := by decide +kernel
theorem i42_81 : am_ins 42 81 = some (.ireturn) := by decide +kernel
theorem i43_0 : am_ins 43 0 = some (.aload_n 0) := by decide +kernel
theorem i43_1 : am_ins 43 1 = some (.getfield 9) := by decide +kernel
theorem i43_4 : am_ins 43 4 = some (.getfield 40) := by decide +kernel
theorem i43_7 : am_ins 43 7 = some (.iload_n 1) := by decide +kernel
theorem i43_8 : am_ins 43 8 = some (.iaload) := by decide +kernel
theorem i43_9 : am_ins 43 9 = some (.istore_n 3) := by decide +kernel
theorem i43_10 : am_ins 43 10 = some (.iconst 0) := by decide +kernel
theorem i43_11 : am_ins 43 11 = some (.istore 4) := by decide +kernel
theorem i43_13 : am_ins 43 13 = some (.iconst 0) := by decide +kernel
theorem i43_14 : am_ins 43 14 = some (.istore 5) := by decide +kernel
theorem i43_16 : am_ins 43 16 = some (.iload 5) := by decide +kernel
theorem i43_18 : am_ins 43 18 = some (.iload_n 3) := by decide +kernel
theorem i43_19 : am_ins 43 19 = some (.if_icmp .ge 33) := by decide +kernel
theorem i43_22 : am_ins 43 22 = some (.aload_n 0) := by decide +kernel
theorem i43_23 : am_ins 43 23 = some (.iload_n 2) := by decide +kernel
theorem i43_24 : am_ins 43 24 = some (.aload_n 0) := by decide +kernel
theorem i43_25 : am_ins 43 25 = some (.getfield 9) := by decide +kernel
theorem i43_28 : am_ins 43 28 = some (.getfield 43) := by decide +kernel
theorem i43_31 : am_ins 43 31 = some (.iload_n 1) := by decide +kernel
theorem i43_32 : am_ins 43 32 = some (.aaload) := by decide +kernel
theorem i43_33 : am_ins 43 33 = some (.iload 5) := by decide +kernel
theorem i43_35 : am_ins 43 35 = some (.iaload) := by decide +kernel
theorem i43_36 : am_ins 43 36 = some (.invokevirtual 96) := by decide +kernel
theorem i43_39 : am_ins 43 39 = some (.iconst (-1)) := by decide +kernel
theorem i43_40 : am_ins 43 40 = some (.if_icmp .ne 6) := by decide +kernel
theorem i43_43 : am_ins 43 43 = some (.iinc 4 1) := by decide +kernel
theorem i43_46 : am_ins 43 46 = some (.iinc 5 1) := by decide +kernel
theorem i43_49 : am_ins 43 49 = some (.goto (-33)) := by decide +kernel
theorem i43_52 : am_ins 43 52 = some (.iload 4) := by decide +kernel
theorem i43_54 : am_ins 43 54 = some (.ireturn) := by decide +kernel
theorem i44_0 : am_ins 44 0 = some (.aload_n 0) := by decide +kernel
theorem i44_1 : am_ins 44 1 = some (.getfield 15) := by decide +kernel
theorem i44_4 : am_ins 44 4 = some (.getfield 25) := by decide +kernel
theorem i44_7 : am_ins 44 7 = some (.iconst 1) := by decide +kernel
theorem i44_8 : am_ins 44 8 = some (.aaload) := by decide +kernel
theorem i44_9 : am_ins 44 9 = some (.iload_n 1) := by decide +kernel
theorem i44_10 : am_ins 44 10 = some (.iaload) := by decide +kernel
theorem i44_11 : am_ins 44 11 = some (.iload_n 2) := by decide +kernel
theorem i44_12 : am_ins 44 12 = some (.isub) := by decide +kernel
theorem i44_13 : am_ins 44 13 = some (.istore_n 3) := by decide +kernel
theorem i44_14 : am_ins 44 14 = some (.aload_n 0) := by decide +kernel
theorem i44_15 : am_ins 44 15 = some (.getfield 15) := by decide +kernel
theorem i44_18 : am_ins 44 18 = some (.getfield 31) := by decide +kernel
theorem i44_21 : am_ins 44 21 = some (.iconst 0) := by decide +kernel
theorem i44_22 : am_ins 44 22 = some (.iaload) := by decide +kernel
theorem i44_23 : am_ins 44 23 = some (.iload_n 3) := by decide +kernel
theorem i44_24 : am_ins 44 24 = some (.invokestatic 67) := by decide +kernel
theorem i44_27 : am_ins 44 27 = some (.istore 4) := by decide +kernel
theorem i44_29 : am_ins 44 29 = some (.aload_n 0) := by decide +kernel
theorem i44_30 : am_ins 44 30 = some (.getfield 15) := by decide +kernel
theorem i44_33 : am_ins 44 33 = some (.getfield 25) := by decide +kernel
theorem i44_36 : am_ins 44 36 = some (.iconst 1) := by decide +kernel
theorem i44_37 : am_ins 44 37 = some (.aaload) := by decide +kernel
theorem i44_38 : am_ins 44 38 = some (.iload_n 1) := by decide +kernel
theorem i44_39 : am_ins 44 39 = some (.iload_n 3) := by decide +kernel
theorem i44_40 : am_ins 44 40 = some (.iload 4) := by decide +kernel
theorem i44_42 : am_ins 44 42 = some (.isub) := by decide +kernel
theorem i44_43 : am_ins 44 43 = some (.iastore) := by decide +kernel
theorem i44_44 : am_ins 44 44 = some (.iload_n 3) := by decide +kernel
theorem i44_45 : am_ins 44 45 = some (.iload 4) := by decide +kernel
theorem i44_47 : am_ins 44 47 = some (.if_icmp .ne 15) := by decide +kernel
theorem i44_50 : am_ins 44 50 = some (.aload_n 0) := by decide +kernel
theorem i44_51 : am_ins 44 51 = some (.getfield 15) := by decide +kernel
theorem i44_54 : am_ins 44 54 = some (.getfield 25) := by decide +kernel
theorem i44_57 : am_ins 44 57 = some (.iconst 2) := by decide +kernel
theorem i44_58 : am_ins 44 58 = some (.aaload) := by decide +kernel
theorem i44_59 : am_ins 44 59 = some (.iload_n 1) := by decide +kernel
theorem i44_60 : am_ins 44 60 = some (.iconst 1) := by decide +kernel
theorem i44_61 : am_ins 44 61 = some (.iastore) := by decide +kernel
theorem i44_62 : am_ins 44 62 = some (.aload_n 0) := by decide +kernel
theorem i44_63 : am_ins 44 63 = some (.getfield 15) := by decide +kernel
theorem i44_66 : am_ins 44 66 = some (.getfield 25) := by decide +kernel
theorem i44_69 : am_ins 44 69 = some (.iconst 3) := by decide +kernel
theorem i44_70 : am_ins 44 70 = some (.aaload) := by decide +kernel
theorem i44_71 : am_ins 44 71 = some (.iload_n 1) := by decide +kernel
theorem i44_72 : am_ins 44 72 = some (.dup2) := by decide +kernel
theorem i44_73 : am_ins 44 73 = some (.iaload) := by decide +kernel
theorem i44_74 : am_ins 44 74 = some (.iconst 1) := by decide +kernel
theorem i44_75 : am_ins 44 75 = some (.iadd) := by decide +kernel
theorem i44_76 : am_ins 44 76 = some (.iastore) := by decide +kernel
theorem i44_77 : am_ins 44 77 = some (.aload_n 0) := by decide +kernel
theorem i44_78 : am_ins 44 78 = some (.getfield 15) := by decide +kernel
theorem i44_81 : am_ins 44 81 = some (.getfield 25) := by decide +kernel
theorem i44_84 : am_ins 44 84 = some (.iconst 4) := by decide +kernel
theorem i44_85 : am_ins 44 85 = some (.aaload) := by decide +kernel
theorem i44_86 : am_ins 44 86 = some (.iload_n 1) := by decide +kernel
theorem i44_87 : am_ins 44 87 = some (.iconst 1) := by decide +kernel
theorem i44_88 : am_ins 44 88 = some (.iastore) := by decide +kernel
theorem i44_89 : am_ins 44 89 = some (.aload_n 0) := by decide +kernel
theorem i44_90 : am_ins 44 90 = some (.getfield 15) := by decide +kernel
theorem i44_93 : am_ins 44 93 = some (.getfield 70) := by decide +kernel
theorem i44_96 : am_ins 44 96 = some (.iconst 1) := by decide +kernel
theorem i44_97 : am_ins 44 97 = some (.dup2) := by decide +kernel
theorem i44_98 : am_ins 44 98 = some (.iaload) := by decide +kernel
theorem i44_99 : am_ins 44 99 = some (.iload 4) := by decide +kernel
theorem i44_101 : am_ins 44 101 = some (.iadd) := by decide +kernel
theorem i44_102 : am_ins 44 102 = some (.iastore) := by decide +kernel
theorem i44_103 : am_ins 44 103 = some (.aload_n 0) := by decide +kernel
theorem i44_104 : am_ins 44 104 = some (.getfield 15) := by decide +kernel
theorem i44_107 : am_ins 44 107 = some (.getfield 70) := by decide +kernel
theorem i44_110 : am_ins 44 110 = some (.iconst 3) := by decide +kernel
theorem i44_111 : am_ins 44 111 = some (.dup2) := by decide +kernel
theorem i44_112 : am_ins 44 112 = some (.iaload) := by decide +kernel
theorem i44_113 : am_ins 44 113 = some (.iload 4) := by decide +kernel
theorem i44_115 : am_ins 44 115 = some (.aload_n 0) := by decide +kernel
theorem i44_116 : am_ins 44 116 = some (.iload_n 1) := by decide +kernel
theorem i44_117 : am_ins 44 117 = some (.invokevirtual 73) := by decide +kernel
theorem i44_120 : am_ins 44 120 = some (.imul) := by decide +kernel
theorem i44_121 : am_ins 44 121 = some (.iadd) := by decide +kernel
theorem i44_122 : am_ins 44 122 = some (.iastore) := by decide +kernel
theorem i44_123 : am_ins 44 123 = some (.aload_n 0) := by decide +kernel
theorem i44_124 : am_ins 44 124 = some (.getfield 15) := by decide +kernel
theorem i44_127 : am_ins 44 127 = some (.getfield 70) := by decide +kernel
theorem i44_130 : am_ins 44 130 = some (.iconst 5) := by decide +kernel
theorem i44_131 : am_ins 44 131 = some (.dup2) := by decide +kernel
theorem i44_132 : am_ins 44 132 = some (.iaload) := by decide +kernel
theorem i44_133 : am_ins 44 133 = some (.iconst 1) := by decide +kernel
theorem i44_134 : am_ins 44 134 = some (.iadd) := by decide +kernel
theorem i44_135 : am_ins 44 135 = some (.iastore) := by decide +kernel
theorem i44_136 : am_ins 44 136 = some (.aload_n 0) := by decide +kernel
theorem i44_137 : am_ins 44 137 = some (.getfield 15) := by decide +kernel
theorem i44_140 : am_ins 44 140 = some (.getfield 70) := by decide +kernel
theorem i44_143 : am_ins 44 143 = some (.bipush 7) := by decide +kernel
theorem i44_145 : am_ins 44 145 = some (.dup2) := by decide +kernel
theorem i44_146 : am_ins 44 146 = some (.iaload) := by decide +kernel
theorem i44_147 : am_ins 44 147 = some (.iload_n 2) := by decide +kernel
theorem i44_148 : am_ins 44 148 = some (.iadd) := by decide +kernel
theorem i44_149 : am_ins 44 149 = some (.iastore) := by decide +kernel
theorem i44_150 : am_ins 44 150 = some (.aload_n 0) := by decide +kernel
theorem i44_151 : am_ins 44 151 = some (.getfield 15) := by decide +kernel
theorem i44_154 : am_ins 44 154 = some (.iload_n 2) := by decide +kernel
theorem i44_155 : am_ins 44 155 = some (.invokevirtual 76) := by decide +kernel
theorem i44_158 : am_ins 44 158 = some (.istore 5) := by decide +kernel
theorem i44_160 : am_ins 44 160 = some (.iload 5) := by decide +kernel
theorem i44_162 : am_ins 44 162 = some (.iconst (-1)) := by decide +kernel
theorem i44_163 : am_ins 44 163 = some (.if_icmp .ne 19) := by decide +kernel
theorem i44_166 : am_ins 44 166 = some (.aload_n 0) := by decide +kernel
theorem i44_167 : am_ins 44 167 = some (.getfield 15) := by decide +kernel
theorem i44_170 : am_ins 44 170 = some (.getfield 79) := by decide +kernel
theorem i44_173 : am_ins 44 173 = some (.iload_n 2) := by decide +kernel
theorem i44_174 : am_ins 44 174 = some (.dup2) := by decide +kernel
theorem i44_175 : am_ins 44 175 = some (.iaload) := by decide +kernel
theorem i44_176 : am_ins 44 176 = some (.iconst 1) := by decide +kernel
theorem i44_177 : am_ins 44 177 = some (.iadd) := by decide +kernel
theorem i44_178 : am_ins 44 178 = some (.iastore) := by decide +kernel
theorem i44_179 : am_ins 44 179 = some (.goto 9) := by decide +kernel
theorem i44_182 : am_ins 44 182 = some (.aload_n 0) := by decide +kernel
theorem i44_183 : am_ins 44 183 = some (.iload 5) := by decide +kernel
theorem i44_185 : am_ins 44 185 = some (.invokevirtual 82) := by decide +kernel
theorem i44_188 : am_ins 44 188 = some (.aload_n 0) := by decide +kernel
theorem i44_189 : am_ins 44 189 = some (.getfield 15) := by decide +kernel
theorem i44_192 : am_ins 44 192 = some (.iload_n 1) := by decide +kernel
theorem i44_193 : am_ins 44 193 = some (.iload_n 2) := by decide +kernel
theorem i44_194 : am_ins 44 194 = some (.iload 5) := by decide +kernel
theorem i44_196 : am_ins 44 196 = some (.invokevirtual 86) := by decide +kernel
theorem i44_199 : am_ins 44 199 = some (.iload 5) := by decide +kernel
theorem i44_201 : am_ins 44 201 = some (.ireturn) := by decide +kernel
theorem i45_0 : am_ins 45 0 = some (.aload_n 0) := by decide +kernel
theorem i45_1 : am_ins 45 1 = some (.getfield 15) := by decide +kernel
theorem i45_4 : am_ins 45 4 = some (.getfield 90) := by decide +kernel
theorem i45_7 : am_ins 45 7 = some (.iconst 2) := by decide +kernel
theorem i45_8 : am_ins 45 8 = some (.aaload) := by decide +kernel
theorem i45_9 : am_ins 45 9 = some (.iload_n 1) := by decide +kernel
theorem i45_10 : am_ins 45 10 = some (.iaload) := by decide +kernel
theorem i45_11 : am_ins 45 11 = some (.istore_n 2) := by decide +kernel
theorem i45_12 : am_ins 45 12 = some (.aload_n 0) := by decide +kernel
theorem i45_13 : am_ins 45 13 = some (.getfield 15) := by decide +kernel
theorem i45_16 : am_ins 45 16 = some (.getfield 90) := by decide +kernel
theorem i45_19 : am_ins 45 19 = some (.iconst 4) := by decide +kernel
theorem i45_20 : am_ins 45 20 = some (.aaload) := by decide +kernel
theorem i45_21 : am_ins 45 21 = some (.iload_n 1) := by decide +kernel
theorem i45_22 : am_ins 45 22 = some (.dup2) := by decide +kernel
theorem i45_23 : am_ins 45 23 = some (.iaload) := by decide +kernel
theorem i45_24 : am_ins 45 24 = some (.iconst 1) := by decide +kernel
theorem i45_25 : am_ins 45 25 = some (.isub) := by decide +kernel
theorem i45_26 : am_ins 45 26 = some (.iastore) := by decide +kernel
theorem i45_27 : am_ins 45 27 = some (.aload_n 0) := by decide +kernel
theorem i45_28 : am_ins 45 28 = some (.getfield 15) := by decide +kernel
theorem i45_31 : am_ins 45 31 = some (.getfield 93) := by decide +kernel
theorem i45_34 : am_ins 45 34 = some (.aload_n 0) := by decide +kernel
theorem i45_35 : am_ins 45 35 = some (.getfield 15) := by decide +kernel
theorem i45_38 : am_ins 45 38 = some (.getfield 90) := by decide +kernel
theorem i45_41 : am_ins 45 41 = some (.iconst 3) := by decide +kernel
theorem i45_42 : am_ins 45 42 = some (.aaload) := by decide +kernel
theorem i45_43 : am_ins 45 43 = some (.iload_n 1) := by decide +kernel
theorem i45_44 : am_ins 45 44 = some (.iaload) := by decide +kernel
theorem i45_45 : am_ins 45 45 = some (.if_icmp .gt 34) := by decide +kernel
theorem i45_48 : am_ins 45 48 = some (.aload_n 0) := by decide +kernel
theorem i45_49 : am_ins 45 49 = some (.getfield 15) := by decide +kernel
theorem i45_52 : am_ins 45 52 = some (.getfield 90) := by decide +kernel
theorem i45_55 : am_ins 45 55 = some (.iconst 5) := by decide +kernel
theorem i45_56 : am_ins 45 56 = some (.aaload) := by decide +kernel
theorem i45_57 : am_ins 45 57 = some (.iload_n 1) := by decide +kernel
theorem i45_58 : am_ins 45 58 = some (.dup2) := by decide +kernel
theorem i45_59 : am_ins 45 59 = some (.iaload) := by decide +kernel
theorem i45_60 : am_ins 45 60 = some (.iconst 1) := by decide +kernel
theorem i45_61 : am_ins 45 61 = some (.iadd) := by decide +kernel
theorem i45_62 : am_ins 45 62 = some (.iastore) := by decide +kernel
theorem i45_63 : am_ins 45 63 = some (.aload_n 0) := by decide +kernel
theorem i45_64 : am_ins 45 64 = some (.getfield 15) := by decide +kernel
theorem i45_67 : am_ins 45 67 = some (.getfield 70) := by decide +kernel
theorem i45_70 : am_ins 45 70 = some (.iconst 4) := by decide +kernel
theorem i45_71 : am_ins 45 71 = some (.dup2) := by decide +kernel
theorem i45_72 : am_ins 45 72 = some (.iaload) := by decide +kernel
theorem i45_73 : am_ins 45 73 = some (.iload_n 2) := by decide +kernel
theorem i45_74 : am_ins 45 74 = some (.iadd) := by decide +kernel
theorem i45_75 : am_ins 45 75 = some (.iastore) := by decide +kernel
theorem i45_76 : am_ins 45 76 = some (.goto 48) := by decide +kernel
theorem i45_79 : am_ins 45 79 = some (.aload_n 0) := by decide +kernel
theorem i45_80 : am_ins 45 80 = some (.getfield 15) := by decide +kernel
theorem i45_83 : am_ins 45 83 = some (.getfield 90) := by decide +kernel
theorem i45_86 : am_ins 45 86 = some (.bipush 6) := by decide +kernel
theorem i45_88 : am_ins 45 88 = some (.aaload) := by decide +kernel
theorem i45_89 : am_ins 45 89 = some (.iload_n 1) := by decide +kernel
theorem i45_90 : am_ins 45 90 = some (.dup2) := by decide +kernel
theorem i45_91 : am_ins 45 91 = some (.iaload) := by decide +kernel
theorem i45_92 : am_ins 45 92 = some (.iconst 1) := by decide +kernel
theorem i45_93 : am_ins 45 93 = some (.iadd) := by decide +kernel
theorem i45_94 : am_ins 45 94 = some (.iastore) := by decide +kernel
theorem i45_95 : am_ins 45 95 = some (.aload_n 0) := by decide +kernel
theorem i45_96 : am_ins 45 96 = some (.getfield 15) := by decide +kernel
theorem i45_99 : am_ins 45 99 = some (.getfield 70) := by decide +kernel
theorem i45_102 : am_ins 45 102 = some (.bipush 6) := by decide +kernel
theorem i45_104 : am_ins 45 104 = some (.dup2) := by decide +kernel
theorem i45_105 : am_ins 45 105 = some (.iaload) := by decide +kernel
theorem i45_106 : am_ins 45 106 = some (.iconst 1) := by decide +kernel
theorem i45_107 : am_ins 45 107 = some (.iadd) := by decide +kernel
theorem i45_108 : am_ins 45 108 = some (.iastore) := by decide +kernel
theorem i45_109 : am_ins 45 109 = some (.aload_n 0) := by decide +kernel
theorem i45_110 : am_ins 45 110 = some (.getfield 15) := by decide +kernel
theorem i45_113 : am_ins 45 113 = some (.getfield 70) := by decide +kernel
theorem i45_116 : am_ins 45 116 = some (.iconst 4) := by decide +kernel
theorem i45_117 : am_ins 45 117 = some (.dup2) := by decide +kernel
theorem i45_118 : am_ins 45 118 = some (.iaload) := by decide +kernel
theorem i45_119 : am_ins 45 119 = some (.iload_n 2) := by decide +kernel
theorem i45_120 : am_ins 45 120 = some (.iconst 2) := by decide +kernel
theorem i45_121 : am_ins 45 121 = some (.idiv) := by decide +kernel
theorem i45_122 : am_ins 45 122 = some (.iadd) := by decide +kernel
theorem i45_123 : am_ins 45 123 = some (.iastore) := by decide +kernel
theorem i45_124 : am_ins 45 124 = some (.return_) := by decide +kernel
theorem i46_0 : am_ins 46 0 = some (.iconst 0) := by decide +kernel
theorem i46_1 : am_ins 46 1 = some (.istore_n 2) := by decide +kernel
theorem i46_2 : am_ins 46 2 = some (.iload_n 2) := by decide +kernel
theorem i46_3 : am_ins 46 3 = some (.sipush 144) := by decide +kernel
theorem i46_6 : am_ins 46 6 = some (.if_icmp .ge 48) := by decide +kernel
theorem i46_9 : am_ins 46 9 = some (.aload_n 0) := by decide +kernel
theorem i46_10 : am_ins 46 10 = some (.iload_n 1) := by decide +kernel
theorem i46_11 : am_ins 46 11 = some (.invokevirtual 106) := by decide +kernel
theorem i46_14 : am_ins 46 14 = some (.istore_n 3) := by decide +kernel
theorem i46_15 : am_ins 46 15 = some (.iload_n 3) := by decide +kernel
theorem i46_16 : am_ins 46 16 = some (.iconst (-1)) := by decide +kernel
theorem i46_17 : am_ins 46 17 = some (.if_icmp .ne 7) := by decide +kernel
theorem i46_20 : am_ins 46 20 = some (.iconst (-1)) := by decide +kernel
theorem i46_21 : am_ins 46 21 = some (.goto 9) := by decide +kernel
theorem i46_24 : am_ins 46 24 = some (.aload_n 0) := by decide +kernel
theorem i46_25 : am_ins 46 25 = some (.iload_n 3) := by decide +kernel
theorem i46_26 : am_ins 46 26 = some (.iload_n 1) := by decide +kernel
theorem i46_27 : am_ins 46 27 = some (.invokevirtual 109) := by decide +kernel
theorem i46_30 : am_ins 46 30 = some (.istore 4) := by decide +kernel
theorem i46_32 : am_ins 46 32 = some (.iload 4) := by decide +kernel
theorem i46_34 : am_ins 46 34 = some (.iconst (-1)) := by decide +kernel
theorem i46_35 : am_ins 46 35 = some (.if_icmp .ne 5) := by decide +kernel
theorem i46_38 : am_ins 46 38 = some (.iload_n 2) := by decide +kernel
theorem i46_39 : am_ins 46 39 = some (.ireturn) := by decide +kernel
theorem i46_40 : am_ins 46 40 = some (.aload_n 0) := by decide +kernel
theorem i46_41 : am_ins 46 41 = some (.iload 4) := by decide +kernel
theorem i46_43 : am_ins 46 43 = some (.iload_n 3) := by decide +kernel
theorem i46_44 : am_ins 46 44 = some (.invokevirtual 96) := by decide +kernel
theorem i46_47 : am_ins 46 47 = some (.pop) := by decide +kernel
theorem i46_48 : am_ins 46 48 = some (.iinc 2 1) := by decide +kernel
theorem i46_51 : am_ins 46 51 = some (.goto (-49)) := by decide +kernel
theorem i46_54 : am_ins 46 54 = some (.sipush 144) := by decide +kernel
theorem i46_57 : am_ins 46 57 = some (.ireturn) := by decide +kernel
theorem i47_0 : am_ins 47 0 = some (.aload_n 0) := by decide +kernel
theorem i47_1 : am_ins 47 1 = some (.getfield 15) := by decide +kernel
theorem i47_4 : am_ins 47 4 = some (.invokevirtual 112) := by decide +kernel
theorem i47_7 : am_ins 47 7 = some (.istore_n 2) := by decide +kernel
theorem i47_8 : am_ins 47 8 = some (.iload_n 2) := by decide +kernel
theorem i47_9 : am_ins 47 9 = some (.iconst (-1)) := by decide +kernel
theorem i47_10 : am_ins 47 10 = some (.if_icmp .ne 5) := by decide +kernel
theorem i47_13 : am_ins 47 13 = some (.iconst (-1)) := by decide +kernel
theorem i47_14 : am_ins 47 14 = some (.ireturn) := by decide +kernel
theorem i47_15 : am_ins 47 15 = some (.aload_n 0) := by decide +kernel
theorem i47_16 : am_ins 47 16 = some (.getfield 15) := by decide +kernel
theorem i47_19 : am_ins 47 19 = some (.getfield 25) := by decide +kernel
theorem i47_22 : am_ins 47 22 = some (.iconst 1) := by decide +kernel
theorem i47_23 : am_ins 47 23 = some (.aaload) := by decide +kernel
theorem i47_24 : am_ins 47 24 = some (.iload_n 2) := by decide +kernel
theorem i47_25 : am_ins 47 25 = some (.iaload) := by decide +kernel
theorem i47_26 : am_ins 47 26 = some (.istore_n 3) := by decide +kernel
theorem i47_27 : am_ins 47 27 = some (.iload_n 1) := by decide +kernel
theorem i47_28 : am_ins 47 28 = some (.ifCond .eq 12) := by decide +kernel
theorem i47_31 : am_ins 47 31 = some (.aload_n 0) := by decide +kernel
theorem i47_32 : am_ins 47 32 = some (.getfield 15) := by decide +kernel
theorem i47_35 : am_ins 47 35 = some (.iload_n 3) := by decide +kernel
theorem i47_36 : am_ins 47 36 = some (.invokevirtual 115) := by decide +kernel
theorem i47_39 : am_ins 47 39 = some (.ireturn) := by decide +kernel
theorem i47_40 : am_ins 47 40 = some (.aload_n 0) := by decide +kernel
theorem i47_41 : am_ins 47 41 = some (.getfield 15) := by decide +kernel
theorem i47_44 : am_ins 47 44 = some (.iload_n 3) := by decide +kernel
theorem i47_45 : am_ins 47 45 = some (.invokevirtual 118) := by decide +kernel
theorem i47_48 : am_ins 47 48 = some (.istore 4) := by decide +kernel
theorem i47_50 : am_ins 47 50 = some (.iload 4) := by decide +kernel
theorem i47_52 : am_ins 47 52 = some (.iconst (-1)) := by decide +kernel
theorem i47_53 : am_ins 47 53 = some (.if_icmp .ne 7) := by decide +kernel
theorem i47_56 : am_ins 47 56 = some (.iconst (-1)) := by decide +kernel
theorem i47_57 : am_ins 47 57 = some (.goto 15) := by decide +kernel
theorem i47_60 : am_ins 47 60 = some (.aload_n 0) := by decide +kernel
theorem i47_61 : am_ins 47 61 = some (.getfield 15) := by decide +kernel
theorem i47_64 : am_ins 47 64 = some (.getfield 90) := by decide +kernel
theorem i47_67 : am_ins 47 67 = some (.iconst 0) := by decide +kernel
theorem i47_68 : am_ins 47 68 = some (.aaload) := by decide +kernel
theorem i47_69 : am_ins 47 69 = some (.iload 4) := by decide +kernel
theorem i47_71 : am_ins 47 71 = some (.iaload) := by decide +kernel
theorem i47_72 : am_ins 47 72 = some (.ireturn) := by decide +kernel
theorem i48_0 : am_ins 48 0 = some (.iconst 0) := by decide +kernel
theorem i48_1 : am_ins 48 1 = some (.istore_n 1) := by decide +kernel
theorem i48_2 : am_ins 48 2 = some (.iconst 0) := by decide +kernel
theorem i48_3 : am_ins 48 3 = some (.istore_n 2) := by decide +kernel
theorem i48_4 : am_ins 48 4 = some (.iload_n 2) := by decide +kernel
theorem i48_5 : am_ins 48 5 = some (.aload_n 0) := by decide +kernel
theorem i48_6 : am_ins 48 6 = some (.getfield 15) := by decide +kernel
theorem i48_9 : am_ins 48 9 = some (.getfield 49) := by decide +kernel
theorem i48_12 : am_ins 48 12 = some (.if_icmp .ge 81) := by decide +kernel
theorem i48_15 : am_ins 48 15 = some (.aload_n 0) := by decide +kernel
theorem i48_16 : am_ins 48 16 = some (.getfield 15) := by decide +kernel
theorem i48_19 : am_ins 48 19 = some (.getfield 25) := by decide +kernel
theorem i48_22 : am_ins 48 22 = some (.iconst 4) := by decide +kernel
theorem i48_23 : am_ins 48 23 = some (.aaload) := by decide +kernel
theorem i48_24 : am_ins 48 24 = some (.iload_n 2) := by decide +kernel
theorem i48_25 : am_ins 48 25 = some (.iaload) := by decide +kernel
theorem i48_26 : am_ins 48 26 = some (.iconst 1) := by decide +kernel
theorem i48_27 : am_ins 48 27 = some (.if_icmp .ne 48) := by decide +kernel
theorem i48_30 : am_ins 48 30 = some (.aload_n 0) := by decide +kernel
theorem i48_31 : am_ins 48 31 = some (.getfield 15) := by decide +kernel
theorem i48_34 : am_ins 48 34 = some (.getfield 25) := by decide +kernel
theorem i48_37 : am_ins 48 37 = some (.iconst 2) := by decide +kernel
theorem i48_38 : am_ins 48 38 = some (.aaload) := by decide +kernel
theorem i48_39 : am_ins 48 39 = some (.iload_n 2) := by decide +kernel
theorem i48_40 : am_ins 48 40 = some (.iaload) := by decide +kernel
theorem i48_41 : am_ins 48 41 = some (.ifCond .ne 34) := by decide +kernel
theorem i48_44 : am_ins 48 44 = some (.aload_n 0) := by decide +kernel
theorem i48_45 : am_ins 48 45 = some (.getfield 15) := by decide +kernel
theorem i48_48 : am_ins 48 48 = some (.getfield 25) := by decide +kernel
theorem i48_51 : am_ins 48 51 = some (.iconst 1) := by decide +kernel
theorem i48_52 : am_ins 48 52 = some (.aaload) := by decide +kernel
theorem i48_53 : am_ins 48 53 = some (.iload_n 2) := by decide +kernel
theorem i48_54 : am_ins 48 54 = some (.iaload) := by decide +kernel
theorem i48_55 : am_ins 48 55 = some (.aload_n 0) := by decide +kernel
theorem i48_56 : am_ins 48 56 = some (.getfield 15) := by decide +kernel
theorem i48_59 : am_ins 48 59 = some (.getfield 31) := by decide +kernel
theorem i48_62 : am_ins 48 62 = some (.iconst 1) := by decide +kernel
theorem i48_63 : am_ins 48 63 = some (.iaload) := by decide +kernel
theorem i48_64 : am_ins 48 64 = some (.if_icmp .ge 11) := by decide +kernel
theorem i48_67 : am_ins 48 67 = some (.iload_n 1) := by decide +kernel
theorem i48_68 : am_ins 48 68 = some (.aload_n 0) := by decide +kernel
theorem i48_69 : am_ins 48 69 = some (.iload_n 2) := by decide +kernel
theorem i48_70 : am_ins 48 70 = some (.invokevirtual 134) := by decide +kernel
theorem i48_73 : am_ins 48 73 = some (.iadd) := by decide +kernel
theorem i48_74 : am_ins 48 74 = some (.istore_n 1) := by decide +kernel
theorem i48_75 : am_ins 48 75 = some (.aload_n 0) := by decide +kernel
theorem i48_76 : am_ins 48 76 = some (.getfield 15) := by decide +kernel
theorem i48_79 : am_ins 48 79 = some (.getfield 25) := by decide +kernel
theorem i48_82 : am_ins 48 82 = some (.iconst 4) := by decide +kernel
theorem i48_83 : am_ins 48 83 = some (.aaload) := by decide +kernel
theorem i48_84 : am_ins 48 84 = some (.iload_n 2) := by decide +kernel
theorem i48_85 : am_ins 48 85 = some (.iconst 0) := by decide +kernel
theorem i48_86 : am_ins 48 86 = some (.iastore) := by decide +kernel
theorem i48_87 : am_ins 48 87 = some (.iinc 2 1) := by decide +kernel
theorem i48_90 : am_ins 48 90 = some (.goto (-86)) := by decide +kernel
theorem i48_93 : am_ins 48 93 = some (.aload_n 0) := by decide +kernel
theorem i48_94 : am_ins 48 94 = some (.getfield 15) := by decide +kernel
theorem i48_97 : am_ins 48 97 = some (.dup) := by decide +kernel
theorem i48_98 : am_ins 48 98 = some (.getfield 93) := by decide +kernel
theorem i48_101 : am_ins 48 101 = some (.iconst 1) := by decide +kernel
theorem i48_102 : am_ins 48 102 = some (.iadd) := by decide +kernel
theorem i48_103 : am_ins 48 103 = some (.putfield 93) := by decide +kernel
theorem i48_106 : am_ins 48 106 = some (.iload_n 1) := by decide +kernel
theorem i48_107 : am_ins 48 107 = some (.ireturn) := by decide +kernel
theorem i49_0 : am_ins 49 0 = some (.aload_n 0) := by decide +kernel
theorem i49_1 : am_ins 49 1 = some (.getfield 15) := by decide +kernel
theorem i49_4 : am_ins 49 4 = some (.getfield 25) := by decide +kernel
theorem i49_7 : am_ins 49 7 = some (.iconst 1) := by decide +kernel
theorem i49_8 : am_ins 49 8 = some (.aaload) := by decide +kernel
theorem i49_9 : am_ins 49 9 = some (.iload_n 1) := by decide +kernel
theorem i49_10 : am_ins 49 10 = some (.iaload) := by decide +kernel
theorem i49_11 : am_ins 49 11 = some (.istore_n 2) := by decide +kernel
theorem i49_12 : am_ins 49 12 = some (.aload_n 0) := by decide +kernel
theorem i49_13 : am_ins 49 13 = some (.getfield 15) := by decide +kernel
theorem i49_16 : am_ins 49 16 = some (.getfield 25) := by decide +kernel
theorem i49_19 : am_ins 49 19 = some (.iconst 1) := by decide +kernel
theorem i49_20 : am_ins 49 20 = some (.aaload) := by decide +kernel
theorem i49_21 : am_ins 49 21 = some (.iload_n 1) := by decide +kernel
theorem i49_22 : am_ins 49 22 = some (.iconst 0) := by decide +kernel
theorem i49_23 : am_ins 49 23 = some (.iastore) := by decide +kernel
theorem i49_24 : am_ins 49 24 = some (.aload_n 0) := by decide +kernel
theorem i49_25 : am_ins 49 25 = some (.getfield 15) := by decide +kernel
theorem i49_28 : am_ins 49 28 = some (.getfield 25) := by decide +kernel
theorem i49_31 : am_ins 49 31 = some (.iconst 2) := by decide +kernel
theorem i49_32 : am_ins 49 32 = some (.aaload) := by decide +kernel
theorem i49_33 : am_ins 49 33 = some (.iload_n 1) := by decide +kernel
theorem i49_34 : am_ins 49 34 = some (.iconst 2) := by decide +kernel
theorem i49_35 : am_ins 49 35 = some (.iastore) := by decide +kernel
theorem i49_36 : am_ins 49 36 = some (.aload_n 0) := by decide +kernel
theorem i49_37 : am_ins 49 37 = some (.getfield 15) := by decide +kernel
theorem i49_40 : am_ins 49 40 = some (.getfield 70) := by decide +kernel
theorem i49_43 : am_ins 49 43 = some (.iconst 2) := by decide +kernel
theorem i49_44 : am_ins 49 44 = some (.dup2) := by decide +kernel
theorem i49_45 : am_ins 49 45 = some (.iaload) := by decide +kernel
theorem i49_46 : am_ins 49 46 = some (.iload_n 2) := by decide +kernel
theorem i49_47 : am_ins 49 47 = some (.iadd) := by decide +kernel
theorem i49_48 : am_ins 49 48 = some (.iastore) := by decide +kernel
theorem i49_49 : am_ins 49 49 = some (.aload_n 0) := by decide +kernel
theorem i49_50 : am_ins 49 50 = some (.getfield 15) := by decide +kernel
theorem i49_53 : am_ins 49 53 = some (.getfield 70) := by decide +kernel
theorem i49_56 : am_ins 49 56 = some (.iconst 3) := by decide +kernel
theorem i49_57 : am_ins 49 57 = some (.dup2) := by decide +kernel
theorem i49_58 : am_ins 49 58 = some (.iaload) := by decide +kernel
theorem i49_59 : am_ins 49 59 = some (.iload_n 2) := by decide +kernel
theorem i49_60 : am_ins 49 60 = some (.aload_n 0) := by decide +kernel
theorem i49_61 : am_ins 49 61 = some (.iload_n 1) := by decide +kernel
theorem i49_62 : am_ins 49 62 = some (.invokevirtual 73) := by decide +kernel
theorem i49_65 : am_ins 49 65 = some (.imul) := by decide +kernel
theorem i49_66 : am_ins 49 66 = some (.iadd) := by decide +kernel
theorem i49_67 : am_ins 49 67 = some (.iastore) := by decide +kernel
theorem i49_68 : am_ins 49 68 = some (.iload_n 2) := by decide +kernel
theorem i49_69 : am_ins 49 69 = some (.ireturn) := by decide +kernel
theorem i50_0 : am_ins 50 0 = some (.aload_n 0) := by decide +kernel
theorem i50_1 : am_ins 50 1 = some (.getfield 9) := by decide +kernel
theorem i50_4 : am_ins 50 4 = some (.getfield 137) := by decide +kernel
theorem i50_7 : am_ins 50 7 = some (.iload_n 1) := by decide +kernel
theorem i50_8 : am_ins 50 8 = some (.iaload) := by decide +kernel
theorem i50_9 : am_ins 50 9 = some (.istore_n 2) := by decide +kernel
theorem i50_10 : am_ins 50 10 = some (.aload_n 0) := by decide +kernel
theorem i50_11 : am_ins 50 11 = some (.getfield 15) := by decide +kernel
theorem i50_14 : am_ins 50 14 = some (.getfield 70) := by decide +kernel
theorem i50_17 : am_ins 50 17 = some (.iconst 0) := by decide +kernel
theorem i50_18 : am_ins 50 18 = some (.dup2) := by decide +kernel
theorem i50_19 : am_ins 50 19 = some (.iaload) := by decide +kernel
theorem i50_20 : am_ins 50 20 = some (.iload_n 2) := by decide +kernel
theorem i50_21 : am_ins 50 21 = some (.aload_n 0) := by decide +kernel
theorem i50_22 : am_ins 50 22 = some (.getfield 9) := by decide +kernel
theorem i50_25 : am_ins 50 25 = some (.getfield 19) := by decide +kernel
theorem i50_28 : am_ins 50 28 = some (.iload_n 1) := by decide +kernel
theorem i50_29 : am_ins 50 29 = some (.iaload) := by decide +kernel
theorem i50_30 : am_ins 50 30 = some (.imul) := by decide +kernel
theorem i50_31 : am_ins 50 31 = some (.iadd) := by decide +kernel
theorem i50_32 : am_ins 50 32 = some (.iastore) := by decide +kernel
theorem i50_33 : am_ins 50 33 = some (.aload_n 0) := by decide +kernel
theorem i50_34 : am_ins 50 34 = some (.getfield 15) := by decide +kernel
theorem i50_37 : am_ins 50 37 = some (.iload_n 1) := by decide +kernel
theorem i50_38 : am_ins 50 38 = some (.iload_n 2) := by decide +kernel
theorem i50_39 : am_ins 50 39 = some (.invokevirtual 140) := by decide +kernel
theorem i50_42 : am_ins 50 42 = some (.ireturn) := by decide +kernel
theorem i51_0 : am_ins 51 0 = some (.iload_n 1) := by decide +kernel
theorem i51_1 : am_ins 51 1 = some (.iconst (-1)) := by decide +kernel
theorem i51_2 : am_ins 51 2 = some (.if_icmp .ne 4) := by decide +kernel
theorem i51_5 : am_ins 51 5 = some (.return_) := by decide +kernel
theorem i51_6 : am_ins 51 6 = some (.aload_n 0) := by decide +kernel
theorem i51_7 : am_ins 51 7 = some (.getfield 15) := by decide +kernel
theorem i51_10 : am_ins 51 10 = some (.getfield 90) := by decide +kernel
theorem i51_13 : am_ins 51 13 = some (.iconst 0) := by decide +kernel
theorem i51_14 : am_ins 51 14 = some (.aaload) := by decide +kernel
theorem i51_15 : am_ins 51 15 = some (.iload_n 1) := by decide +kernel
theorem i51_16 : am_ins 51 16 = some (.iaload) := by decide +kernel
theorem i51_17 : am_ins 51 17 = some (.istore_n 2) := by decide +kernel
theorem i51_18 : am_ins 51 18 = some (.aload_n 0) := by decide +kernel
theorem i51_19 : am_ins 51 19 = some (.getfield 15) := by decide +kernel
theorem i51_22 : am_ins 51 22 = some (.getfield 79) := by decide +kernel
theorem i51_25 : am_ins 51 25 = some (.iload_n 2) := by decide +kernel
theorem i51_26 : am_ins 51 26 = some (.iaload) := by decide +kernel
theorem i51_27 : am_ins 51 27 = some (.aload_n 0) := by decide +kernel
theorem i51_28 : am_ins 51 28 = some (.getfield 15) := by decide +kernel
theorem i51_31 : am_ins 51 31 = some (.getfield 90) := by decide +kernel
theorem i51_34 : am_ins 51 34 = some (.iconst 4) := by decide +kernel
theorem i51_35 : am_ins 51 35 = some (.aaload) := by decide +kernel
theorem i51_36 : am_ins 51 36 = some (.iload_n 1) := by decide +kernel
theorem i51_37 : am_ins 51 37 = some (.iaload) := by decide +kernel
theorem i51_38 : am_ins 51 38 = some (.invokestatic 67) := by decide +kernel
theorem i51_41 : am_ins 51 41 = some (.istore_n 3) := by decide +kernel
theorem i51_42 : am_ins 51 42 = some (.iconst 0) := by decide +kernel
theorem i51_43 : am_ins 51 43 = some (.istore 4) := by decide +kernel
theorem i51_45 : am_ins 51 45 = some (.iload 4) := by decide +kernel
theorem i51_47 : am_ins 51 47 = some (.iload_n 3) := by decide +kernel
theorem i51_48 : am_ins 51 48 = some (.if_icmp .ge 14) := by decide +kernel
theorem i51_51 : am_ins 51 51 = some (.aload_n 0) := by decide +kernel
theorem i51_52 : am_ins 51 52 = some (.iload_n 1) := by decide +kernel
theorem i51_53 : am_ins 51 53 = some (.invokevirtual 82) := by decide +kernel
theorem i51_56 : am_ins 51 56 = some (.iinc 4 1) := by decide +kernel
theorem i51_59 : am_ins 51 59 = some (.goto (-14)) := by decide +kernel
theorem i51_62 : am_ins 51 62 = some (.aload_n 0) := by decide +kernel
theorem i51_63 : am_ins 51 63 = some (.getfield 15) := by decide +kernel
theorem i51_66 : am_ins 51 66 = some (.getfield 79) := by decide +kernel
theorem i51_69 : am_ins 51 69 = some (.iload_n 2) := by decide +kernel
theorem i51_70 : am_ins 51 70 = some (.dup2) := by decide +kernel
theorem i51_71 : am_ins 51 71 = some (.iaload) := by decide +kernel
theorem i51_72 : am_ins 51 72 = some (.iload_n 3) := by decide +kernel
theorem i51_73 : am_ins 51 73 = some (.isub) := by decide +kernel
theorem i51_74 : am_ins 51 74 = some (.iastore) := by decide +kernel
theorem i51_75 : am_ins 51 75 = some (.return_) := by decide +kernel
theorem i52_0 : am_ins 52 0 = some (.aload_n 0) := by decide +kernel
theorem i52_1 : am_ins 52 1 = some (.invokespecial 3) := by decide +kernel
theorem i52_4 : am_ins 52 4 = some (.aload_n 0) := by decide +kernel
theorem i52_5 : am_ins 52 5 = some (.aload_n 1) := by decide +kernel
theorem i52_6 : am_ins 52 6 = some (.putfield 9) := by decide +kernel
theorem i52_9 : am_ins 52 9 = some (.aload_n 0) := by decide +kernel
theorem i52_10 : am_ins 52 10 = some (.aload_n 2) := by decide +kernel
theorem i52_11 : am_ins 52 11 = some (.putfield 15) := by decide +kernel
theorem i52_14 : am_ins 52 14 = some (.aload_n 0) := by decide +kernel
theorem i52_15 : am_ins 52 15 = some (.new 19) := by decide +kernel
theorem i52_18 : am_ins 52 18 = some (.dup) := by decide +kernel
theorem i52_19 : am_ins 52 19 = some (.invokespecial 21) := by decide +kernel
theorem i52_22 : am_ins 52 22 = some (.putfield 22) := by decide +kernel
theorem i52_25 : am_ins 52 25 = some (.aload_n 0) := by decide +kernel
theorem i52_26 : am_ins 52 26 = some (.new 25) := by decide +kernel
theorem i52_29 : am_ins 52 29 = some (.dup) := by decide +kernel
theorem i52_30 : am_ins 52 30 = some (.aload_n 1) := by decide +kernel
theorem i52_31 : am_ins 52 31 = some (.aload_n 0) := by decide +kernel
theorem i52_32 : am_ins 52 32 = some (.getfield 22) := by decide +kernel
theorem i52_35 : am_ins 52 35 = some (.invokespecial 27) := by decide +kernel
theorem i52_38 : am_ins 52 38 = some (.putfield 30) := by decide +kernel
theorem i52_41 : am_ins 52 41 = some (.return_) := by decide +kernel
theorem i53_0 : am_ins 53 0 = some (.aload_n 0) := by decide +kernel
theorem i53_1 : am_ins 53 1 = some (.getfield 22) := by decide +kernel
theorem i53_4 : am_ins 53 4 = some (.aload_n 0) := by decide +kernel
theorem i53_5 : am_ins 53 5 = some (.getfield 15) := by decide +kernel
theorem i53_8 : am_ins 53 8 = some (.invokevirtual 34) := by decide +kernel
theorem i53_11 : am_ins 53 11 = some (.aload_n 0) := by decide +kernel
theorem i53_12 : am_ins 53 12 = some (.getfield 30) := by decide +kernel
theorem i53_15 : am_ins 53 15 = some (.iload_n 1) := by decide +kernel
theorem i53_16 : am_ins 53 16 = some (.invokevirtual 38) := by decide +kernel
theorem i53_19 : am_ins 53 19 = some (.ireturn) := by decide +kernel
theorem i55_0 : am_ins 55 0 = some (.aload_n 0) := by decide +kernel
theorem i55_1 : am_ins 55 1 = some (.getfield 22) := by decide +kernel
theorem i55_4 : am_ins 55 4 = some (.aload_n 0) := by decide +kernel
theorem i55_5 : am_ins 55 5 = some (.getfield 15) := by decide +kernel
theorem i55_8 : am_ins 55 8 = some (.invokevirtual 34) := by decide +kernel
theorem i55_11 : am_ins 55 11 = some (.aload_n 0) := by decide +kernel
theorem i55_12 : am_ins 55 12 = some (.getfield 30) := by decide +kernel
theorem i55_15 : am_ins 55 15 = some (.iload_n 1) := by decide +kernel
theorem i55_16 : am_ins 55 16 = some (.invokevirtual 38) := by decide +kernel
theorem i55_19 : am_ins 55 19 = some (.pop) := by decide +kernel
theorem i55_20 : am_ins 55 20 = some (.aload_n 0) := by decide +kernel
theorem i55_21 : am_ins 55 21 = some (.getfield 22) := by decide +kernel
theorem i55_24 : am_ins 55 24 = some (.getfield 50) := by decide +kernel
theorem i55_27 : am_ins 55 27 = some (.iconst 4) := by decide +kernel
theorem i55_28 : am_ins 55 28 = some (.aaload) := by decide +kernel
theorem i55_29 : am_ins 55 29 = some (.iload_n 2) := by decide +kernel
theorem i55_30 : am_ins 55 30 = some (.iaload) := by decide +kernel
theorem i55_31 : am_ins 55 31 = some (.ireturn) := by decide +kernel
theorem i56_0 : am_ins 56 0 = some (.iconst 0) := by decide +kernel
theorem i56_1 : am_ins 56 1 = some (.istore_n 2) := by decide +kernel
theorem i56_2 : am_ins 56 2 = some (.iload_n 2) := by decide +kernel
theorem i56_3 : am_ins 56 3 = some (.bipush 12) := by decide +kernel
theorem i56_5 : am_ins 56 5 = some (.if_icmp .gt 63) := by decide +kernel
theorem i56_8 : am_ins 56 8 = some (.aload_n 0) := by decide +kernel
theorem i56_9 : am_ins 56 9 = some (.getfield 22) := by decide +kernel
theorem i56_12 : am_ins 56 12 = some (.aload_n 0) := by decide +kernel
theorem i56_13 : am_ins 56 13 = some (.getfield 15) := by decide +kernel
theorem i56_16 : am_ins 56 16 = some (.invokevirtual 34) := by decide +kernel
theorem i56_19 : am_ins 56 19 = some (.iconst 0) := by decide +kernel
theorem i56_20 : am_ins 56 20 = some (.istore_n 3) := by decide +kernel
theorem i56_21 : am_ins 56 21 = some (.iload_n 3) := by decide +kernel
theorem i56_22 : am_ins 56 22 = some (.iload_n 2) := by decide +kernel
theorem i56_23 : am_ins 56 23 = some (.if_icmp .ge 18) := by decide +kernel
theorem i56_26 : am_ins 56 26 = some (.aload_n 0) := by decide +kernel
theorem i56_27 : am_ins 56 27 = some (.getfield 30) := by decide +kernel
theorem i56_30 : am_ins 56 30 = some (.iload_n 1) := by decide +kernel
theorem i56_31 : am_ins 56 31 = some (.invokevirtual 54) := by decide +kernel
theorem i56_34 : am_ins 56 34 = some (.pop) := by decide +kernel
theorem i56_35 : am_ins 56 35 = some (.iinc 3 1) := by decide +kernel
theorem i56_38 : am_ins 56 38 = some (.goto (-17)) := by decide +kernel
theorem i56_41 : am_ins 56 41 = some (.aload_n 0) := by decide +kernel
theorem i56_42 : am_ins 56 42 = some (.getfield 30) := by decide +kernel
theorem i56_45 : am_ins 56 45 = some (.iconst 1) := by decide +kernel
theorem i56_46 : am_ins 56 46 = some (.invokevirtual 57) := by decide +kernel
theorem i56_49 : am_ins 56 49 = some (.pop) := by decide +kernel
theorem i56_50 : am_ins 56 50 = some (.aload_n 0) := by decide +kernel
theorem i56_51 : am_ins 56 51 = some (.getfield 22) := by decide +kernel
theorem i56_54 : am_ins 56 54 = some (.invokevirtual 60) := by decide +kernel
theorem i56_57 : am_ins 56 57 = some (.ifCond .ne 5) := by decide +kernel
theorem i56_60 : am_ins 56 60 = some (.iload_n 2) := by decide +kernel
theorem i56_61 : am_ins 56 61 = some (.ireturn) := by decide +kernel
theorem i56_62 : am_ins 56 62 = some (.iinc 2 1) := by decide +kernel
theorem i56_65 : am_ins 56 65 = some (.goto (-63)) := by decide +kernel
theorem i56_68 : am_ins 56 68 = some (.iconst (-1)) := by decide +kernel
theorem i56_69 : am_ins 56 69 = some (.ireturn) := by decide +kernel
theorem i59_0 : am_ins 59 0 = some (.aload_n 0) := by decide +kernel
theorem i59_1 : am_ins 59 1 = some (.invokespecial 3) := by decide +kernel
theorem i59_4 : am_ins 59 4 = some (.aload_n 0) := by decide +kernel
theorem i59_5 : am_ins 59 5 = some (.sipush 210) := by decide +kernel
theorem i59_8 : am_ins 59 8 = some (.newarray .int) := by decide +kernel
theorem i59_10 : am_ins 59 10 = some (.putfield 9) := by decide +kernel
theorem i59_13 : am_ins 59 13 = some (.aload_n 0) := by decide +kernel
theorem i59_14 : am_ins 59 14 = some (.aload_n 1) := by decide +kernel
theorem i59_15 : am_ins 59 15 = some (.putfield 15) := by decide +kernel
theorem i59_18 : am_ins 59 18 = some (.return_) := by decide +kernel
theorem i60_0 : am_ins 60 0 = some (.iload_n 1) := by decide +kernel
theorem i60_1 : am_ins 60 1 = some (.aload_n 0) := by decide +kernel
theorem i60_2 : am_ins 60 2 = some (.getfield 15) := by decide +kernel
theorem i60_5 : am_ins 60 5 = some (.getfield 19) := by decide +kernel
theorem i60_8 : am_ins 60 8 = some (.iconst 0) := by decide +kernel
theorem i60_9 : am_ins 60 9 = some (.iaload) := by decide +kernel
theorem i60_10 : am_ins 60 10 = some (.iadd) := by decide +kernel
theorem i60_11 : am_ins 60 11 = some (.sipush 209) := by decide +kernel
theorem i60_14 : am_ins 60 14 = some (.invokestatic 24) := by decide +kernel
theorem i60_17 : am_ins 60 17 = some (.istore_n 2) := by decide +kernel
theorem i60_18 : am_ins 60 18 = some (.aload_n 0) := by decide +kernel
theorem i60_19 : am_ins 60 19 = some (.getfield 9) := by decide +kernel
theorem i60_22 : am_ins 60 22 = some (.iconst 0) := by decide +kernel
theorem i60_23 : am_ins 60 23 = some (.iconst 0) := by decide +kernel
theorem i60_24 : am_ins 60 24 = some (.iastore) := by decide +kernel
theorem i60_25 : am_ins 60 25 = some (.iconst 1) := by decide +kernel
theorem i60_26 : am_ins 60 26 = some (.istore_n 3) := by decide +kernel
theorem i60_27 : am_ins 60 27 = some (.iload_n 3) := by decide +kernel
theorem i60_28 : am_ins 60 28 = some (.iload_n 2) := by decide +kernel
theorem i60_29 : am_ins 60 29 = some (.if_icmp .gt 18) := by decide +kernel
theorem i60_32 : am_ins 60 32 = some (.aload_n 0) := by decide +kernel
theorem i60_33 : am_ins 60 33 = some (.getfield 9) := by decide +kernel
theorem i60_36 : am_ins 60 36 = some (.iload_n 3) := by decide +kernel
theorem i60_37 : am_ins 60 37 = some (.sipush 1000) := by decide +kernel
theorem i60_40 : am_ins 60 40 = some (.iastore) := by decide +kernel
theorem i60_41 : am_ins 60 41 = some (.iinc 3 1) := by decide +kernel
theorem i60_44 : am_ins 60 44 = some (.goto (-17)) := by decide +kernel
theorem i60_47 : am_ins 60 47 = some (.iconst 0) := by decide +kernel
theorem i60_48 : am_ins 60 48 = some (.istore_n 3) := by decide +kernel
theorem i60_49 : am_ins 60 49 = some (.iload_n 3) := by decide +kernel
theorem i60_50 : am_ins 60 50 = some (.aload_n 0) := by decide +kernel
theorem i60_51 : am_ins 60 51 = some (.getfield 15) := by decide +kernel
theorem i60_54 : am_ins 60 54 = some (.getfield 30) := by decide +kernel
theorem i60_57 : am_ins 60 57 = some (.if_icmp .ge 64) := by decide +kernel
theorem i60_60 : am_ins 60 60 = some (.aload_n 0) := by decide +kernel
theorem i60_61 : am_ins 60 61 = some (.getfield 15) := by decide +kernel
theorem i60_64 : am_ins 60 64 = some (.getfield 34) := by decide +kernel
theorem i60_67 : am_ins 60 67 = some (.iconst 4) := by decide +kernel
theorem i60_68 : am_ins 60 68 = some (.aaload) := by decide +kernel
theorem i60_69 : am_ins 60 69 = some (.iload_n 3) := by decide +kernel
theorem i60_70 : am_ins 60 70 = some (.iaload) := by decide +kernel
theorem i60_71 : am_ins 60 71 = some (.istore 4) := by decide +kernel
theorem i60_73 : am_ins 60 73 = some (.iconst 0) := by decide +kernel
theorem i60_74 : am_ins 60 74 = some (.istore 5) := by decide +kernel
theorem i60_76 : am_ins 60 76 = some (.iload 5) := by decide +kernel
theorem i60_78 : am_ins 60 78 = some (.iload 4) := by decide +kernel
theorem i60_80 : am_ins 60 80 = some (.if_icmp .ge 35) := by decide +kernel
theorem i60_83 : am_ins 60 83 = some (.aload_n 0) := by decide +kernel
theorem i60_84 : am_ins 60 84 = some (.aload_n 0) := by decide +kernel
theorem i60_85 : am_ins 60 85 = some (.getfield 15) := by decide +kernel
theorem i60_88 : am_ins 60 88 = some (.getfield 34) := by decide +kernel
theorem i60_91 : am_ins 60 91 = some (.iconst 0) := by decide +kernel
theorem i60_92 : am_ins 60 92 = some (.aaload) := by decide +kernel
theorem i60_93 : am_ins 60 93 = some (.iload_n 3) := by decide +kernel
theorem i60_94 : am_ins 60 94 = some (.iaload) := by decide +kernel
theorem i60_95 : am_ins 60 95 = some (.aload_n 0) := by decide +kernel
theorem i60_96 : am_ins 60 96 = some (.getfield 15) := by decide +kernel
theorem i60_99 : am_ins 60 99 = some (.getfield 19) := by decide +kernel
theorem i60_102 : am_ins 60 102 = some (.iconst 0) := by decide +kernel
theorem i60_103 : am_ins 60 103 = some (.iaload) := by decide +kernel
theorem i60_104 : am_ins 60 104 = some (.iadd) := by decide +kernel
theorem i60_105 : am_ins 60 105 = some (.iload_n 2) := by decide +kernel
theorem i60_106 : am_ins 60 106 = some (.invokevirtual 38) := by decide +kernel
theorem i60_109 : am_ins 60 109 = some (.iinc 5 1) := by decide +kernel
theorem i60_112 : am_ins 60 112 = some (.goto (-36)) := by decide +kernel
theorem i60_115 : am_ins 60 115 = some (.iinc 3 1) := by decide +kernel
theorem i60_118 : am_ins 60 118 = some (.goto (-69)) := by decide +kernel
theorem i60_121 : am_ins 60 121 = some (.aload_n 0) := by decide +kernel
theorem i60_122 : am_ins 60 122 = some (.iload_n 1) := by decide +kernel
theorem i60_123 : am_ins 60 123 = some (.iload_n 2) := by decide +kernel
theorem i60_124 : am_ins 60 124 = some (.invokevirtual 42) := by decide +kernel
theorem i60_127 : am_ins 60 127 = some (.return_) := by decide +kernel
theorem i61_0 : am_ins 61 0 = some (.iload_n 2) := by decide +kernel
theorem i61_1 : am_ins 61 1 = some (.istore_n 3) := by decide +kernel
theorem i61_2 : am_ins 61 2 = some (.iload_n 3) := by decide +kernel
theorem i61_3 : am_ins 61 3 = some (.iload_n 1) := by decide +kernel
theorem i61_4 : am_ins 61 4 = some (.if_icmp .lt 34) := by decide +kernel
theorem i61_7 : am_ins 61 7 = some (.aload_n 0) := by decide +kernel
theorem i61_8 : am_ins 61 8 = some (.getfield 9) := by decide +kernel
theorem i61_11 : am_ins 61 11 = some (.iload_n 3) := by decide +kernel
theorem i61_12 : am_ins 61 12 = some (.aload_n 0) := by decide +kernel
theorem i61_13 : am_ins 61 13 = some (.getfield 9) := by decide +kernel
theorem i61_16 : am_ins 61 16 = some (.iload_n 3) := by decide +kernel
theorem i61_17 : am_ins 61 17 = some (.iaload) := by decide +kernel
theorem i61_18 : am_ins 61 18 = some (.aload_n 0) := by decide +kernel
theorem i61_19 : am_ins 61 19 = some (.getfield 9) := by decide +kernel
theorem i61_22 : am_ins 61 22 = some (.iload_n 3) := by decide +kernel
theorem i61_23 : am_ins 61 23 = some (.iload_n 1) := by decide +kernel
theorem i61_24 : am_ins 61 24 = some (.isub) := by decide +kernel
theorem i61_25 : am_ins 61 25 = some (.iaload) := by decide +kernel
theorem i61_26 : am_ins 61 26 = some (.iconst 1) := by decide +kernel
theorem i61_27 : am_ins 61 27 = some (.iadd) := by decide +kernel
theorem i61_28 : am_ins 61 28 = some (.invokestatic 24) := by decide +kernel
theorem i61_31 : am_ins 61 31 = some (.iastore) := by decide +kernel
theorem i61_32 : am_ins 61 32 = some (.iinc 3 (-1)) := by decide +kernel
theorem i61_35 : am_ins 61 35 = some (.goto (-33)) := by decide +kernel
theorem i61_38 : am_ins 61 38 = some (.return_) := by decide +kernel
theorem i62_0 : am_ins 62 0 = some (.aload_n 0) := by decide +kernel
theorem i62_1 : am_ins 62 1 = some (.iload_n 1) := by decide +kernel
theorem i62_2 : am_ins 62 2 = some (.putfield 45) := by decide +kernel
theorem i62_5 : am_ins 62 5 = some (.aload_n 0) := by decide +kernel
theorem i62_6 : am_ins 62 6 = some (.iconst 0) := by decide +kernel
theorem i62_7 : am_ins 62 7 = some (.putfield 48) := by decide +kernel
theorem i62_10 : am_ins 62 10 = some (.iconst 1) := by decide +kernel
theorem i62_11 : am_ins 62 11 = some (.istore_n 3) := by decide +kernel
theorem i62_12 : am_ins 62 12 = some (.iload_n 3) := by decide +kernel
theorem i62_13 : am_ins 62 13 = some (.iload_n 2) := by decide +kernel
theorem i62_14 : am_ins 62 14 = some (.if_icmp .gt 77) := by decide +kernel
theorem i62_17 : am_ins 62 17 = some (.iconst 0) := by decide +kernel
theorem i62_18 : am_ins 62 18 = some (.iload_n 1) := by decide +kernel
theorem i62_19 : am_ins 62 19 = some (.iload_n 3) := by decide +kernel
theorem i62_20 : am_ins 62 20 = some (.isub) := by decide +kernel
theorem i62_21 : am_ins 62 21 = some (.invokestatic 51) := by decide +kernel
theorem i62_24 : am_ins 62 24 = some (.istore 4) := by decide +kernel
theorem i62_26 : am_ins 62 26 = some (.aload_n 0) := by decide +kernel
theorem i62_27 : am_ins 62 27 = some (.getfield 9) := by decide +kernel
theorem i62_30 : am_ins 62 30 = some (.iload_n 3) := by decide +kernel
theorem i62_31 : am_ins 62 31 = some (.iaload) := by decide +kernel
theorem i62_32 : am_ins 62 32 = some (.sipush 1000) := by decide +kernel
theorem i62_35 : am_ins 62 35 = some (.if_icmp .ge 50) := by decide +kernel
theorem i62_38 : am_ins 62 38 = some (.iload 4) := by decide +kernel
theorem i62_40 : am_ins 62 40 = some (.aload_n 0) := by decide +kernel
theorem i62_41 : am_ins 62 41 = some (.getfield 45) := by decide +kernel
theorem i62_44 : am_ins 62 44 = some (.if_icmp .lt 25) := by decide +kernel
theorem i62_47 : am_ins 62 47 = some (.iload 4) := by decide +kernel
theorem i62_49 : am_ins 62 49 = some (.aload_n 0) := by decide +kernel
theorem i62_50 : am_ins 62 50 = some (.getfield 45) := by decide +kernel
theorem i62_53 : am_ins 62 53 = some (.if_icmp .ne 32) := by decide +kernel
theorem i62_56 : am_ins 62 56 = some (.aload_n 0) := by decide +kernel
theorem i62_57 : am_ins 62 57 = some (.getfield 9) := by decide +kernel
theorem i62_60 : am_ins 62 60 = some (.iload_n 3) := by decide +kernel
theorem i62_61 : am_ins 62 61 = some (.iaload) := by decide +kernel
theorem i62_62 : am_ins 62 62 = some (.aload_n 0) := by decide +kernel
theorem i62_63 : am_ins 62 63 = some (.getfield 48) := by decide +kernel
theorem i62_66 : am_ins 62 66 = some (.if_icmp .ge 19) := by decide +kernel
theorem i62_69 : am_ins 62 69 = some (.aload_n 0) := by decide +kernel
theorem i62_70 : am_ins 62 70 = some (.iload 4) := by decide +kernel
theorem i62_72 : am_ins 62 72 = some (.putfield 45) := by decide +kernel
theorem i62_75 : am_ins 62 75 = some (.aload_n 0) := by decide +kernel
theorem i62_76 : am_ins 62 76 = some (.aload_n 0) := by decide +kernel
theorem i62_77 : am_ins 62 77 = some (.getfield 9) := by decide +kernel
theorem i62_80 : am_ins 62 80 = some (.iload_n 3) := by decide +kernel
theorem i62_81 : am_ins 62 81 = some (.iaload) := by decide +kernel
theorem i62_82 : am_ins 62 82 = some (.putfield 48) := by decide +kernel
theorem i62_85 : am_ins 62 85 = some (.iinc 3 1) := by decide +kernel
theorem i62_88 : am_ins 62 88 = some (.goto (-76)) := by decide +kernel
theorem i62_91 : am_ins 62 91 = some (.return_) := by decide +kernel
theorem i63_0 : am_ins 63 0 = some (.aload_n 0) := by decide +kernel
theorem i63_1 : am_ins 63 1 = some (.invokespecial 3) := by decide +kernel
theorem i63_4 : am_ins 63 4 = some (.aload_n 0) := by decide +kernel
theorem i63_5 : am_ins 63 5 = some (.bipush 8) := by decide +kernel
theorem i63_7 : am_ins 63 7 = some (.anewarray 9) := by decide +kernel
theorem i63_10 : am_ins 63 10 = some (.putfield 11) := by decide +kernel
theorem i63_13 : am_ins 63 13 = some (.iconst 0) := by decide +kernel
theorem i63_14 : am_ins 63 14 = some (.istore_n 1) := by decide +kernel
theorem i63_15 : am_ins 63 15 = some (.iload_n 1) := by decide +kernel
theorem i63_16 : am_ins 63 16 = some (.bipush 8) := by decide +kernel
theorem i63_18 : am_ins 63 18 = some (.if_icmp .ge 22) := by decide +kernel
theorem i63_21 : am_ins 63 21 = some (.aload_n 0) := by decide +kernel
theorem i63_22 : am_ins 63 22 = some (.getfield 11) := by decide +kernel
theorem i63_25 : am_ins 63 25 = some (.iload_n 1) := by decide +kernel
theorem i63_26 : am_ins 63 26 = some (.new 9) := by decide +kernel
theorem i63_29 : am_ins 63 29 = some (.dup) := by decide +kernel
theorem i63_30 : am_ins 63 30 = some (.invokespecial 17) := by decide +kernel
theorem i63_33 : am_ins 63 33 = some (.aastore) := by decide +kernel
theorem i63_34 : am_ins 63 34 = some (.iinc 1 1) := by decide +kernel
theorem i63_37 : am_ins 63 37 = some (.goto (-22)) := by decide +kernel
theorem i63_40 : am_ins 63 40 = some (.return_) := by decide +kernel
theorem i64_0 : am_ins 64 0 = some (.aload_n 0) := by decide +kernel
theorem i64_1 : am_ins 64 1 = some (.getfield 11) := by decide +kernel
theorem i64_4 : am_ins 64 4 = some (.aload_n 0) := by decide +kernel
theorem i64_5 : am_ins 64 5 = some (.getfield 18) := by decide +kernel
theorem i64_8 : am_ins 64 8 = some (.aaload) := by decide +kernel
theorem i64_9 : am_ins 64 9 = some (.aload_n 1) := by decide +kernel
theorem i64_10 : am_ins 64 10 = some (.invokevirtual 22) := by decide +kernel
theorem i64_13 : am_ins 64 13 = some (.aload_n 0) := by decide +kernel
theorem i64_14 : am_ins 64 14 = some (.aload_n 0) := by decide +kernel
theorem i64_15 : am_ins 64 15 = some (.getfield 18) := by decide +kernel
theorem i64_18 : am_ins 64 18 = some (.bipush 7) := by decide +kernel
theorem i64_20 : am_ins 64 20 = some (.if_icmp .ne 7) := by decide +kernel
theorem i64_23 : am_ins 64 23 = some (.iconst 0) := by decide +kernel
theorem i64_24 : am_ins 64 24 = some (.goto 9) := by decide +kernel
theorem i64_27 : am_ins 64 27 = some (.aload_n 0) := by decide +kernel
theorem i64_28 : am_ins 64 28 = some (.getfield 18) := by decide +kernel
theorem i64_31 : am_ins 64 31 = some (.iconst 1) := by decide +kernel
theorem i64_32 : am_ins 64 32 = some (.iadd) := by decide +kernel
theorem i64_33 : am_ins 64 33 = some (.putfield 18) := by decide +kernel
theorem i64_36 : am_ins 64 36 = some (.aload_n 0) := by decide +kernel
theorem i64_37 : am_ins 64 37 = some (.aload_n 0) := by decide +kernel
theorem i64_38 : am_ins 64 38 = some (.getfield 26) := by decide +kernel
theorem i64_41 : am_ins 64 41 = some (.iconst 1) := by decide +kernel
theorem i64_42 : am_ins 64 42 = some (.iadd) := by decide +kernel
theorem i64_43 : am_ins 64 43 = some (.bipush 8) := by decide +kernel
theorem i64_45 : am_ins 64 45 = some (.invokestatic 29) := by decide +kernel
theorem i64_48 : am_ins 64 48 = some (.putfield 26) := by decide +kernel
theorem i64_51 : am_ins 64 51 = some (.return_) := by decide +kernel
theorem i65_0 : am_ins 65 0 = some (.aload_n 0) := by decide +kernel
theorem i65_1 : am_ins 65 1 = some (.getfield 26) := by decide +kernel
theorem i65_4 : am_ins 65 4 = some (.ifCond .le 48) := by decide +kernel
theorem i65_7 : am_ins 65 7 = some (.aload_n 0) := by decide +kernel
theorem i65_8 : am_ins 65 8 = some (.aload_n 0) := by decide +kernel
theorem i65_9 : am_ins 65 9 = some (.getfield 18) := by decide +kernel
theorem i65_12 : am_ins 65 12 = some (.ifCond .ne 8) := by decide +kernel
theorem i65_15 : am_ins 65 15 = some (.bipush 7) := by decide +kernel
theorem i65_17 : am_ins 65 17 = some (.goto 9) := by decide +kernel
theorem i65_20 : am_ins 65 20 = some (.aload_n 0) := by decide +kernel
theorem i65_21 : am_ins 65 21 = some (.getfield 18) := by decide +kernel
theorem i65_24 : am_ins 65 24 = some (.iconst 1) := by decide +kernel
theorem i65_25 : am_ins 65 25 = some (.isub) := by decide +kernel
theorem i65_26 : am_ins 65 26 = some (.putfield 18) := by decide +kernel
theorem i65_29 : am_ins 65 29 = some (.aload_n 0) := by decide +kernel
theorem i65_30 : am_ins 65 30 = some (.dup) := by decide +kernel
theorem i65_31 : am_ins 65 31 = some (.getfield 26) := by decide +kernel
theorem i65_34 : am_ins 65 34 = some (.iconst 1) := by decide +kernel
theorem i65_35 : am_ins 65 35 = some (.isub) := by decide +kernel
theorem i65_36 : am_ins 65 36 = some (.putfield 26) := by decide +kernel
theorem i65_39 : am_ins 65 39 = some (.aload_n 1) := by decide +kernel
theorem i65_40 : am_ins 65 40 = some (.aload_n 0) := by decide +kernel
theorem i65_41 : am_ins 65 41 = some (.getfield 11) := by decide +kernel
theorem i65_44 : am_ins 65 44 = some (.aload_n 0) := by decide +kernel
theorem i65_45 : am_ins 65 45 = some (.getfield 18) := by decide +kernel
theorem i65_48 : am_ins 65 48 = some (.aaload) := by decide +kernel
theorem i65_49 : am_ins 65 49 = some (.invokevirtual 22) := by decide +kernel
theorem i65_52 : am_ins 65 52 = some (.return_) := by decide +kernel
theorem i66_0 : am_ins 66 0 = some (.aload_n 0) := by decide +kernel
theorem i66_1 : am_ins 66 1 = some (.invokespecial 3) := by decide +kernel
theorem i66_4 : am_ins 66 4 = some (.aload_n 0) := by decide +kernel
theorem i66_5 : am_ins 66 5 = some (.new 9) := by decide +kernel
theorem i66_8 : am_ins 66 8 = some (.dup) := by decide +kernel
theorem i66_9 : am_ins 66 9 = some (.invokespecial 11) := by decide +kernel
theorem i66_12 : am_ins 66 12 = some (.putfield 12) := by decide +kernel
theorem i66_15 : am_ins 66 15 = some (.aload_n 0) := by decide +kernel
theorem i66_16 : am_ins 66 16 = some (.new 18) := by decide +kernel
theorem i66_19 : am_ins 66 19 = some (.dup) := by decide +kernel
theorem i66_20 : am_ins 66 20 = some (.invokespecial 20) := by decide +kernel
theorem i66_23 : am_ins 66 23 = some (.putfield 21) := by decide +kernel
theorem i66_26 : am_ins 66 26 = some (.aload_n 0) := by decide +kernel
theorem i66_27 : am_ins 66 27 = some (.aload_n 1) := by decide +kernel
theorem i66_28 : am_ins 66 28 = some (.putfield 25) := by decide +kernel
theorem i66_31 : am_ins 66 31 = some (.return_) := by decide +kernel
theorem i67_0 : am_ins 67 0 = some (.aload_n 0) := by decide +kernel
theorem i67_1 : am_ins 67 1 = some (.iload_n 1) := by decide +kernel
theorem i67_2 : am_ins 67 2 = some (.invokevirtual 29) := by decide +kernel
theorem i67_5 : am_ins 67 5 = some (.aload_n 0) := by decide +kernel
theorem i67_6 : am_ins 67 6 = some (.invokevirtual 33) := by decide +kernel
theorem i67_9 : am_ins 67 9 = some (.ifCond .ne 5) := by decide +kernel
theorem i67_12 : am_ins 67 12 = some (.iconst 0) := by decide +kernel
theorem i67_13 : am_ins 67 13 = some (.ireturn) := by decide +kernel
theorem i67_14 : am_ins 67 14 = some (.iconst 0) := by decide +kernel
theorem i67_15 : am_ins 67 15 = some (.istore_n 2) := by decide +kernel
theorem i67_16 : am_ins 67 16 = some (.iload_n 2) := by decide +kernel
theorem i67_17 : am_ins 67 17 = some (.sipush 700) := by decide +kernel
theorem i67_20 : am_ins 67 20 = some (.if_icmp .gt 46) := by decide +kernel
theorem i67_23 : am_ins 67 23 = some (.aload_n 0) := by decide +kernel
theorem i67_24 : am_ins 67 24 = some (.invokevirtual 37) := by decide +kernel
theorem i67_27 : am_ins 67 27 = some (.aload_n 0) := by decide +kernel
theorem i67_28 : am_ins 67 28 = some (.getfield 40) := by decide +kernel
theorem i67_31 : am_ins 67 31 = some (.iconst 3) := by decide +kernel
theorem i67_32 : am_ins 67 32 = some (.if_icmp .ne 5) := by decide +kernel
theorem i67_35 : am_ins 67 35 = some (.iconst 1) := by decide +kernel
theorem i67_36 : am_ins 67 36 = some (.ireturn) := by decide +kernel
theorem i67_37 : am_ins 67 37 = some (.aload_n 0) := by decide +kernel
theorem i67_38 : am_ins 67 38 = some (.getfield 40) := by decide +kernel
theorem i67_41 : am_ins 67 41 = some (.iconst 2) := by decide +kernel
theorem i67_42 : am_ins 67 42 = some (.if_icmp .eq 9) := by decide +kernel
theorem i67_45 : am_ins 67 45 = some (.aload_n 0) := by decide +kernel
theorem i67_46 : am_ins 67 46 = some (.iconst 1) := by decide +kernel
theorem i67_47 : am_ins 67 47 = some (.invokevirtual 44) := by decide +kernel
theorem i67_50 : am_ins 67 50 = some (.ireturn) := by decide +kernel
theorem i67_51 : am_ins 67 51 = some (.aload_n 0) := by decide +kernel
theorem i67_52 : am_ins 67 52 = some (.invokevirtual 48) := by decide +kernel
theorem i67_55 : am_ins 67 55 = some (.ifCond .ne 5) := by decide +kernel
theorem i67_58 : am_ins 67 58 = some (.iconst 0) := by decide +kernel
theorem i67_59 : am_ins 67 59 = some (.ireturn) := by decide +kernel
theorem i67_60 : am_ins 67 60 = some (.iinc 2 1) := by decide +kernel
theorem i67_63 : am_ins 67 63 = some (.goto (-47)) := by decide +kernel
theorem i67_66 : am_ins 67 66 = some (.aload_n 0) := by decide +kernel
theorem i67_67 : am_ins 67 67 = some (.iconst 1) := by decide +kernel
theorem i67_68 : am_ins 67 68 = some (.invokevirtual 44) := by decide +kernel
theorem i67_71 : am_ins 67 71 = some (.ireturn) := by decide +kernel
theorem i68_0 : am_ins 68 0 = some (.aload_n 0) := by decide +kernel
theorem i68_1 : am_ins 68 1 = some (.iload_n 1) := by decide +kernel
theorem i68_2 : am_ins 68 2 = some (.sipush 700) := by decide +kernel
theorem i68_5 : am_ins 68 5 = some (.invokestatic 51) := by decide +kernel
theorem i68_8 : am_ins 68 8 = some (.putfield 57) := by decide +kernel
theorem i68_11 : am_ins 68 11 = some (.aload_n 0) := by decide +kernel
theorem i68_12 : am_ins 68 12 = some (.iconst 0) := by decide +kernel
theorem i68_13 : am_ins 68 13 = some (.putfield 60) := by decide +kernel
theorem i68_16 : am_ins 68 16 = some (.aload_n 0) := by decide +kernel
theorem i68_17 : am_ins 68 17 = some (.getfield 12) := by decide +kernel
theorem i68_20 : am_ins 68 20 = some (.iconst 0) := by decide +kernel
theorem i68_21 : am_ins 68 21 = some (.putfield 63) := by decide +kernel
theorem i68_24 : am_ins 68 24 = some (.aload_n 0) := by decide +kernel
theorem i68_25 : am_ins 68 25 = some (.getfield 12) := by decide +kernel
theorem i68_28 : am_ins 68 28 = some (.iconst 0) := by decide +kernel
theorem i68_29 : am_ins 68 29 = some (.putfield 66) := by decide +kernel
theorem i68_32 : am_ins 68 32 = some (.aload_n 0) := by decide +kernel
theorem i68_33 : am_ins 68 33 = some (.getfield 21) := by decide +kernel
theorem i68_36 : am_ins 68 36 = some (.iconst 0) := by decide +kernel
theorem i68_37 : am_ins 68 37 = some (.putfield 69) := by decide +kernel
theorem i68_40 : am_ins 68 40 = some (.aload_n 0) := by decide +kernel
theorem i68_41 : am_ins 68 41 = some (.getfield 21) := by decide +kernel
theorem i68_44 : am_ins 68 44 = some (.iconst 0) := by decide +kernel
theorem i68_45 : am_ins 68 45 = some (.putfield 72) := by decide +kernel
theorem i68_48 : am_ins 68 48 = some (.return_) := by decide +kernel
theorem i69_0 : am_ins 69 0 = some (.aload_n 0) := by decide +kernel
theorem i69_1 : am_ins 69 1 = some (.ldc 78) := by decide +kernel
theorem i69_3 : am_ins 69 3 = some (.invokevirtual 80) := by decide +kernel
theorem i69_6 : am_ins 69 6 = some (.ifCond .eq 22) := by decide +kernel
theorem i69_9 : am_ins 69 9 = some (.aload_n 0) := by decide +kernel
theorem i69_10 : am_ins 69 10 = some (.ldc 84) := by decide +kernel
theorem i69_12 : am_ins 69 12 = some (.invokevirtual 80) := by decide +kernel
theorem i69_15 : am_ins 69 15 = some (.ifCond .eq 13) := by decide +kernel
theorem i69_18 : am_ins 69 18 = some (.aload_n 0) := by decide +kernel
theorem i69_19 : am_ins 69 19 = some (.iconst 0) := by decide +kernel
theorem i69_20 : am_ins 69 20 = some (.bipush 9) := by decide +kernel
theorem i69_22 : am_ins 69 22 = some (.invokevirtual 86) := by decide +kernel
theorem i69_25 : am_ins 69 25 = some (.ifCond .ne 5) := by decide +kernel
theorem i69_28 : am_ins 69 28 = some (.iconst 0) := by decide +kernel
theorem i69_29 : am_ins 69 29 = some (.ireturn) := by decide +kernel
theorem i69_30 : am_ins 69 30 = some (.aload_n 0) := by decide +kernel
theorem i69_31 : am_ins 69 31 = some (.getfield 21) := by decide +kernel
theorem i69_34 : am_ins 69 34 = some (.getfield 90) := by decide +kernel
theorem i69_37 : am_ins 69 37 = some (.iconst 0) := by decide +kernel
theorem i69_38 : am_ins 69 38 = some (.aload_n 0) := by decide +kernel
theorem i69_39 : am_ins 69 39 = some (.getfield 94) := by decide +kernel
theorem i69_42 : am_ins 69 42 = some (.iastore) := by decide +kernel
theorem i69_43 : am_ins 69 43 = some (.aload_n 0) := by decide +kernel
theorem i69_44 : am_ins 69 44 = some (.ldc 97) := by decide +kernel
theorem i69_46 : am_ins 69 46 = some (.invokevirtual 80) := by decide +kernel
theorem i69_49 : am_ins 69 49 = some (.ifCond .eq 14) := by decide +kernel
theorem i69_52 : am_ins 69 52 = some (.aload_n 0) := by decide +kernel
theorem i69_53 : am_ins 69 53 = some (.iconst 1) := by decide +kernel
theorem i69_54 : am_ins 69 54 = some (.sipush 200) := by decide +kernel
theorem i69_57 : am_ins 69 57 = some (.invokevirtual 86) := by decide +kernel
theorem i69_60 : am_ins 69 60 = some (.ifCond .ne 5) := by decide +kernel
theorem i69_63 : am_ins 69 63 = some (.iconst 0) := by decide +kernel
theorem i69_64 : am_ins 69 64 = some (.ireturn) := by decide +kernel
theorem i69_65 : am_ins 69 65 = some (.aload_n 0) := by decide +kernel
theorem i69_66 : am_ins 69 66 = some (.getfield 21) := by decide +kernel
theorem i69_69 : am_ins 69 69 = some (.getfield 90) := by decide +kernel
theorem i69_72 : am_ins 69 72 = some (.iconst 1) := by decide +kernel
theorem i69_73 : am_ins 69 73 = some (.aload_n 0) := by decide +kernel
theorem i69_74 : am_ins 69 74 = some (.getfield 94) := by decide +kernel
theorem i69_77 : am_ins 69 77 = some (.iastore) := by decide +kernel
theorem i69_78 : am_ins 69 78 = some (.iconst 1) := by decide +kernel
theorem i69_79 : am_ins 69 79 = some (.ireturn) := by decide +kernel
theorem i70_0 : am_ins 70 0 = some (.aload_n 0) := by decide +kernel
theorem i70_1 : am_ins 70 1 = some (.invokevirtual 37) := by decide +kernel
theorem i70_4 : am_ins 70 4 = some (.aload_n 0) := by decide +kernel
theorem i70_5 : am_ins 70 5 = some (.aload_n 1) := by decide +kernel
theorem i70_6 : am_ins 70 6 = some (.invokevirtual 101) := by decide +kernel
theorem i70_9 : am_ins 70 9 = some (.ifCond .ne 11) := by decide +kernel
theorem i70_12 : am_ins 70 12 = some (.aload_n 0) := by decide +kernel
theorem i70_13 : am_ins 70 13 = some (.iconst 1) := by decide +kernel
theorem i70_14 : am_ins 70 14 = some (.invokevirtual 44) := by decide +kernel
theorem i70_17 : am_ins 70 17 = some (.ifCond .eq 7) := by decide +kernel
theorem i70_20 : am_ins 70 20 = some (.iconst 1) := by decide +kernel
theorem i70_21 : am_ins 70 21 = some (.goto 4) := by decide +kernel
theorem i70_24 : am_ins 70 24 = some (.iconst 0) := by decide +kernel
theorem i70_25 : am_ins 70 25 = some (.ireturn) := by decide +kernel
theorem i71_0 : am_ins 71 0 = some (.aload_n 0) := by decide +kernel
theorem i71_1 : am_ins 71 1 = some (.invokevirtual 160) := by decide +kernel
theorem i71_4 : am_ins 71 4 = some (.aload_n 0) := by decide +kernel
theorem i71_5 : am_ins 71 5 = some (.aload_n 0) := by decide +kernel
theorem i71_6 : am_ins 71 6 = some (.getfield 60) := by decide +kernel
theorem i71_9 : am_ins 71 9 = some (.putfield 75) := by decide +kernel
theorem i71_12 : am_ins 71 12 = some (.aload_n 0) := by decide +kernel
theorem i71_13 : am_ins 71 13 = some (.getfield 60) := by decide +kernel
theorem i71_16 : am_ins 71 16 = some (.aload_n 0) := by decide +kernel
theorem i71_17 : am_ins 71 17 = some (.getfield 57) := by decide +kernel
theorem i71_20 : am_ins 71 20 = some (.if_icmp .lt 11) := by decide +kernel
theorem i71_23 : am_ins 71 23 = some (.aload_n 0) := by decide +kernel
theorem i71_24 : am_ins 71 24 = some (.iconst 3) := by decide +kernel
theorem i71_25 : am_ins 71 25 = some (.putfield 40) := by decide +kernel
theorem i71_28 : am_ins 71 28 = some (.goto 80) := by decide +kernel
theorem i71_31 : am_ins 71 31 = some (.aload_n 0) := by decide +kernel
theorem i71_32 : am_ins 71 32 = some (.getfield 25) := by decide +kernel
theorem i71_35 : am_ins 71 35 = some (.aload_n 0) := by decide +kernel
theorem i71_36 : am_ins 71 36 = some (.getfield 60) := by decide +kernel
theorem i71_39 : am_ins 71 39 = some (.baload) := by decide +kernel
theorem i71_40 : am_ins 71 40 = some (.invokestatic 163) := by decide +kernel
theorem i71_43 : am_ins 71 43 = some (.ifCond .eq 10) := by decide +kernel
theorem i71_46 : am_ins 71 46 = some (.aload_n 0) := by decide +kernel
theorem i71_47 : am_ins 71 47 = some (.invokevirtual 167) := by decide +kernel
theorem i71_50 : am_ins 71 50 = some (.goto 58) := by decide +kernel
theorem i71_53 : am_ins 71 53 = some (.aload_n 0) := by decide +kernel
theorem i71_54 : am_ins 71 54 = some (.getfield 25) := by decide +kernel
theorem i71_57 : am_ins 71 57 = some (.aload_n 0) := by decide +kernel
theorem i71_58 : am_ins 71 58 = some (.getfield 60) := by decide +kernel
theorem i71_61 : am_ins 71 61 = some (.baload) := by decide +kernel
theorem i71_62 : am_ins 71 62 = some (.invokestatic 170) := by decide +kernel
theorem i71_65 : am_ins 71 65 = some (.ifCond .eq 10) := by decide +kernel
theorem i71_68 : am_ins 71 68 = some (.aload_n 0) := by decide +kernel
theorem i71_69 : am_ins 71 69 = some (.invokevirtual 173) := by decide +kernel
theorem i71_72 : am_ins 71 72 = some (.goto 36) := by decide +kernel
theorem i71_75 : am_ins 71 75 = some (.aload_n 0) := by decide +kernel
theorem i71_76 : am_ins 71 76 = some (.aload_n 0) := by decide +kernel
theorem i71_77 : am_ins 71 77 = some (.getfield 25) := by decide +kernel
theorem i71_80 : am_ins 71 80 = some (.aload_n 0) := by decide +kernel
theorem i71_81 : am_ins 71 81 = some (.getfield 60) := by decide +kernel
theorem i71_84 : am_ins 71 84 = some (.baload) := by decide +kernel
theorem i71_85 : am_ins 71 85 = some (.bipush 59) := by decide +kernel
theorem i71_87 : am_ins 71 87 = some (.if_icmp .ne 7) := by decide +kernel
theorem i71_90 : am_ins 71 90 = some (.iconst 2) := by decide +kernel
theorem i71_91 : am_ins 71 91 = some (.goto 4) := by decide +kernel
theorem i71_94 : am_ins 71 94 = some (.iconst 4) := by decide +kernel
theorem i71_95 : am_ins 71 95 = some (.putfield 40) := by decide +kernel
theorem i71_98 : am_ins 71 98 = some (.aload_n 0) := by decide +kernel
theorem i71_99 : am_ins 71 99 = some (.dup) := by decide +kernel
theorem i71_100 : am_ins 71 100 = some (.getfield 60) := by decide +kernel
theorem i71_103 : am_ins 71 103 = some (.iconst 1) := by decide +kernel
theorem i71_104 : am_ins 71 104 = some (.iadd) := by decide +kernel
theorem i71_105 : am_ins 71 105 = some (.putfield 60) := by decide +kernel
theorem i71_108 : am_ins 71 108 = some (.return_) := by decide +kernel
theorem i72_0 : am_ins 72 0 = some (.aload_n 0) := by decide +kernel
theorem i72_1 : am_ins 72 1 = some (.getfield 60) := by decide +kernel
theorem i72_4 : am_ins 72 4 = some (.aload_n 0) := by decide +kernel
theorem i72_5 : am_ins 72 5 = some (.getfield 57) := by decide +kernel
theorem i72_8 : am_ins 72 8 = some (.if_icmp .ge 30) := by decide +kernel
theorem i72_11 : am_ins 72 11 = some (.aload_n 0) := by decide +kernel
theorem i72_12 : am_ins 72 12 = some (.getfield 25) := by decide +kernel
theorem i72_15 : am_ins 72 15 = some (.aload_n 0) := by decide +kernel
theorem i72_16 : am_ins 72 16 = some (.getfield 60) := by decide +kernel
theorem i72_19 : am_ins 72 19 = some (.baload) := by decide +kernel
theorem i72_20 : am_ins 72 20 = some (.bipush 32) := by decide +kernel
theorem i72_22 : am_ins 72 22 = some (.if_icmp .ne 16) := by decide +kernel
theorem i72_25 : am_ins 72 25 = some (.aload_n 0) := by decide +kernel
theorem i72_26 : am_ins 72 26 = some (.dup) := by decide +kernel
theorem i72_27 : am_ins 72 27 = some (.getfield 60) := by decide +kernel
theorem i72_30 : am_ins 72 30 = some (.iconst 1) := by decide +kernel
theorem i72_31 : am_ins 72 31 = some (.iadd) := by decide +kernel
theorem i72_32 : am_ins 72 32 = some (.putfield 60) := by decide +kernel
theorem i72_35 : am_ins 72 35 = some (.goto (-35)) := by decide +kernel
theorem i72_38 : am_ins 72 38 = some (.return_) := by decide +kernel
theorem i73_0 : am_ins 73 0 = some (.iload_n 0) := by decide +kernel
theorem i73_1 : am_ins 73 1 = some (.bipush 97) := by decide +kernel
theorem i73_3 : am_ins 73 3 = some (.if_icmp .lt 13) := by decide +kernel
theorem i73_6 : am_ins 73 6 = some (.iload_n 0) := by decide +kernel
theorem i73_7 : am_ins 73 7 = some (.bipush 122) := by decide +kernel
theorem i73_9 : am_ins 73 9 = some (.if_icmp .gt 7) := by decide +kernel
theorem i73_12 : am_ins 73 12 = some (.iconst 1) := by decide +kernel
theorem i73_13 : am_ins 73 13 = some (.goto 4) := by decide +kernel
theorem i73_16 : am_ins 73 16 = some (.iconst 0) := by decide +kernel
theorem i73_17 : am_ins 73 17 = some (.ireturn) := by decide +kernel
theorem i74_0 : am_ins 74 0 = some (.aload_n 0) := by decide +kernel
theorem i74_1 : am_ins 74 1 = some (.getfield 60) := by decide +kernel
theorem i74_4 : am_ins 74 4 = some (.aload_n 0) := by decide +kernel
theorem i74_5 : am_ins 74 5 = some (.getfield 57) := by decide +kernel
theorem i74_8 : am_ins 74 8 = some (.if_icmp .ge 31) := by decide +kernel
theorem i74_11 : am_ins 74 11 = some (.aload_n 0) := by decide +kernel
theorem i74_12 : am_ins 74 12 = some (.getfield 25) := by decide +kernel
theorem i74_15 : am_ins 74 15 = some (.aload_n 0) := by decide +kernel
theorem i74_16 : am_ins 74 16 = some (.getfield 60) := by decide +kernel
theorem i74_19 : am_ins 74 19 = some (.baload) := by decide +kernel
theorem i74_20 : am_ins 74 20 = some (.invokestatic 163) := by decide +kernel
theorem i74_23 : am_ins 74 23 = some (.ifCond .eq 16) := by decide +kernel
theorem i74_26 : am_ins 74 26 = some (.aload_n 0) := by decide +kernel
theorem i74_27 : am_ins 74 27 = some (.dup) := by decide +kernel
theorem i74_28 : am_ins 74 28 = some (.getfield 60) := by decide +kernel
theorem i74_31 : am_ins 74 31 = some (.iconst 1) := by decide +kernel
theorem i74_32 : am_ins 74 32 = some (.iadd) := by decide +kernel
theorem i74_33 : am_ins 74 33 = some (.putfield 60) := by decide +kernel
theorem i74_36 : am_ins 74 36 = some (.goto (-36)) := by decide +kernel
theorem i74_39 : am_ins 74 39 = some (.aload_n 0) := by decide +kernel
theorem i74_40 : am_ins 74 40 = some (.aload_n 0) := by decide +kernel
theorem i74_41 : am_ins 74 41 = some (.getfield 60) := by decide +kernel
theorem i74_44 : am_ins 74 44 = some (.aload_n 0) := by decide +kernel
theorem i74_45 : am_ins 74 45 = some (.getfield 75) := by decide +kernel
theorem i74_48 : am_ins 74 48 = some (.isub) := by decide +kernel
theorem i74_49 : am_ins 74 49 = some (.bipush 8) := by decide +kernel
theorem i74_51 : am_ins 74 51 = some (.if_icmp .gt 7) := by decide +kernel
theorem i74_54 : am_ins 74 54 = some (.iconst 0) := by decide +kernel
theorem i74_55 : am_ins 74 55 = some (.goto 4) := by decide +kernel
theorem i74_58 : am_ins 74 58 = some (.iconst 4) := by decide +kernel
theorem i74_59 : am_ins 74 59 = some (.putfield 40) := by decide +kernel
theorem i74_62 : am_ins 74 62 = some (.return_) := by decide +kernel
theorem i75_0 : am_ins 75 0 = some (.iload_n 0) := by decide +kernel
theorem i75_1 : am_ins 75 1 = some (.bipush 48) := by decide +kernel
theorem i75_3 : am_ins 75 3 = some (.if_icmp .lt 13) := by decide +kernel
theorem i75_6 : am_ins 75 6 = some (.iload_n 0) := by decide +kernel
theorem i75_7 : am_ins 75 7 = some (.bipush 57) := by decide +kernel
theorem i75_9 : am_ins 75 9 = some (.if_icmp .gt 7) := by decide +kernel
theorem i75_12 : am_ins 75 12 = some (.iconst 1) := by decide +kernel
theorem i75_13 : am_ins 75 13 = some (.goto 4) := by decide +kernel
theorem i75_16 : am_ins 75 16 = some (.iconst 0) := by decide +kernel
theorem i75_17 : am_ins 75 17 = some (.ireturn) := by decide +kernel
theorem i76_0 : am_ins 76 0 = some (.aload_n 0) := by decide +kernel
theorem i76_1 : am_ins 76 1 = some (.iconst 0) := by decide +kernel
theorem i76_2 : am_ins 76 2 = some (.putfield 94) := by decide +kernel
theorem i76_5 : am_ins 76 5 = some (.aload_n 0) := by decide +kernel
theorem i76_6 : am_ins 76 6 = some (.getfield 60) := by decide +kernel
theorem i76_9 : am_ins 76 9 = some (.aload_n 0) := by decide +kernel
theorem i76_10 : am_ins 76 10 = some (.getfield 57) := by decide +kernel
theorem i76_13 : am_ins 76 13 = some (.if_icmp .ge 55) := by decide +kernel
theorem i76_16 : am_ins 76 16 = some (.aload_n 0) := by decide +kernel
theorem i76_17 : am_ins 76 17 = some (.getfield 25) := by decide +kernel
theorem i76_20 : am_ins 76 20 = some (.aload_n 0) := by decide +kernel
theorem i76_21 : am_ins 76 21 = some (.getfield 60) := by decide +kernel
theorem i76_24 : am_ins 76 24 = some (.baload) := by decide +kernel
theorem i76_25 : am_ins 76 25 = some (.invokestatic 170) := by decide +kernel
theorem i76_28 : am_ins 76 28 = some (.ifCond .eq 40) := by decide +kernel
theorem i76_31 : am_ins 76 31 = some (.aload_n 0) := by decide +kernel
theorem i76_32 : am_ins 76 32 = some (.aload_n 0) := by decide +kernel
theorem i76_33 : am_ins 76 33 = some (.getfield 94) := by decide +kernel
theorem i76_36 : am_ins 76 36 = some (.bipush 10) := by decide +kernel
theorem i76_38 : am_ins 76 38 = some (.imul) := by decide +kernel
theorem i76_39 : am_ins 76 39 = some (.aload_n 0) := by decide +kernel
theorem i76_40 : am_ins 76 40 = some (.getfield 25) := by decide +kernel
theorem i76_43 : am_ins 76 43 = some (.aload_n 0) := by decide +kernel
theorem i76_44 : am_ins 76 44 = some (.getfield 60) := by decide +kernel
theorem i76_47 : am_ins 76 47 = some (.baload) := by decide +kernel
theorem i76_48 : am_ins 76 48 = some (.iadd) := by decide +kernel
theorem i76_49 : am_ins 76 49 = some (.bipush 48) := by decide +kernel
theorem i76_51 : am_ins 76 51 = some (.isub) := by decide +kernel
theorem i76_52 : am_ins 76 52 = some (.putfield 94) := by decide +kernel
theorem i76_55 : am_ins 76 55 = some (.aload_n 0) := by decide +kernel
theorem i76_56 : am_ins 76 56 = some (.dup) := by decide +kernel
theorem i76_57 : am_ins 76 57 = some (.getfield 60) := by decide +kernel
theorem i76_60 : am_ins 76 60 = some (.iconst 1) := by decide +kernel
theorem i76_61 : am_ins 76 61 = some (.iadd) := by decide +kernel
theorem i76_62 : am_ins 76 62 = some (.putfield 60) := by decide +kernel
theorem i76_65 : am_ins 76 65 = some (.goto (-60)) := by decide +kernel
theorem i76_68 : am_ins 76 68 = some (.aload_n 0) := by decide +kernel
theorem i76_69 : am_ins 76 69 = some (.aload_n 0) := by decide +kernel
theorem i76_70 : am_ins 76 70 = some (.getfield 60) := by decide +kernel
theorem i76_73 : am_ins 76 73 = some (.aload_n 0) := by decide +kernel
theorem i76_74 : am_ins 76 74 = some (.getfield 75) := by decide +kernel
theorem i76_77 : am_ins 76 77 = some (.isub) := by decide +kernel
theorem i76_78 : am_ins 76 78 = some (.iconst 3) := by decide +kernel
theorem i76_79 : am_ins 76 79 = some (.if_icmp .gt 7) := by decide +kernel
theorem i76_82 : am_ins 76 82 = some (.iconst 1) := by decide +kernel
theorem i76_83 : am_ins 76 83 = some (.goto 4) := by decide +kernel
theorem i76_86 : am_ins 76 86 = some (.iconst 4) := by decide +kernel
theorem i76_87 : am_ins 76 87 = some (.putfield 40) := by decide +kernel
theorem i76_90 : am_ins 76 90 = some (.return_) := by decide +kernel
theorem i77_0 : am_ins 77 0 = some (.aload_n 0) := by decide +kernel
theorem i77_1 : am_ins 77 1 = some (.getfield 40) := by decide +kernel
theorem i77_4 : am_ins 77 4 = some (.ifCond .ne 19) := by decide +kernel
theorem i77_7 : am_ins 77 7 = some (.aload_n 0) := by decide +kernel
theorem i77_8 : am_ins 77 8 = some (.getfield 60) := by decide +kernel
theorem i77_11 : am_ins 77 11 = some (.aload_n 0) := by decide +kernel
theorem i77_12 : am_ins 77 12 = some (.getfield 75) := by decide +kernel
theorem i77_15 : am_ins 77 15 = some (.isub) := by decide +kernel
theorem i77_16 : am_ins 77 16 = some (.aload_n 1) := by decide +kernel
theorem i77_17 : am_ins 77 17 = some (.invokevirtual 150) := by decide +kernel
theorem i77_20 : am_ins 77 20 = some (.if_icmp .eq 5) := by decide +kernel
theorem i77_23 : am_ins 77 23 = some (.iconst 0) := by decide +kernel
theorem i77_24 : am_ins 77 24 = some (.ireturn) := by decide +kernel
theorem i77_25 : am_ins 77 25 = some (.iconst 0) := by decide +kernel
theorem i77_26 : am_ins 77 26 = some (.istore_n 2) := by decide +kernel
theorem i77_27 : am_ins 77 27 = some (.iload_n 2) := by decide +kernel
theorem i77_28 : am_ins 77 28 = some (.aload_n 1) := by decide +kernel
theorem i77_29 : am_ins 77 29 = some (.invokevirtual 150) := by decide +kernel
theorem i77_32 : am_ins 77 32 = some (.if_icmp .ge 30) := by decide +kernel
theorem i77_35 : am_ins 77 35 = some (.aload_n 0) := by decide +kernel
theorem i77_36 : am_ins 77 36 = some (.getfield 25) := by decide +kernel
theorem i77_39 : am_ins 77 39 = some (.aload_n 0) := by decide +kernel
theorem i77_40 : am_ins 77 40 = some (.getfield 75) := by decide +kernel
theorem i77_43 : am_ins 77 43 = some (.iload_n 2) := by decide +kernel
theorem i77_44 : am_ins 77 44 = some (.iadd) := by decide +kernel
theorem i77_45 : am_ins 77 45 = some (.baload) := by decide +kernel
theorem i77_46 : am_ins 77 46 = some (.aload_n 1) := by decide +kernel
theorem i77_47 : am_ins 77 47 = some (.iload_n 2) := by decide +kernel
theorem i77_48 : am_ins 77 48 = some (.invokevirtual 156) := by decide +kernel
theorem i77_51 : am_ins 77 51 = some (.if_icmp .eq 5) := by decide +kernel
theorem i77_54 : am_ins 77 54 = some (.iconst 0) := by decide +kernel
theorem i77_55 : am_ins 77 55 = some (.ireturn) := by decide +kernel
theorem i77_56 : am_ins 77 56 = some (.iinc 2 1) := by decide +kernel
theorem i77_59 : am_ins 77 59 = some (.goto (-32)) := by decide +kernel
theorem i77_62 : am_ins 77 62 = some (.iconst 1) := by decide +kernel
theorem i77_63 : am_ins 77 63 = some (.ireturn) := by decide +kernel
theorem i78_0 : am_ins 78 0 = some (.aload_n 0) := by decide +kernel
theorem i78_1 : am_ins 78 1 = some (.iload_n 1) := by decide +kernel
theorem i78_2 : am_ins 78 2 = some (.putfield 147) := by decide +kernel
theorem i78_5 : am_ins 78 5 = some (.iconst 0) := by decide +kernel
theorem i78_6 : am_ins 78 6 = some (.ireturn) := by decide +kernel
theorem i79_0 : am_ins 79 0 = some (.aload_n 0) := by decide +kernel
theorem i79_1 : am_ins 79 1 = some (.invokevirtual 37) := by decide +kernel
theorem i79_4 : am_ins 79 4 = some (.aload_n 0) := by decide +kernel
theorem i79_5 : am_ins 79 5 = some (.getfield 40) := by decide +kernel
theorem i79_8 : am_ins 79 8 = some (.iconst 1) := by decide +kernel
theorem i79_9 : am_ins 79 9 = some (.if_icmp .eq 9) := by decide +kernel
theorem i79_12 : am_ins 79 12 = some (.aload_n 0) := by decide +kernel
theorem i79_13 : am_ins 79 13 = some (.iconst 1) := by decide +kernel
theorem i79_14 : am_ins 79 14 = some (.invokevirtual 44) := by decide +kernel
theorem i79_17 : am_ins 79 17 = some (.ireturn) := by decide +kernel
theorem i79_18 : am_ins 79 18 = some (.aload_n 0) := by decide +kernel
theorem i79_19 : am_ins 79 19 = some (.getfield 94) := by decide +kernel
theorem i79_22 : am_ins 79 22 = some (.iload_n 1) := by decide +kernel
theorem i79_23 : am_ins 79 23 = some (.if_icmp .lt 11) := by decide +kernel
theorem i79_26 : am_ins 79 26 = some (.aload_n 0) := by decide +kernel
theorem i79_27 : am_ins 79 27 = some (.getfield 94) := by decide +kernel
theorem i79_30 : am_ins 79 30 = some (.iload_n 2) := by decide +kernel
theorem i79_31 : am_ins 79 31 = some (.if_icmp .le 11) := by decide +kernel
theorem i79_34 : am_ins 79 34 = some (.aload_n 0) := by decide +kernel
theorem i79_35 : am_ins 79 35 = some (.iconst 2) := by decide +kernel
theorem i79_36 : am_ins 79 36 = some (.invokevirtual 44) := by decide +kernel
theorem i79_39 : am_ins 79 39 = some (.ifCond .eq 7) := by decide +kernel
theorem i79_42 : am_ins 79 42 = some (.iconst 1) := by decide +kernel
theorem i79_43 : am_ins 79 43 = some (.goto 4) := by decide +kernel
theorem i79_46 : am_ins 79 46 = some (.iconst 0) := by decide +kernel
theorem i79_47 : am_ins 79 47 = some (.ireturn) := by decide +kernel
theorem i80_0 : am_ins 80 0 = some (.aload_n 0) := by decide +kernel
theorem i80_1 : am_ins 80 1 = some (.invokevirtual 37) := by decide +kernel
theorem i80_4 : am_ins 80 4 = some (.aload_n 0) := by decide +kernel
theorem i80_5 : am_ins 80 5 = some (.ldc 99) := by decide +kernel
theorem i80_7 : am_ins 80 7 = some (.invokevirtual 101) := by decide +kernel
theorem i80_10 : am_ins 80 10 = some (.ifCond .eq 8) := by decide +kernel
theorem i80_13 : am_ins 80 13 = some (.aload_n 0) := by decide +kernel
theorem i80_14 : am_ins 80 14 = some (.invokevirtual 104) := by decide +kernel
theorem i80_17 : am_ins 80 17 = some (.ireturn) := by decide +kernel
theorem i80_18 : am_ins 80 18 = some (.aload_n 0) := by decide +kernel
theorem i80_19 : am_ins 80 19 = some (.ldc 107) := by decide +kernel
theorem i80_21 : am_ins 80 21 = some (.invokevirtual 101) := by decide +kernel
theorem i80_24 : am_ins 80 24 = some (.ifCond .eq 8) := by decide +kernel
theorem i80_27 : am_ins 80 27 = some (.aload_n 0) := by decide +kernel
theorem i80_28 : am_ins 80 28 = some (.invokevirtual 108) := by decide +kernel
theorem i80_31 : am_ins 80 31 = some (.ireturn) := by decide +kernel
theorem i80_32 : am_ins 80 32 = some (.aload_n 0) := by decide +kernel
theorem i80_33 : am_ins 80 33 = some (.ldc 111) := by decide +kernel
theorem i80_35 : am_ins 80 35 = some (.invokevirtual 101) := by decide +kernel
theorem i80_38 : am_ins 80 38 = some (.ifCond .eq 8) := by decide +kernel
theorem i80_41 : am_ins 80 41 = some (.aload_n 0) := by decide +kernel
theorem i80_42 : am_ins 80 42 = some (.invokevirtual 113) := by decide +kernel
theorem i80_45 : am_ins 80 45 = some (.ireturn) := by decide +kernel
theorem i80_46 : am_ins 80 46 = some (.aload_n 0) := by decide +kernel
theorem i80_47 : am_ins 80 47 = some (.ldc 116) := by decide +kernel
theorem i80_49 : am_ins 80 49 = some (.invokevirtual 101) := by decide +kernel
theorem i80_52 : am_ins 80 52 = some (.ifCond .eq 8) := by decide +kernel
theorem i80_55 : am_ins 80 55 = some (.aload_n 0) := by decide +kernel
theorem i80_56 : am_ins 80 56 = some (.invokevirtual 118) := by decide +kernel
theorem i80_59 : am_ins 80 59 = some (.ireturn) := by decide +kernel
theorem i80_60 : am_ins 80 60 = some (.aload_n 0) := by decide +kernel
theorem i80_61 : am_ins 80 61 = some (.iconst 1) := by decide +kernel
theorem i80_62 : am_ins 80 62 = some (.invokevirtual 44) := by decide +kernel
theorem i80_65 : am_ins 80 65 = some (.ireturn) := by decide +kernel
theorem i81_0 : am_ins 81 0 = some (.aload_n 0) := by decide +kernel
theorem i81_1 : am_ins 81 1 = some (.getfield 12) := by decide +kernel
theorem i81_4 : am_ins 81 4 = some (.getfield 63) := by decide +kernel
theorem i81_7 : am_ins 81 7 = some (.iconst 4) := by decide +kernel
theorem i81_8 : am_ins 81 8 = some (.if_icmp .lt 9) := by decide +kernel
theorem i81_11 : am_ins 81 11 = some (.aload_n 0) := by decide +kernel
theorem i81_12 : am_ins 81 12 = some (.iconst 4) := by decide +kernel
theorem i81_13 : am_ins 81 13 = some (.invokevirtual 44) := by decide +kernel
theorem i81_16 : am_ins 81 16 = some (.ireturn) := by decide +kernel
theorem i81_17 : am_ins 81 17 = some (.aload_n 0) := by decide +kernel
theorem i81_18 : am_ins 81 18 = some (.iconst 1) := by decide +kernel
theorem i81_19 : am_ins 81 19 = some (.sipush 200) := by decide +kernel
theorem i81_22 : am_ins 81 22 = some (.invokevirtual 86) := by decide +kernel
theorem i81_25 : am_ins 81 25 = some (.ifCond .ne 5) := by decide +kernel
theorem i81_28 : am_ins 81 28 = some (.iconst 0) := by decide +kernel
theorem i81_29 : am_ins 81 29 = some (.ireturn) := by decide +kernel
theorem i81_30 : am_ins 81 30 = some (.aload_n 0) := by decide +kernel
theorem i81_31 : am_ins 81 31 = some (.getfield 94) := by decide +kernel
theorem i81_34 : am_ins 81 34 = some (.istore_n 1) := by decide +kernel
theorem i81_35 : am_ins 81 35 = some (.aload_n 0) := by decide +kernel
theorem i81_36 : am_ins 81 36 = some (.iconst 1) := by decide +kernel
theorem i81_37 : am_ins 81 37 = some (.bipush 99) := by decide +kernel
theorem i81_39 : am_ins 81 39 = some (.invokevirtual 86) := by decide +kernel
theorem i81_42 : am_ins 81 42 = some (.ifCond .ne 5) := by decide +kernel
theorem i81_45 : am_ins 81 45 = some (.iconst 0) := by decide +kernel
theorem i81_46 : am_ins 81 46 = some (.ireturn) := by decide +kernel
theorem i81_47 : am_ins 81 47 = some (.aload_n 0) := by decide +kernel
theorem i81_48 : am_ins 81 48 = some (.getfield 12) := by decide +kernel
theorem i81_51 : am_ins 81 51 = some (.iload_n 1) := by decide +kernel
theorem i81_52 : am_ins 81 52 = some (.aload_n 0) := by decide +kernel
theorem i81_53 : am_ins 81 53 = some (.getfield 94) := by decide +kernel
theorem i81_56 : am_ins 81 56 = some (.invokevirtual 121) := by decide +kernel
theorem i81_59 : am_ins 81 59 = some (.ifCond .eq 9) := by decide +kernel
theorem i81_62 : am_ins 81 62 = some (.aload_n 0) := by decide +kernel
theorem i81_63 : am_ins 81 63 = some (.iconst 3) := by decide +kernel
theorem i81_64 : am_ins 81 64 = some (.invokevirtual 44) := by decide +kernel
theorem i81_67 : am_ins 81 67 = some (.ireturn) := by decide +kernel
theorem i81_68 : am_ins 81 68 = some (.aload_n 0) := by decide +kernel
theorem i81_69 : am_ins 81 69 = some (.getfield 12) := by decide +kernel
theorem i81_72 : am_ins 81 72 = some (.iload_n 1) := by decide +kernel
theorem i81_73 : am_ins 81 73 = some (.aload_n 0) := by decide +kernel
theorem i81_74 : am_ins 81 74 = some (.getfield 94) := by decide +kernel
theorem i81_77 : am_ins 81 77 = some (.invokevirtual 124) := by decide +kernel
theorem i81_80 : am_ins 81 80 = some (.iconst 1) := by decide +kernel
theorem i81_81 : am_ins 81 81 = some (.ireturn) := by decide +kernel
theorem i82_0 : am_ins 82 0 = some (.aload_n 0) := by decide +kernel
theorem i82_1 : am_ins 82 1 = some (.iconst 0) := by decide +kernel
theorem i82_2 : am_ins 82 2 = some (.aload_n 0) := by decide +kernel
theorem i82_3 : am_ins 82 3 = some (.getfield 12) := by decide +kernel
theorem i82_6 : am_ins 82 6 = some (.getfield 63) := by decide +kernel
theorem i82_9 : am_ins 82 9 = some (.iconst 1) := by decide +kernel
theorem i82_10 : am_ins 82 10 = some (.isub) := by decide +kernel
theorem i82_11 : am_ins 82 11 = some (.invokevirtual 86) := by decide +kernel
theorem i82_14 : am_ins 82 14 = some (.ifCond .ne 5) := by decide +kernel
theorem i82_17 : am_ins 82 17 = some (.iconst 0) := by decide +kernel
theorem i82_18 : am_ins 82 18 = some (.ireturn) := by decide +kernel
theorem i82_19 : am_ins 82 19 = some (.aload_n 0) := by decide +kernel
theorem i82_20 : am_ins 82 20 = some (.getfield 94) := by decide +kernel
theorem i82_23 : am_ins 82 23 = some (.istore_n 1) := by decide +kernel
theorem i82_24 : am_ins 82 24 = some (.aload_n 0) := by decide +kernel
theorem i82_25 : am_ins 82 25 = some (.iconst 1) := by decide +kernel
theorem i82_26 : am_ins 82 26 = some (.bipush 9) := by decide +kernel
theorem i82_28 : am_ins 82 28 = some (.invokevirtual 86) := by decide +kernel
theorem i82_31 : am_ins 82 31 = some (.ifCond .ne 5) := by decide +kernel
theorem i82_34 : am_ins 82 34 = some (.iconst 0) := by decide +kernel
theorem i82_35 : am_ins 82 35 = some (.ireturn) := by decide +kernel
theorem i82_36 : am_ins 82 36 = some (.aload_n 0) := by decide +kernel
theorem i82_37 : am_ins 82 37 = some (.getfield 21) := by decide +kernel
theorem i82_40 : am_ins 82 40 = some (.getfield 69) := by decide +kernel
theorem i82_43 : am_ins 82 43 = some (.aload_n 0) := by decide +kernel
theorem i82_44 : am_ins 82 44 = some (.getfield 94) := by decide +kernel
theorem i82_47 : am_ins 82 47 = some (.iadd) := by decide +kernel
theorem i82_48 : am_ins 82 48 = some (.bipush 24) := by decide +kernel
theorem i82_50 : am_ins 82 50 = some (.if_icmp .le 9) := by decide +kernel
theorem i82_53 : am_ins 82 53 = some (.aload_n 0) := by decide +kernel
theorem i82_54 : am_ins 82 54 = some (.iconst 4) := by decide +kernel
theorem i82_55 : am_ins 82 55 = some (.invokevirtual 44) := by decide +kernel
theorem i82_58 : am_ins 82 58 = some (.ireturn) := by decide +kernel
theorem i82_59 : am_ins 82 59 = some (.iconst 0) := by decide +kernel
theorem i82_60 : am_ins 82 60 = some (.istore_n 2) := by decide +kernel
theorem i82_61 : am_ins 82 61 = some (.iload_n 2) := by decide +kernel
theorem i82_62 : am_ins 82 62 = some (.aload_n 0) := by decide +kernel
theorem i82_63 : am_ins 82 63 = some (.getfield 94) := by decide +kernel
theorem i82_66 : am_ins 82 66 = some (.if_icmp .ge 27) := by decide +kernel
theorem i82_69 : am_ins 82 69 = some (.aload_n 0) := by decide +kernel
theorem i82_70 : am_ins 82 70 = some (.getfield 21) := by decide +kernel
theorem i82_73 : am_ins 82 73 = some (.iload_n 1) := by decide +kernel
theorem i82_74 : am_ins 82 74 = some (.aload_n 0) := by decide +kernel
theorem i82_75 : am_ins 82 75 = some (.getfield 12) := by decide +kernel
theorem i82_78 : am_ins 82 78 = some (.getfield 128) := by decide +kernel
theorem i82_81 : am_ins 82 81 = some (.iload_n 1) := by decide +kernel
theorem i82_82 : am_ins 82 82 = some (.iaload) := by decide +kernel
theorem i82_83 : am_ins 82 83 = some (.invokevirtual 131) := by decide +kernel
theorem i82_86 : am_ins 82 86 = some (.pop) := by decide +kernel
theorem i82_87 : am_ins 82 87 = some (.iinc 2 1) := by decide +kernel
theorem i82_90 : am_ins 82 90 = some (.goto (-29)) := by decide +kernel
theorem i82_93 : am_ins 82 93 = some (.iconst 1) := by decide +kernel
theorem i82_94 : am_ins 82 94 = some (.ireturn) := by decide +kernel
theorem i83_0 : am_ins 83 0 = some (.aload_n 0) := by decide +kernel
theorem i83_1 : am_ins 83 1 = some (.getfield 21) := by decide +kernel
theorem i83_4 : am_ins 83 4 = some (.getfield 72) := by decide +kernel
theorem i83_7 : am_ins 83 7 = some (.bipush 12) := by decide +kernel
theorem i83_9 : am_ins 83 9 = some (.if_icmp .lt 9) := by decide +kernel
theorem i83_12 : am_ins 83 12 = some (.aload_n 0) := by decide +kernel
theorem i83_13 : am_ins 83 13 = some (.iconst 4) := by decide +kernel
theorem i83_14 : am_ins 83 14 = some (.invokevirtual 44) := by decide +kernel
theorem i83_17 : am_ins 83 17 = some (.ireturn) := by decide +kernel
theorem i83_18 : am_ins 83 18 = some (.aload_n 0) := by decide +kernel
theorem i83_19 : am_ins 83 19 = some (.iconst 1) := by decide +kernel
theorem i83_20 : am_ins 83 20 = some (.sipush 200) := by decide +kernel
theorem i83_23 : am_ins 83 23 = some (.invokevirtual 86) := by decide +kernel
theorem i83_26 : am_ins 83 26 = some (.ifCond .ne 5) := by decide +kernel
theorem i83_29 : am_ins 83 29 = some (.iconst 0) := by decide +kernel
theorem i83_30 : am_ins 83 30 = some (.ireturn) := by decide +kernel
theorem i83_31 : am_ins 83 31 = some (.aload_n 0) := by decide +kernel
theorem i83_32 : am_ins 83 32 = some (.getfield 94) := by decide +kernel
theorem i83_35 : am_ins 83 35 = some (.istore_n 1) := by decide +kernel
theorem i83_36 : am_ins 83 36 = some (.aload_n 0) := by decide +kernel
theorem i83_37 : am_ins 83 37 = some (.iconst 1) := by decide +kernel
theorem i83_38 : am_ins 83 38 = some (.bipush 9) := by decide +kernel
theorem i83_40 : am_ins 83 40 = some (.invokevirtual 86) := by decide +kernel
theorem i83_43 : am_ins 83 43 = some (.ifCond .ne 5) := by decide +kernel
theorem i83_46 : am_ins 83 46 = some (.iconst 0) := by decide +kernel
theorem i83_47 : am_ins 83 47 = some (.ireturn) := by decide +kernel
theorem i83_48 : am_ins 83 48 = some (.aload_n 0) := by decide +kernel
theorem i83_49 : am_ins 83 49 = some (.getfield 94) := by decide +kernel
theorem i83_52 : am_ins 83 52 = some (.istore_n 2) := by decide +kernel
theorem i83_53 : am_ins 83 53 = some (.aload_n 0) := by decide +kernel
theorem i83_54 : am_ins 83 54 = some (.iconst 0) := by decide +kernel
theorem i83_55 : am_ins 83 55 = some (.bipush 99) := by decide +kernel
theorem i83_57 : am_ins 83 57 = some (.invokevirtual 86) := by decide +kernel
theorem i83_60 : am_ins 83 60 = some (.ifCond .ne 5) := by decide +kernel
theorem i83_63 : am_ins 83 63 = some (.iconst 0) := by decide +kernel
theorem i83_64 : am_ins 83 64 = some (.ireturn) := by decide +kernel
theorem i83_65 : am_ins 83 65 = some (.aload_n 0) := by decide +kernel
theorem i83_66 : am_ins 83 66 = some (.getfield 94) := by decide +kernel
theorem i83_69 : am_ins 83 69 = some (.istore_n 3) := by decide +kernel
theorem i83_70 : am_ins 83 70 = some (.aload_n 0) := by decide +kernel
theorem i83_71 : am_ins 83 71 = some (.iconst 0) := by decide +kernel
theorem i83_72 : am_ins 83 72 = some (.bipush 99) := by decide +kernel
theorem i83_74 : am_ins 83 74 = some (.invokevirtual 86) := by decide +kernel
theorem i83_77 : am_ins 83 77 = some (.ifCond .ne 5) := by decide +kernel
theorem i83_80 : am_ins 83 80 = some (.iconst 0) := by decide +kernel
theorem i83_81 : am_ins 83 81 = some (.ireturn) := by decide +kernel
theorem i83_82 : am_ins 83 82 = some (.aload_n 0) := by decide +kernel
theorem i83_83 : am_ins 83 83 = some (.getfield 21) := by decide +kernel
theorem i83_86 : am_ins 83 86 = some (.iload_n 1) := by decide +kernel
theorem i83_87 : am_ins 83 87 = some (.iload_n 2) := by decide +kernel
theorem i83_88 : am_ins 83 88 = some (.iload_n 3) := by decide +kernel
theorem i83_89 : am_ins 83 89 = some (.aload_n 0) := by decide +kernel
theorem i83_90 : am_ins 83 90 = some (.getfield 94) := by decide +kernel
theorem i83_93 : am_ins 83 93 = some (.invokevirtual 134) := by decide +kernel
theorem i83_96 : am_ins 83 96 = some (.pop) := by decide +kernel
theorem i83_97 : am_ins 83 97 = some (.iconst 1) := by decide +kernel
theorem i83_98 : am_ins 83 98 = some (.ireturn) := by decide +kernel
theorem i84_0 : am_ins 84 0 = some (.aload_n 0) := by decide +kernel
theorem i84_1 : am_ins 84 1 = some (.getfield 12) := by decide +kernel
theorem i84_4 : am_ins 84 4 = some (.getfield 66) := by decide +kernel
theorem i84_7 : am_ins 84 7 = some (.bipush 6) := by decide +kernel
theorem i84_9 : am_ins 84 9 = some (.if_icmp .lt 9) := by decide +kernel
theorem i84_12 : am_ins 84 12 = some (.aload_n 0) := by decide +kernel
theorem i84_13 : am_ins 84 13 = some (.iconst 4) := by decide +kernel
theorem i84_14 : am_ins 84 14 = some (.invokevirtual 44) := by decide +kernel
theorem i84_17 : am_ins 84 17 = some (.ireturn) := by decide +kernel
theorem i84_18 : am_ins 84 18 = some (.aload_n 0) := by decide +kernel
theorem i84_19 : am_ins 84 19 = some (.getfield 12) := by decide +kernel
theorem i84_22 : am_ins 84 22 = some (.invokevirtual 138) := by decide +kernel
theorem i84_25 : am_ins 84 25 = some (.aload_n 0) := by decide +kernel
theorem i84_26 : am_ins 84 26 = some (.iconst 1) := by decide +kernel
theorem i84_27 : am_ins 84 27 = some (.sipush 200) := by decide +kernel
theorem i84_30 : am_ins 84 30 = some (.invokevirtual 86) := by decide +kernel
theorem i84_33 : am_ins 84 33 = some (.ifCond .ne 5) := by decide +kernel
theorem i84_36 : am_ins 84 36 = some (.iconst 0) := by decide +kernel
theorem i84_37 : am_ins 84 37 = some (.ireturn) := by decide +kernel
theorem i84_38 : am_ins 84 38 = some (.aload_n 0) := by decide +kernel
theorem i84_39 : am_ins 84 39 = some (.getfield 12) := by decide +kernel
theorem i84_42 : am_ins 84 42 = some (.aload_n 0) := by decide +kernel
theorem i84_43 : am_ins 84 43 = some (.getfield 94) := by decide +kernel
theorem i84_46 : am_ins 84 46 = some (.invokevirtual 141) := by decide +kernel
theorem i84_49 : am_ins 84 49 = some (.iconst 1) := by decide +kernel
theorem i84_50 : am_ins 84 50 = some (.istore_n 1) := by decide +kernel
theorem i84_51 : am_ins 84 51 = some (.iload_n 1) := by decide +kernel
theorem i84_52 : am_ins 84 52 = some (.bipush 6) := by decide +kernel
theorem i84_54 : am_ins 84 54 = some (.if_icmp .gt 52) := by decide +kernel
theorem i84_57 : am_ins 84 57 = some (.aload_n 0) := by decide +kernel
theorem i84_58 : am_ins 84 58 = some (.invokevirtual 144) := by decide +kernel
theorem i84_61 : am_ins 84 61 = some (.ifCond .eq 45) := by decide +kernel
theorem i84_64 : am_ins 84 64 = some (.aload_n 0) := by decide +kernel
theorem i84_65 : am_ins 84 65 = some (.iconst 1) := by decide +kernel
theorem i84_66 : am_ins 84 66 = some (.sipush 200) := by decide +kernel
theorem i84_69 : am_ins 84 69 = some (.invokevirtual 86) := by decide +kernel
theorem i84_72 : am_ins 84 72 = some (.ifCond .ne 5) := by decide +kernel
theorem i84_75 : am_ins 84 75 = some (.iconst 0) := by decide +kernel
theorem i84_76 : am_ins 84 76 = some (.ireturn) := by decide +kernel
theorem i84_77 : am_ins 84 77 = some (.iload_n 1) := by decide +kernel
theorem i84_78 : am_ins 84 78 = some (.bipush 6) := by decide +kernel
theorem i84_80 : am_ins 84 80 = some (.if_icmp .ne 9) := by decide +kernel
theorem i84_83 : am_ins 84 83 = some (.aload_n 0) := by decide +kernel
theorem i84_84 : am_ins 84 84 = some (.iconst 4) := by decide +kernel
theorem i84_85 : am_ins 84 85 = some (.invokevirtual 44) := by decide +kernel
theorem i84_88 : am_ins 84 88 = some (.ireturn) := by decide +kernel
theorem i84_89 : am_ins 84 89 = some (.aload_n 0) := by decide +kernel
theorem i84_90 : am_ins 84 90 = some (.getfield 12) := by decide +kernel
theorem i84_93 : am_ins 84 93 = some (.aload_n 0) := by decide +kernel
theorem i84_94 : am_ins 84 94 = some (.getfield 94) := by decide +kernel
theorem i84_97 : am_ins 84 97 = some (.invokevirtual 141) := by decide +kernel
theorem i84_100 : am_ins 84 100 = some (.iinc 1 1) := by decide +kernel
theorem i84_103 : am_ins 84 103 = some (.goto (-52)) := by decide +kernel
theorem i84_106 : am_ins 84 106 = some (.iconst 1) := by decide +kernel
theorem i84_107 : am_ins 84 107 = some (.ireturn) := by decide +kernel
theorem i85_0 : am_ins 85 0 = some (.aload_n 0) := by decide +kernel
theorem i85_1 : am_ins 85 1 = some (.invokevirtual 160) := by decide +kernel
theorem i85_4 : am_ins 85 4 = some (.aload_n 0) := by decide +kernel
theorem i85_5 : am_ins 85 5 = some (.getfield 60) := by decide +kernel
theorem i85_8 : am_ins 85 8 = some (.aload_n 0) := by decide +kernel
theorem i85_9 : am_ins 85 9 = some (.getfield 57) := by decide +kernel
theorem i85_12 : am_ins 85 12 = some (.if_icmp .ge 22) := by decide +kernel
theorem i85_15 : am_ins 85 15 = some (.aload_n 0) := by decide +kernel
theorem i85_16 : am_ins 85 16 = some (.getfield 25) := by decide +kernel
theorem i85_19 : am_ins 85 19 = some (.aload_n 0) := by decide +kernel
theorem i85_20 : am_ins 85 20 = some (.getfield 60) := by decide +kernel
theorem i85_23 : am_ins 85 23 = some (.baload) := by decide +kernel
theorem i85_24 : am_ins 85 24 = some (.invokestatic 170) := by decide +kernel
theorem i85_27 : am_ins 85 27 = some (.ifCond .eq 7) := by decide +kernel
theorem i85_30 : am_ins 85 30 = some (.iconst 1) := by decide +kernel
theorem i85_31 : am_ins 85 31 = some (.goto 4) := by decide +kernel
theorem i85_34 : am_ins 85 34 = some (.iconst 0) := by decide +kernel
theorem i85_35 : am_ins 85 35 = some (.ireturn) := by decide +kernel
theorem i86_0 : am_ins 86 0 = some (.iconst 0) := by decide +kernel
theorem i86_1 : am_ins 86 1 = some (.istore_n 1) := by decide +kernel
theorem i86_2 : am_ins 86 2 = some (.iconst 0) := by decide +kernel
theorem i86_3 : am_ins 86 3 = some (.istore_n 2) := by decide +kernel
theorem i86_4 : am_ins 86 4 = some (.iload_n 2) := by decide +kernel
theorem i86_5 : am_ins 86 5 = some (.aload_n 0) := by decide +kernel
theorem i86_6 : am_ins 86 6 = some (.getfield 75) := by decide +kernel
theorem i86_9 : am_ins 86 9 = some (.if_icmp .ge 23) := by decide +kernel
theorem i86_12 : am_ins 86 12 = some (.aload_n 0) := by decide +kernel
theorem i86_13 : am_ins 86 13 = some (.getfield 25) := by decide +kernel
theorem i86_16 : am_ins 86 16 = some (.iload_n 2) := by decide +kernel
theorem i86_17 : am_ins 86 17 = some (.baload) := by decide +kernel
theorem i86_18 : am_ins 86 18 = some (.bipush 59) := by decide +kernel
theorem i86_20 : am_ins 86 20 = some (.if_icmp .ne 6) := by decide +kernel
theorem i86_23 : am_ins 86 23 = some (.iinc 1 1) := by decide +kernel
theorem i86_26 : am_ins 86 26 = some (.iinc 2 1) := by decide +kernel
theorem i86_29 : am_ins 86 29 = some (.goto (-25)) := by decide +kernel
theorem i86_32 : am_ins 86 32 = some (.iload_n 1) := by decide +kernel
theorem i86_33 : am_ins 86 33 = some (.ireturn) := by decide +kernel
theorem i87_0 : am_ins 87 0 = some (.aload_n 0) := by decide +kernel
theorem i87_1 : am_ins 87 1 = some (.invokespecial 3) := by decide +kernel
theorem i87_4 : am_ins 87 4 = some (.aload_n 0) := by decide +kernel
theorem i87_5 : am_ins 87 5 = some (.sipush 700) := by decide +kernel
theorem i87_8 : am_ins 87 8 = some (.newarray .byte) := by decide +kernel
theorem i87_10 : am_ins 87 10 = some (.putfield 9) := by decide +kernel
theorem i87_13 : am_ins 87 13 = some (.aload_n 0) := by decide +kernel
theorem i87_14 : am_ins 87 14 = some (.new 13) := by decide +kernel
theorem i87_17 : am_ins 87 17 = some (.dup) := by decide +kernel
theorem i87_18 : am_ins 87 18 = some (.aload_n 0) := by decide +kernel
theorem i87_19 : am_ins 87 19 = some (.getfield 9) := by decide +kernel
theorem i87_22 : am_ins 87 22 = some (.invokespecial 15) := by decide +kernel
theorem i87_25 : am_ins 87 25 = some (.putfield 18) := by decide +kernel
theorem i87_28 : am_ins 87 28 = some (.aload_n 0) := by decide +kernel
theorem i87_29 : am_ins 87 29 = some (.iconst (-1)) := by decide +kernel
theorem i87_30 : am_ins 87 30 = some (.putfield 22) := by decide +kernel
theorem i87_33 : am_ins 87 33 = some (.aload_n 0) := by decide +kernel
theorem i87_34 : am_ins 87 34 = some (.iconst (-1)) := by decide +kernel
theorem i87_35 : am_ins 87 35 = some (.putfield 26) := by decide +kernel
theorem i87_38 : am_ins 87 38 = some (.aload_n 0) := by decide +kernel
theorem i87_39 : am_ins 87 39 = some (.new 29) := by decide +kernel
theorem i87_42 : am_ins 87 42 = some (.dup) := by decide +kernel
theorem i87_43 : am_ins 87 43 = some (.invokespecial 31) := by decide +kernel
theorem i87_46 : am_ins 87 46 = some (.putfield 32) := by decide +kernel
theorem i87_49 : am_ins 87 49 = some (.aload_n 0) := by decide +kernel
theorem i87_50 : am_ins 87 50 = some (.new 36) := by decide +kernel
theorem i87_53 : am_ins 87 53 = some (.dup) := by decide +kernel
theorem i87_54 : am_ins 87 54 = some (.invokespecial 38) := by decide +kernel
theorem i87_57 : am_ins 87 57 = some (.putfield 39) := by decide +kernel
theorem i87_60 : am_ins 87 60 = some (.aload_n 0) := by decide +kernel
theorem i87_61 : am_ins 87 61 = some (.new 43) := by decide +kernel
theorem i87_64 : am_ins 87 64 = some (.dup) := by decide +kernel
theorem i87_65 : am_ins 87 65 = some (.aload_n 0) := by decide +kernel
theorem i87_66 : am_ins 87 66 = some (.getfield 32) := by decide +kernel
theorem i87_69 : am_ins 87 69 = some (.aload_n 0) := by decide +kernel
theorem i87_70 : am_ins 87 70 = some (.getfield 39) := by decide +kernel
theorem i87_73 : am_ins 87 73 = some (.invokespecial 45) := by decide +kernel
theorem i87_76 : am_ins 87 76 = some (.putfield 48) := by decide +kernel
theorem i87_79 : am_ins 87 79 = some (.aload_n 0) := by decide +kernel
theorem i87_80 : am_ins 87 80 = some (.new 52) := by decide +kernel
theorem i87_83 : am_ins 87 83 = some (.dup) := by decide +kernel
theorem i87_84 : am_ins 87 84 = some (.aload_n 0) := by decide +kernel
theorem i87_85 : am_ins 87 85 = some (.getfield 32) := by decide +kernel
theorem i87_88 : am_ins 87 88 = some (.aload_n 0) := by decide +kernel
theorem i87_89 : am_ins 87 89 = some (.getfield 39) := by decide +kernel
theorem i87_92 : am_ins 87 92 = some (.invokespecial 54) := by decide +kernel
theorem i87_95 : am_ins 87 95 = some (.putfield 55) := by decide +kernel
theorem i87_98 : am_ins 87 98 = some (.aload_n 0) := by decide +kernel
theorem i87_99 : am_ins 87 99 = some (.new 59) := by decide +kernel
theorem i87_102 : am_ins 87 102 = some (.dup) := by decide +kernel
theorem i87_103 : am_ins 87 103 = some (.aload_n 0) := by decide +kernel
theorem i87_104 : am_ins 87 104 = some (.getfield 39) := by decide +kernel
theorem i87_107 : am_ins 87 107 = some (.invokespecial 61) := by decide +kernel
theorem i87_110 : am_ins 87 110 = some (.putfield 64) := by decide +kernel
theorem i87_113 : am_ins 87 113 = some (.aload_n 0) := by decide +kernel
theorem i87_114 : am_ins 87 114 = some (.new 68) := by decide +kernel
theorem i87_117 : am_ins 87 117 = some (.dup) := by decide +kernel
theorem i87_118 : am_ins 87 118 = some (.invokespecial 70) := by decide +kernel
theorem i87_121 : am_ins 87 121 = some (.putfield 71) := by decide +kernel
theorem i87_124 : am_ins 87 124 = some (.aload_n 0) := by decide +kernel
theorem i87_125 : am_ins 87 125 = some (.iconst 2) := by decide +kernel
theorem i87_126 : am_ins 87 126 = some (.anewarray 36) := by decide +kernel
theorem i87_129 : am_ins 87 129 = some (.putfield 75) := by decide +kernel
theorem i87_132 : am_ins 87 132 = some (.iconst 0) := by decide +kernel
theorem i87_133 : am_ins 87 133 = some (.istore_n 1) := by decide +kernel
theorem i87_134 : am_ins 87 134 = some (.iload_n 1) := by decide +kernel
theorem i87_135 : am_ins 87 135 = some (.iconst 2) := by decide +kernel
theorem i87_136 : am_ins 87 136 = some (.if_icmp .ge 22) := by decide +kernel
theorem i87_139 : am_ins 87 139 = some (.aload_n 0) := by decide +kernel
theorem i87_140 : am_ins 87 140 = some (.getfield 75) := by decide +kernel
theorem i87_143 : am_ins 87 143 = some (.iload_n 1) := by decide +kernel
theorem i87_144 : am_ins 87 144 = some (.new 36) := by decide +kernel
theorem i87_147 : am_ins 87 147 = some (.dup) := by decide +kernel
theorem i87_148 : am_ins 87 148 = some (.invokespecial 38) := by decide +kernel
theorem i87_151 : am_ins 87 151 = some (.aastore) := by decide +kernel
theorem i87_152 : am_ins 87 152 = some (.iinc 1 1) := by decide +kernel
theorem i87_155 : am_ins 87 155 = some (.goto (-21)) := by decide +kernel
theorem i87_158 : am_ins 87 158 = some (.aload_n 0) := by decide +kernel
theorem i87_159 : am_ins 87 159 = some (.iconst 2) := by decide +kernel
theorem i87_160 : am_ins 87 160 = some (.newarray .boolean) := by decide +kernel
theorem i87_162 : am_ins 87 162 = some (.putfield 79) := by decide +kernel
theorem i87_165 : am_ins 87 165 = some (.aload_n 0) := by decide +kernel
theorem i87_166 : am_ins 87 166 = some (.new 83) := by decide +kernel
theorem i87_169 : am_ins 87 169 = some (.dup) := by decide +kernel
theorem i87_170 : am_ins 87 170 = some (.invokespecial 85) := by decide +kernel
theorem i87_173 : am_ins 87 173 = some (.putfield 86) := by decide +kernel
theorem i87_176 : am_ins 87 176 = some (.return_) := by decide +kernel
theorem i88_0 : am_ins 88 0 = some (.aload_n 0) := by decide +kernel
theorem i88_1 : am_ins 88 1 = some (.getfield 90) := by decide +kernel
theorem i88_4 : am_ins 88 4 = some (.ifCond .lt 13) := by decide +kernel
theorem i88_7 : am_ins 88 7 = some (.aload_n 0) := by decide +kernel
theorem i88_8 : am_ins 88 8 = some (.getfield 90) := by decide +kernel
theorem i88_11 : am_ins 88 11 = some (.sipush 680) := by decide +kernel
theorem i88_14 : am_ins 88 14 = some (.if_icmp .le 5) := by decide +kernel
theorem i88_17 : am_ins 88 17 = some (.iconst (-1)) := by decide +kernel
theorem i88_18 : am_ins 88 18 = some (.ireturn) := by decide +kernel
theorem i88_19 : am_ins 88 19 = some (.aload_n 0) := by decide +kernel
theorem i88_20 : am_ins 88 20 = some (.iload_n 1) := by decide +kernel
theorem i88_21 : am_ins 88 21 = some (.aload_n 0) := by decide +kernel
theorem i88_22 : am_ins 88 22 = some (.getfield 90) := by decide +kernel
theorem i88_25 : am_ins 88 25 = some (.invokevirtual 93) := by decide +kernel
theorem i88_28 : am_ins 88 28 = some (.aload_n 0) := by decide +kernel
theorem i88_29 : am_ins 88 29 = some (.iload_n 2) := by decide +kernel
theorem i88_30 : am_ins 88 30 = some (.aload_n 0) := by decide +kernel
theorem i88_31 : am_ins 88 31 = some (.getfield 90) := by decide +kernel
theorem i88_34 : am_ins 88 34 = some (.iconst 4) := by decide +kernel
theorem i88_35 : am_ins 88 35 = some (.iadd) := by decide +kernel
theorem i88_36 : am_ins 88 36 = some (.invokevirtual 93) := by decide +kernel
theorem i88_39 : am_ins 88 39 = some (.aload_n 0) := by decide +kernel
theorem i88_40 : am_ins 88 40 = some (.iload_n 3) := by decide +kernel
theorem i88_41 : am_ins 88 41 = some (.aload_n 0) := by decide +kernel
theorem i88_42 : am_ins 88 42 = some (.getfield 90) := by decide +kernel
theorem i88_45 : am_ins 88 45 = some (.bipush 8) := by decide +kernel
theorem i88_47 : am_ins 88 47 = some (.iadd) := by decide +kernel
theorem i88_48 : am_ins 88 48 = some (.invokevirtual 93) := by decide +kernel
theorem i88_51 : am_ins 88 51 = some (.aload_n 0) := by decide +kernel
theorem i88_52 : am_ins 88 52 = some (.iload 4) := by decide +kernel
theorem i88_54 : am_ins 88 54 = some (.aload_n 0) := by decide +kernel
theorem i88_55 : am_ins 88 55 = some (.getfield 90) := by decide +kernel
theorem i88_58 : am_ins 88 58 = some (.bipush 12) := by decide +kernel
theorem i88_60 : am_ins 88 60 = some (.iadd) := by decide +kernel
theorem i88_61 : am_ins 88 61 = some (.invokevirtual 93) := by decide +kernel
theorem i88_64 : am_ins 88 64 = some (.aload_n 0) := by decide +kernel
theorem i88_65 : am_ins 88 65 = some (.iload 5) := by decide +kernel
theorem i88_67 : am_ins 88 67 = some (.aload_n 0) := by decide +kernel
theorem i88_68 : am_ins 88 68 = some (.getfield 90) := by decide +kernel
theorem i88_71 : am_ins 88 71 = some (.bipush 16) := by decide +kernel
theorem i88_73 : am_ins 88 73 = some (.iadd) := by decide +kernel
theorem i88_74 : am_ins 88 74 = some (.invokevirtual 93) := by decide +kernel
theorem i88_77 : am_ins 88 77 = some (.aload_n 0) := by decide +kernel
theorem i88_78 : am_ins 88 78 = some (.dup) := by decide +kernel
theorem i88_79 : am_ins 88 79 = some (.getfield 90) := by decide +kernel
theorem i88_82 : am_ins 88 82 = some (.bipush 20) := by decide +kernel
theorem i88_84 : am_ins 88 84 = some (.iadd) := by decide +kernel
theorem i88_85 : am_ins 88 85 = some (.putfield 90) := by decide +kernel
theorem i88_88 : am_ins 88 88 = some (.aload_n 0) := by decide +kernel
theorem i88_89 : am_ins 88 89 = some (.getfield 90) := by decide +kernel
theorem i88_92 : am_ins 88 92 = some (.ireturn) := by decide +kernel
theorem i89_0 : am_ins 89 0 = some (.iload_n 2) := by decide +kernel
theorem i89_1 : am_ins 89 1 = some (.ifCond .lt 10) := by decide +kernel
theorem i89_4 : am_ins 89 4 = some (.iload_n 2) := by decide +kernel
theorem i89_5 : am_ins 89 5 = some (.sipush 696) := by decide +kernel
theorem i89_8 : am_ins 89 8 = some (.if_icmp .le 4) := by decide +kernel
theorem i89_11 : am_ins 89 11 = some (.return_) := by decide +kernel
theorem i89_12 : am_ins 89 12 = some (.aload_n 0) := by decide +kernel
theorem i89_13 : am_ins 89 13 = some (.getfield 9) := by decide +kernel
theorem i89_16 : am_ins 89 16 = some (.iload_n 2) := by decide +kernel
theorem i89_17 : am_ins 89 17 = some (.iload_n 1) := by decide +kernel
theorem i89_18 : am_ins 89 18 = some (.bipush 24) := by decide +kernel
theorem i89_20 : am_ins 89 20 = some (.iushr) := by decide +kernel
theorem i89_21 : am_ins 89 21 = some (.i2b) := by decide +kernel
theorem i89_22 : am_ins 89 22 = some (.bastore) := by decide +kernel
theorem i89_23 : am_ins 89 23 = some (.aload_n 0) := by decide +kernel
theorem i89_24 : am_ins 89 24 = some (.getfield 9) := by decide +kernel
theorem i89_27 : am_ins 89 27 = some (.iload_n 2) := by decide +kernel
theorem i89_28 : am_ins 89 28 = some (.iconst 1) := by decide +kernel
theorem i89_29 : am_ins 89 29 = some (.iadd) := by decide +kernel
theorem i89_30 : am_ins 89 30 = some (.iload_n 1) := by decide +kernel
theorem i89_31 : am_ins 89 31 = some (.bipush 16) := by decide +kernel
theorem i89_33 : am_ins 89 33 = some (.iushr) := by decide +kernel
theorem i89_34 : am_ins 89 34 = some (.i2b) := by decide +kernel
theorem i89_35 : am_ins 89 35 = some (.bastore) := by decide +kernel
theorem i89_36 : am_ins 89 36 = some (.aload_n 0) := by decide +kernel
theorem i89_37 : am_ins 89 37 = some (.getfield 9) := by decide +kernel
theorem i89_40 : am_ins 89 40 = some (.iload_n 2) := by decide +kernel
theorem i89_41 : am_ins 89 41 = some (.iconst 2) := by decide +kernel
theorem i89_42 : am_ins 89 42 = some (.iadd) := by decide +kernel
theorem i89_43 : am_ins 89 43 = some (.iload_n 1) := by decide +kernel
theorem i89_44 : am_ins 89 44 = some (.bipush 8) := by decide +kernel
theorem i89_46 : am_ins 89 46 = some (.iushr) := by decide +kernel
theorem i89_47 : am_ins 89 47 = some (.i2b) := by decide +kernel
theorem i89_48 : am_ins 89 48 = some (.bastore) := by decide +kernel
theorem i89_49 : am_ins 89 49 = some (.aload_n 0) := by decide +kernel
theorem i89_50 : am_ins 89 50 = some (.getfield 9) := by decide +kernel
theorem i89_53 : am_ins 89 53 = some (.iload_n 2) := by decide +kernel
theorem i89_54 : am_ins 89 54 = some (.iconst 3) := by decide +kernel
theorem i89_55 : am_ins 89 55 = some (.iadd) := by decide +kernel
theorem i89_56 : am_ins 89 56 = some (.iload_n 1) := by decide +kernel
theorem i89_57 : am_ins 89 57 = some (.i2b) := by decide +kernel
theorem i89_58 : am_ins 89 58 = some (.bastore) := by decide +kernel
theorem i89_59 : am_ins 89 59 = some (.return_) := by decide +kernel
theorem i90_0 : am_ins 90 0 = some (.aload_n 0) := by decide +kernel
theorem i90_1 : am_ins 90 1 = some (.getfield 111) := by decide +kernel
theorem i90_4 : am_ins 90 4 = some (.ireturn) := by decide +kernel
theorem i91_0 : am_ins 91 0 = some (.aload_n 0) := by decide +kernel
theorem i91_1 : am_ins 91 1 = some (.getfield 22) := by decide +kernel
theorem i91_4 : am_ins 91 4 = some (.ireturn) := by decide +kernel
theorem i92_0 : am_ins 92 0 = some (.aload_n 0) := by decide +kernel
theorem i92_1 : am_ins 92 1 = some (.getfield 26) := by decide +kernel
theorem i92_4 : am_ins 92 4 = some (.ireturn) := by decide +kernel
theorem i94_0 : am_ins 94 0 = some (.aload_n 0) := by decide +kernel
theorem i94_1 : am_ins 94 1 = some (.getfield 268) := by decide +kernel
theorem i94_4 : am_ins 94 4 = some (.ifCond .eq 13) := by decide +kernel
theorem i94_7 : am_ins 94 7 = some (.aload_n 0) := by decide +kernel
theorem i94_8 : am_ins 94 8 = some (.getfield 39) := by decide +kernel
theorem i94_11 : am_ins 94 11 = some (.getfield 272) := by decide +kernel
theorem i94_14 : am_ins 94 14 = some (.goto 4) := by decide +kernel
theorem i94_17 : am_ins 94 17 = some (.iconst 0) := by decide +kernel
theorem i94_18 : am_ins 94 18 = some (.ireturn) := by decide +kernel
theorem i95_0 : am_ins 95 0 = some (.aload_n 0) := by decide +kernel
theorem i95_1 : am_ins 95 1 = some (.getfield 71) := by decide +kernel
theorem i95_4 : am_ins 95 4 = some (.getfield 343) := by decide +kernel
theorem i95_7 : am_ins 95 7 = some (.ireturn) := by decide +kernel
theorem i96_0 : am_ins 96 0 = some (.iload_n 1) := by decide +kernel
theorem i96_1 : am_ins 96 1 = some (.ifCond .lt 11) := by decide +kernel
theorem i96_4 : am_ins 96 4 = some (.iload_n 1) := by decide +kernel
theorem i96_5 : am_ins 96 5 = some (.aload_n 0) := by decide +kernel
theorem i96_6 : am_ins 96 6 = some (.getfield 90) := by decide +kernel
theorem i96_9 : am_ins 96 9 = some (.if_icmp .le 13) := by decide +kernel
theorem i96_12 : am_ins 96 12 = some (.new 97) := by decide +kernel
theorem i96_15 : am_ins 96 15 = some (.dup) := by decide +kernel
theorem i96_16 : am_ins 96 16 = some (.ldc 99) := by decide +kernel
theorem i96_18 : am_ins 96 18 = some (.invokespecial 101) := by decide +kernel
theorem i96_22 : am_ins 96 22 = some (.aload_n 0) := by decide +kernel
theorem i96_23 : am_ins 96 23 = some (.iconst 0) := by decide +kernel
theorem i96_24 : am_ins 96 24 = some (.putfield 90) := by decide +kernel
theorem i96_27 : am_ins 96 27 = some (.aload_n 0) := by decide +kernel
theorem i96_28 : am_ins 96 28 = some (.getfield 18) := by decide +kernel
theorem i96_31 : am_ins 96 31 = some (.iload_n 1) := by decide +kernel
theorem i96_32 : am_ins 96 32 = some (.invokevirtual 104) := by decide +kernel
theorem i96_35 : am_ins 96 35 = some (.ifCond .ne 46) := by decide +kernel
theorem i96_38 : am_ins 96 38 = some (.aload_n 0) := by decide +kernel
theorem i96_39 : am_ins 96 39 = some (.aload_n 0) := by decide +kernel
theorem i96_40 : am_ins 96 40 = some (.getfield 18) := by decide +kernel
theorem i96_43 : am_ins 96 43 = some (.getfield 108) := by decide +kernel
theorem i96_46 : am_ins 96 46 = some (.putfield 111) := by decide +kernel
theorem i96_49 : am_ins 96 49 = some (.aload_n 0) := by decide +kernel
theorem i96_50 : am_ins 96 50 = some (.aload_n 0) := by decide +kernel
theorem i96_51 : am_ins 96 51 = some (.getfield 18) := by decide +kernel
theorem i96_54 : am_ins 96 54 = some (.getfield 114) := by decide +kernel
theorem i96_57 : am_ins 96 57 = some (.putfield 22) := by decide +kernel
theorem i96_60 : am_ins 96 60 = some (.aload_n 0) := by decide +kernel
theorem i96_61 : am_ins 96 61 = some (.aload_n 0) := by decide +kernel
theorem i96_62 : am_ins 96 62 = some (.getfield 18) := by decide +kernel
theorem i96_65 : am_ins 96 65 = some (.invokevirtual 117) := by decide +kernel
theorem i96_68 : am_ins 96 68 = some (.putfield 26) := by decide +kernel
theorem i96_71 : am_ins 96 71 = some (.new 121) := by decide +kernel
theorem i96_74 : am_ins 96 74 = some (.dup) := by decide +kernel
theorem i96_75 : am_ins 96 75 = some (.ldc 123) := by decide +kernel
theorem i96_77 : am_ins 96 77 = some (.invokespecial 125) := by decide +kernel
theorem i96_81 : am_ins 96 81 = some (.aload_n 0) := by decide +kernel
theorem i96_82 : am_ins 96 82 = some (.iconst 0) := by decide +kernel
theorem i96_83 : am_ins 96 83 = some (.putfield 111) := by decide +kernel
theorem i96_86 : am_ins 96 86 = some (.aload_n 0) := by decide +kernel
theorem i96_87 : am_ins 96 87 = some (.iconst (-1)) := by decide +kernel
theorem i96_88 : am_ins 96 88 = some (.putfield 22) := by decide +kernel
theorem i96_91 : am_ins 96 91 = some (.aload_n 0) := by decide +kernel
theorem i96_92 : am_ins 96 92 = some (.iconst (-1)) := by decide +kernel
theorem i96_93 : am_ins 96 93 = some (.putfield 26) := by decide +kernel
theorem i96_96 : am_ins 96 96 = some (.aload_n 0) := by decide +kernel
theorem i96_97 : am_ins 96 97 = some (.invokevirtual 126) := by decide +kernel
theorem i96_100 : am_ins 96 100 = some (.aload_n 0) := by decide +kernel
theorem i96_101 : am_ins 96 101 = some (.getfield 39) := by decide +kernel
theorem i96_104 : am_ins 96 104 = some (.getfield 129) := by decide +kernel
theorem i96_107 : am_ins 96 107 = some (.ireturn) := by decide +kernel
theorem i97_0 : am_ins 97 0 = some (.aload_n 0) := by decide +kernel
theorem i97_1 : am_ins 97 1 = some (.getfield 32) := by decide +kernel
theorem i97_4 : am_ins 97 4 = some (.aload_n 0) := by decide +kernel
theorem i97_5 : am_ins 97 5 = some (.getfield 18) := by decide +kernel
theorem i97_8 : am_ins 97 8 = some (.getfield 360) := by decide +kernel
theorem i97_11 : am_ins 97 11 = some (.invokevirtual 361) := by decide +kernel
theorem i97_14 : am_ins 97 14 = some (.aload_n 0) := by decide +kernel
theorem i97_15 : am_ins 97 15 = some (.getfield 39) := by decide +kernel
theorem i97_18 : am_ins 97 18 = some (.aload_n 0) := by decide +kernel
theorem i97_19 : am_ins 97 19 = some (.getfield 18) := by decide +kernel
theorem i97_22 : am_ins 97 22 = some (.getfield 364) := by decide +kernel
theorem i97_25 : am_ins 97 25 = some (.invokevirtual 355) := by decide +kernel
theorem i97_28 : am_ins 97 28 = some (.aload_n 0) := by decide +kernel
theorem i97_29 : am_ins 97 29 = some (.getfield 71) := by decide +kernel
theorem i97_32 : am_ins 97 32 = some (.iconst 0) := by decide +kernel
theorem i97_33 : am_ins 97 33 = some (.putfield 343) := by decide +kernel
theorem i97_36 : am_ins 97 36 = some (.iconst 0) := by decide +kernel
theorem i97_37 : am_ins 97 37 = some (.istore_n 1) := by decide +kernel
theorem i97_38 : am_ins 97 38 = some (.iload_n 1) := by decide +kernel
theorem i97_39 : am_ins 97 39 = some (.iconst 2) := by decide +kernel
theorem i97_40 : am_ins 97 40 = some (.if_icmp .ge 16) := by decide +kernel
theorem i97_43 : am_ins 97 43 = some (.aload_n 0) := by decide +kernel
theorem i97_44 : am_ins 97 44 = some (.getfield 79) := by decide +kernel
theorem i97_47 : am_ins 97 47 = some (.iload_n 1) := by decide +kernel
theorem i97_48 : am_ins 97 48 = some (.iconst 0) := by decide +kernel
theorem i97_49 : am_ins 97 49 = some (.bastore) := by decide +kernel
theorem i97_50 : am_ins 97 50 = some (.iinc 1 1) := by decide +kernel
theorem i97_53 : am_ins 97 53 = some (.goto (-15)) := by decide +kernel
theorem i97_56 : am_ins 97 56 = some (.aload_n 0) := by decide +kernel
theorem i97_57 : am_ins 97 57 = some (.iconst 1) := by decide +kernel
theorem i97_58 : am_ins 97 58 = some (.putfield 268) := by decide +kernel
theorem i97_61 : am_ins 97 61 = some (.return_) := by decide +kernel
theorem i98_0 : am_ins 98 0 = some (.aload_n 0) := by decide +kernel
theorem i98_1 : am_ins 98 1 = some (.invokevirtual 132) := by decide +kernel
theorem i98_4 : am_ins 98 4 = some (.iload_n 1) := by decide +kernel
theorem i98_5 : am_ins 98 5 = some (.tableswitch 111 0 7 #[47, 55, 63, 71, 79, 87, 95, 103]) := by decide +kernel
theorem i98_52 : am_ins 98 52 = some (.aload_n 0) := by decide +kernel
theorem i98_53 : am_ins 98 53 = some (.getfield 32) := by decide +kernel
theorem i98_56 : am_ins 98 56 = some (.getfield 135) := by decide +kernel
theorem i98_59 : am_ins 98 59 = some (.ireturn) := by decide +kernel
theorem i98_60 : am_ins 98 60 = some (.aload_n 0) := by decide +kernel
theorem i98_61 : am_ins 98 61 = some (.getfield 39) := by decide +kernel
theorem i98_64 : am_ins 98 64 = some (.getfield 129) := by decide +kernel
theorem i98_67 : am_ins 98 67 = some (.ireturn) := by decide +kernel
theorem i98_68 : am_ins 98 68 = some (.aload_n 0) := by decide +kernel
theorem i98_69 : am_ins 98 69 = some (.getfield 39) := by decide +kernel
theorem i98_72 : am_ins 98 72 = some (.getfield 138) := by decide +kernel
theorem i98_75 : am_ins 98 75 = some (.ireturn) := by decide +kernel
theorem i98_76 : am_ins 98 76 = some (.aload_n 0) := by decide +kernel
theorem i98_77 : am_ins 98 77 = some (.getfield 32) := by decide +kernel
theorem i98_80 : am_ins 98 80 = some (.getfield 141) := by decide +kernel
theorem i98_83 : am_ins 98 83 = some (.ireturn) := by decide +kernel
theorem i98_84 : am_ins 98 84 = some (.aload_n 0) := by decide +kernel
theorem i98_85 : am_ins 98 85 = some (.getfield 39) := by decide +kernel
theorem i98_88 : am_ins 98 88 = some (.invokevirtual 144) := by decide +kernel
theorem i98_91 : am_ins 98 91 = some (.ireturn) := by decide +kernel
theorem i98_92 : am_ins 98 92 = some (.aload_n 0) := by decide +kernel
theorem i98_93 : am_ins 98 93 = some (.getfield 39) := by decide +kernel
theorem i98_96 : am_ins 98 96 = some (.invokevirtual 147) := by decide +kernel
theorem i98_99 : am_ins 98 99 = some (.ireturn) := by decide +kernel
theorem i98_100 : am_ins 98 100 = some (.aload_n 0) := by decide +kernel
theorem i98_101 : am_ins 98 101 = some (.getfield 39) := by decide +kernel
theorem i98_104 : am_ins 98 104 = some (.invokevirtual 150) := by decide +kernel
theorem i98_107 : am_ins 98 107 = some (.ireturn) := by decide +kernel
theorem i98_108 : am_ins 98 108 = some (.aload_n 0) := by decide +kernel
theorem i98_109 : am_ins 98 109 = some (.getfield 39) := by decide +kernel
theorem i98_112 : am_ins 98 112 = some (.invokevirtual 153) := by decide +kernel
theorem i98_115 : am_ins 98 115 = some (.ireturn) := by decide +kernel
theorem i98_116 : am_ins 98 116 = some (.new 121) := by decide +kernel
theorem i98_119 : am_ins 98 119 = some (.dup) := by decide +kernel
theorem i98_120 : am_ins 98 120 = some (.ldc 156) := by decide +kernel
theorem i98_122 : am_ins 98 122 = some (.invokespecial 125) := by decide +kernel
theorem i99_0 : am_ins 99 0 = some (.aload_n 0) := by decide +kernel
theorem i99_1 : am_ins 99 1 = some (.getfield 268) := by decide +kernel
theorem i99_4 : am_ins 99 4 = some (.ifCond .ne 14) := by decide +kernel
theorem i99_7 : am_ins 99 7 = some (.new 344) := by decide +kernel
theorem i99_10 : am_ins 99 10 = some (.dup) := by decide +kernel
theorem i99_11 : am_ins 99 11 = some (.ldc_w 365) := by decide +kernel
theorem i99_14 : am_ins 99 14 = some (.invokespecial 348) := by decide +kernel
theorem i99_18 : am_ins 99 18 = some (.return_) := by decide +kernel
