/-! THE SMALL MACHINE: instructions, part 2 (by program) -/
theorem i100_0 : am_ins 100 0 = some (.aload_n 0) := by decide +kernel
theorem i100_1 : am_ins 100 1 = some (.invokevirtual 132) := by decide +kernel
theorem i100_4 : am_ins 100 4 = some (.aload_n 0) := by decide +kernel
theorem i100_5 : am_ins 100 5 = some (.iload_n 1) := by decide +kernel
theorem i100_6 : am_ins 100 6 = some (.invokevirtual 158) := by decide +kernel
theorem i100_9 : am_ins 100 9 = some (.iload_n 2) := by decide +kernel
theorem i100_10 : am_ins 100 10 = some (.ifCond .eq 15) := by decide +kernel
theorem i100_13 : am_ins 100 13 = some (.aload_n 0) := by decide +kernel
theorem i100_14 : am_ins 100 14 = some (.getfield 32) := by decide +kernel
theorem i100_17 : am_ins 100 17 = some (.getfield 162) := by decide +kernel
theorem i100_20 : am_ins 100 20 = some (.iload_n 1) := by decide +kernel
theorem i100_21 : am_ins 100 21 = some (.iaload) := by decide +kernel
theorem i100_22 : am_ins 100 22 = some (.goto 12) := by decide +kernel
theorem i100_25 : am_ins 100 25 = some (.aload_n 0) := by decide +kernel
theorem i100_26 : am_ins 100 26 = some (.getfield 32) := by decide +kernel
theorem i100_29 : am_ins 100 29 = some (.getfield 166) := by decide +kernel
theorem i100_32 : am_ins 100 32 = some (.iload_n 1) := by decide +kernel
theorem i100_33 : am_ins 100 33 = some (.iaload) := by decide +kernel
theorem i100_34 : am_ins 100 34 = some (.ireturn) := by decide +kernel
theorem i101_0 : am_ins 101 0 = some (.iload_n 1) := by decide +kernel
theorem i101_1 : am_ins 101 1 = some (.ifCond .lt 14) := by decide +kernel
theorem i101_4 : am_ins 101 4 = some (.iload_n 1) := by decide +kernel
theorem i101_5 : am_ins 101 5 = some (.aload_n 0) := by decide +kernel
theorem i101_6 : am_ins 101 6 = some (.getfield 32) := by decide +kernel
theorem i101_9 : am_ins 101 9 = some (.getfield 135) := by decide +kernel
theorem i101_12 : am_ins 101 12 = some (.if_icmp .lt 14) := by decide +kernel
theorem i101_15 : am_ins 101 15 = some (.new 97) := by decide +kernel
theorem i101_18 : am_ins 101 18 = some (.dup) := by decide +kernel
theorem i101_19 : am_ins 101 19 = some (.ldc_w 367) := by decide +kernel
theorem i101_22 : am_ins 101 22 = some (.invokespecial 101) := by decide +kernel
theorem i101_26 : am_ins 101 26 = some (.return_) := by decide +kernel
theorem i102_0 : am_ins 102 0 = some (.aload_n 0) := by decide +kernel
theorem i102_1 : am_ins 102 1 = some (.invokevirtual 132) := by decide +kernel
theorem i102_4 : am_ins 102 4 = some (.aload_n 0) := by decide +kernel
theorem i102_5 : am_ins 102 5 = some (.iload_n 1) := by decide +kernel
theorem i102_6 : am_ins 102 6 = some (.invokevirtual 169) := by decide +kernel
theorem i102_9 : am_ins 102 9 = some (.iload_n 2) := by decide +kernel
theorem i102_10 : am_ins 102 10 = some (.iconst 0) := by decide +kernel
theorem i102_11 : am_ins 102 11 = some (.iconst 4) := by decide +kernel
theorem i102_12 : am_ins 102 12 = some (.invokestatic 172) := by decide +kernel
theorem i102_15 : am_ins 102 15 = some (.aload_n 0) := by decide +kernel
theorem i102_16 : am_ins 102 16 = some (.getfield 39) := by decide +kernel
theorem i102_19 : am_ins 102 19 = some (.getfield 176) := by decide +kernel
theorem i102_22 : am_ins 102 22 = some (.iload_n 2) := by decide +kernel
theorem i102_23 : am_ins 102 23 = some (.aaload) := by decide +kernel
theorem i102_24 : am_ins 102 24 = some (.iload_n 1) := by decide +kernel
theorem i102_25 : am_ins 102 25 = some (.iaload) := by decide +kernel
theorem i102_26 : am_ins 102 26 = some (.ireturn) := by decide +kernel
theorem i103_0 : am_ins 103 0 = some (.iload_n 1) := by decide +kernel
theorem i103_1 : am_ins 103 1 = some (.ifCond .lt 14) := by decide +kernel
theorem i103_4 : am_ins 103 4 = some (.iload_n 1) := by decide +kernel
theorem i103_5 : am_ins 103 5 = some (.aload_n 0) := by decide +kernel
theorem i103_6 : am_ins 103 6 = some (.getfield 39) := by decide +kernel
theorem i103_9 : am_ins 103 9 = some (.getfield 129) := by decide +kernel
theorem i103_12 : am_ins 103 12 = some (.if_icmp .lt 14) := by decide +kernel
theorem i103_15 : am_ins 103 15 = some (.new 97) := by decide +kernel
theorem i103_18 : am_ins 103 18 = some (.dup) := by decide +kernel
theorem i103_19 : am_ins 103 19 = some (.ldc_w 369) := by decide +kernel
theorem i103_22 : am_ins 103 22 = some (.invokespecial 101) := by decide +kernel
theorem i103_26 : am_ins 103 26 = some (.return_) := by decide +kernel
theorem i104_0 : am_ins 104 0 = some (.iload_n 0) := by decide +kernel
theorem i104_1 : am_ins 104 1 = some (.iload_n 1) := by decide +kernel
theorem i104_2 : am_ins 104 2 = some (.if_icmp .lt 8) := by decide +kernel
theorem i104_5 : am_ins 104 5 = some (.iload_n 0) := by decide +kernel
theorem i104_6 : am_ins 104 6 = some (.iload_n 2) := by decide +kernel
theorem i104_7 : am_ins 104 7 = some (.if_icmp .le 14) := by decide +kernel
theorem i104_10 : am_ins 104 10 = some (.new 121) := by decide +kernel
theorem i104_13 : am_ins 104 13 = some (.dup) := by decide +kernel
theorem i104_14 : am_ins 104 14 = some (.ldc_w 377) := by decide +kernel
theorem i104_17 : am_ins 104 17 = some (.invokespecial 125) := by decide +kernel
theorem i104_21 : am_ins 104 21 = some (.return_) := by decide +kernel
theorem i105_0 : am_ins 105 0 = some (.aload_n 0) := by decide +kernel
theorem i105_1 : am_ins 105 1 = some (.invokevirtual 132) := by decide +kernel
theorem i105_4 : am_ins 105 4 = some (.aload_n 0) := by decide +kernel
theorem i105_5 : am_ins 105 5 = some (.iload_n 1) := by decide +kernel
theorem i105_6 : am_ins 105 6 = some (.invokevirtual 180) := by decide +kernel
theorem i105_9 : am_ins 105 9 = some (.iload_n 2) := by decide +kernel
theorem i105_10 : am_ins 105 10 = some (.iconst 0) := by decide +kernel
theorem i105_11 : am_ins 105 11 = some (.bipush 7) := by decide +kernel
theorem i105_13 : am_ins 105 13 = some (.invokestatic 172) := by decide +kernel
theorem i105_16 : am_ins 105 16 = some (.aload_n 0) := by decide +kernel
theorem i105_17 : am_ins 105 17 = some (.getfield 39) := by decide +kernel
theorem i105_20 : am_ins 105 20 = some (.getfield 183) := by decide +kernel
theorem i105_23 : am_ins 105 23 = some (.iload_n 2) := by decide +kernel
theorem i105_24 : am_ins 105 24 = some (.aaload) := by decide +kernel
theorem i105_25 : am_ins 105 25 = some (.iload_n 1) := by decide +kernel
theorem i105_26 : am_ins 105 26 = some (.iaload) := by decide +kernel
theorem i105_27 : am_ins 105 27 = some (.ireturn) := by decide +kernel
theorem i106_0 : am_ins 106 0 = some (.iload_n 1) := by decide +kernel
theorem i106_1 : am_ins 106 1 = some (.ifCond .lt 14) := by decide +kernel
theorem i106_4 : am_ins 106 4 = some (.iload_n 1) := by decide +kernel
theorem i106_5 : am_ins 106 5 = some (.aload_n 0) := by decide +kernel
theorem i106_6 : am_ins 106 6 = some (.getfield 39) := by decide +kernel
theorem i106_9 : am_ins 106 9 = some (.getfield 138) := by decide +kernel
theorem i106_12 : am_ins 106 12 = some (.if_icmp .lt 14) := by decide +kernel
theorem i106_15 : am_ins 106 15 = some (.new 97) := by decide +kernel
theorem i106_18 : am_ins 106 18 = some (.dup) := by decide +kernel
theorem i106_19 : am_ins 106 19 = some (.ldc_w 371) := by decide +kernel
theorem i106_22 : am_ins 106 22 = some (.invokespecial 101) := by decide +kernel
theorem i106_26 : am_ins 106 26 = some (.return_) := by decide +kernel
theorem i107_0 : am_ins 107 0 = some (.aload_n 0) := by decide +kernel
theorem i107_1 : am_ins 107 1 = some (.invokevirtual 132) := by decide +kernel
theorem i107_4 : am_ins 107 4 = some (.aload_n 0) := by decide +kernel
theorem i107_5 : am_ins 107 5 = some (.iload_n 1) := by decide +kernel
theorem i107_6 : am_ins 107 6 = some (.invokevirtual 186) := by decide +kernel
theorem i107_9 : am_ins 107 9 = some (.aload_n 0) := by decide +kernel
theorem i107_10 : am_ins 107 10 = some (.getfield 32) := by decide +kernel
theorem i107_13 : am_ins 107 13 = some (.getfield 189) := by decide +kernel
theorem i107_16 : am_ins 107 16 = some (.iload_n 1) := by decide +kernel
theorem i107_17 : am_ins 107 17 = some (.iaload) := by decide +kernel
theorem i107_18 : am_ins 107 18 = some (.ireturn) := by decide +kernel
theorem i108_0 : am_ins 108 0 = some (.iload_n 1) := by decide +kernel
theorem i108_1 : am_ins 108 1 = some (.ifCond .lt 14) := by decide +kernel
theorem i108_4 : am_ins 108 4 = some (.iload_n 1) := by decide +kernel
theorem i108_5 : am_ins 108 5 = some (.aload_n 0) := by decide +kernel
theorem i108_6 : am_ins 108 6 = some (.getfield 32) := by decide +kernel
theorem i108_9 : am_ins 108 9 = some (.getfield 141) := by decide +kernel
theorem i108_12 : am_ins 108 12 = some (.if_icmp .lt 14) := by decide +kernel
theorem i108_15 : am_ins 108 15 = some (.new 97) := by decide +kernel
theorem i108_18 : am_ins 108 18 = some (.dup) := by decide +kernel
theorem i108_19 : am_ins 108 19 = some (.ldc_w 373) := by decide +kernel
theorem i108_22 : am_ins 108 22 = some (.invokespecial 101) := by decide +kernel
theorem i108_26 : am_ins 108 26 = some (.return_) := by decide +kernel
theorem i109_0 : am_ins 109 0 = some (.aload_n 0) := by decide +kernel
theorem i109_1 : am_ins 109 1 = some (.invokevirtual 132) := by decide +kernel
theorem i109_4 : am_ins 109 4 = some (.aload_n 0) := by decide +kernel
theorem i109_5 : am_ins 109 5 = some (.iload_n 1) := by decide +kernel
theorem i109_6 : am_ins 109 6 = some (.invokevirtual 186) := by decide +kernel
theorem i109_9 : am_ins 109 9 = some (.iload_n 2) := by decide +kernel
theorem i109_10 : am_ins 109 10 = some (.ifCond .lt 16) := by decide +kernel
theorem i109_13 : am_ins 109 13 = some (.iload_n 2) := by decide +kernel
theorem i109_14 : am_ins 109 14 = some (.aload_n 0) := by decide +kernel
theorem i109_15 : am_ins 109 15 = some (.getfield 32) := by decide +kernel
theorem i109_18 : am_ins 109 18 = some (.getfield 189) := by decide +kernel
theorem i109_21 : am_ins 109 21 = some (.iload_n 1) := by decide +kernel
theorem i109_22 : am_ins 109 22 = some (.iaload) := by decide +kernel
theorem i109_23 : am_ins 109 23 = some (.if_icmp .lt 13) := by decide +kernel
theorem i109_26 : am_ins 109 26 = some (.new 97) := by decide +kernel
theorem i109_29 : am_ins 109 29 = some (.dup) := by decide +kernel
theorem i109_30 : am_ins 109 30 = some (.ldc 192) := by decide +kernel
theorem i109_32 : am_ins 109 32 = some (.invokespecial 101) := by decide +kernel
theorem i109_36 : am_ins 109 36 = some (.aload_n 0) := by decide +kernel
theorem i109_37 : am_ins 109 37 = some (.getfield 32) := by decide +kernel
theorem i109_40 : am_ins 109 40 = some (.getfield 194) := by decide +kernel
theorem i109_43 : am_ins 109 43 = some (.iload_n 1) := by decide +kernel
theorem i109_44 : am_ins 109 44 = some (.aaload) := by decide +kernel
theorem i109_45 : am_ins 109 45 = some (.iload_n 2) := by decide +kernel
theorem i109_46 : am_ins 109 46 = some (.iaload) := by decide +kernel
theorem i109_47 : am_ins 109 47 = some (.ireturn) := by decide +kernel
theorem i110_0 : am_ins 110 0 = some (.aload_n 0) := by decide +kernel
theorem i110_1 : am_ins 110 1 = some (.invokevirtual 132) := by decide +kernel
theorem i110_4 : am_ins 110 4 = some (.iload_n 1) := by decide +kernel
theorem i110_5 : am_ins 110 5 = some (.iconst 0) := by decide +kernel
theorem i110_6 : am_ins 110 6 = some (.iconst 1) := by decide +kernel
theorem i110_7 : am_ins 110 7 = some (.invokestatic 172) := by decide +kernel
theorem i110_10 : am_ins 110 10 = some (.aload_n 0) := by decide +kernel
theorem i110_11 : am_ins 110 11 = some (.getfield 39) := by decide +kernel
theorem i110_14 : am_ins 110 14 = some (.getfield 197) := by decide +kernel
theorem i110_17 : am_ins 110 17 = some (.iload_n 1) := by decide +kernel
theorem i110_18 : am_ins 110 18 = some (.iaload) := by decide +kernel
theorem i110_19 : am_ins 110 19 = some (.ireturn) := by decide +kernel
theorem i111_0 : am_ins 111 0 = some (.aload_n 0) := by decide +kernel
theorem i111_1 : am_ins 111 1 = some (.invokevirtual 132) := by decide +kernel
theorem i111_4 : am_ins 111 4 = some (.aload_n 0) := by decide +kernel
theorem i111_5 : am_ins 111 5 = some (.getfield 39) := by decide +kernel
theorem i111_8 : am_ins 111 8 = some (.getfield 200) := by decide +kernel
theorem i111_11 : am_ins 111 11 = some (.ireturn) := by decide +kernel
theorem i112_0 : am_ins 112 0 = some (.aload_n 0) := by decide +kernel
theorem i112_1 : am_ins 112 1 = some (.invokevirtual 132) := by decide +kernel
theorem i112_4 : am_ins 112 4 = some (.iload_n 1) := by decide +kernel
theorem i112_5 : am_ins 112 5 = some (.invokestatic 203) := by decide +kernel
theorem i112_8 : am_ins 112 8 = some (.aload_n 0) := by decide +kernel
theorem i112_9 : am_ins 112 9 = some (.getfield 39) := by decide +kernel
theorem i112_12 : am_ins 112 12 = some (.iload_n 1) := by decide +kernel
theorem i112_13 : am_ins 112 13 = some (.invokevirtual 206) := by decide +kernel
theorem i112_16 : am_ins 112 16 = some (.ireturn) := by decide +kernel
theorem i113_0 : am_ins 113 0 = some (.iload_n 0) := by decide +kernel
theorem i113_1 : am_ins 113 1 = some (.iconst 1) := by decide +kernel
theorem i113_2 : am_ins 113 2 = some (.sipush 200) := by decide +kernel
theorem i113_5 : am_ins 113 5 = some (.invokestatic 172) := by decide +kernel
theorem i113_8 : am_ins 113 8 = some (.return_) := by decide +kernel
theorem i114_0 : am_ins 114 0 = some (.aload_n 0) := by decide +kernel
theorem i114_1 : am_ins 114 1 = some (.invokevirtual 132) := by decide +kernel
theorem i114_4 : am_ins 114 4 = some (.iload_n 1) := by decide +kernel
theorem i114_5 : am_ins 114 5 = some (.invokestatic 203) := by decide +kernel
theorem i114_8 : am_ins 114 8 = some (.aload_n 0) := by decide +kernel
theorem i114_9 : am_ins 114 9 = some (.getfield 39) := by decide +kernel
theorem i114_12 : am_ins 114 12 = some (.getfield 210) := by decide +kernel
theorem i114_15 : am_ins 114 15 = some (.iload_n 1) := by decide +kernel
theorem i114_16 : am_ins 114 16 = some (.iaload) := by decide +kernel
theorem i114_17 : am_ins 114 17 = some (.ireturn) := by decide +kernel
theorem i115_0 : am_ins 115 0 = some (.aload_n 0) := by decide +kernel
theorem i115_1 : am_ins 115 1 = some (.invokevirtual 132) := by decide +kernel
theorem i115_4 : am_ins 115 4 = some (.aload_n 0) := by decide +kernel
theorem i115_5 : am_ins 115 5 = some (.iload_n 1) := by decide +kernel
theorem i115_6 : am_ins 115 6 = some (.invokevirtual 169) := by decide +kernel
theorem i115_9 : am_ins 115 9 = some (.iload_n 2) := by decide +kernel
theorem i115_10 : am_ins 115 10 = some (.invokestatic 203) := by decide +kernel
theorem i115_13 : am_ins 115 13 = some (.aload_n 0) := by decide +kernel
theorem i115_14 : am_ins 115 14 = some (.getfield 48) := by decide +kernel
theorem i115_17 : am_ins 115 17 = some (.aload_n 0) := by decide +kernel
theorem i115_18 : am_ins 115 18 = some (.getfield 39) := by decide +kernel
theorem i115_21 : am_ins 115 21 = some (.getfield 176) := by decide +kernel
theorem i115_24 : am_ins 115 24 = some (.iconst 1) := by decide +kernel
theorem i115_25 : am_ins 115 25 = some (.aaload) := by decide +kernel
theorem i115_26 : am_ins 115 26 = some (.iload_n 1) := by decide +kernel
theorem i115_27 : am_ins 115 27 = some (.iaload) := by decide +kernel
theorem i115_28 : am_ins 115 28 = some (.iload_n 2) := by decide +kernel
theorem i115_29 : am_ins 115 29 = some (.invokevirtual 213) := by decide +kernel
theorem i115_32 : am_ins 115 32 = some (.ireturn) := by decide +kernel
theorem i116_0 : am_ins 116 0 = some (.aload_n 0) := by decide +kernel
theorem i116_1 : am_ins 116 1 = some (.invokevirtual 132) := by decide +kernel
theorem i116_4 : am_ins 116 4 = some (.iload_n 1) := by decide +kernel
theorem i116_5 : am_ins 116 5 = some (.invokestatic 203) := by decide +kernel
theorem i116_8 : am_ins 116 8 = some (.iload_n 2) := by decide +kernel
theorem i116_9 : am_ins 116 9 = some (.iconst 0) := by decide +kernel
theorem i116_10 : am_ins 116 10 = some (.iconst 2) := by decide +kernel
theorem i116_11 : am_ins 116 11 = some (.invokestatic 172) := by decide +kernel
theorem i116_14 : am_ins 116 14 = some (.aload_n 0) := by decide +kernel
theorem i116_15 : am_ins 116 15 = some (.getfield 48) := by decide +kernel
theorem i116_18 : am_ins 116 18 = some (.iload_n 1) := by decide +kernel
theorem i116_19 : am_ins 116 19 = some (.iload_n 2) := by decide +kernel
theorem i116_20 : am_ins 116 20 = some (.invokevirtual 217) := by decide +kernel
theorem i116_23 : am_ins 116 23 = some (.ireturn) := by decide +kernel
theorem i117_0 : am_ins 117 0 = some (.aload_n 0) := by decide +kernel
theorem i117_1 : am_ins 117 1 = some (.invokevirtual 132) := by decide +kernel
theorem i117_4 : am_ins 117 4 = some (.aload_n 0) := by decide +kernel
theorem i117_5 : am_ins 117 5 = some (.getfield 39) := by decide +kernel
theorem i117_8 : am_ins 117 8 = some (.invokevirtual 220) := by decide +kernel
theorem i117_11 : am_ins 117 11 = some (.ireturn) := by decide +kernel
theorem i118_0 : am_ins 118 0 = some (.aload_n 0) := by decide +kernel
theorem i118_1 : am_ins 118 1 = some (.invokevirtual 132) := by decide +kernel
theorem i118_4 : am_ins 118 4 = some (.iconst 0) := by decide +kernel
theorem i118_5 : am_ins 118 5 = some (.istore_n 1) := by decide +kernel
theorem i118_6 : am_ins 118 6 = some (.iconst 0) := by decide +kernel
theorem i118_7 : am_ins 118 7 = some (.istore_n 2) := by decide +kernel
theorem i118_8 : am_ins 118 8 = some (.iload_n 2) := by decide +kernel
theorem i118_9 : am_ins 118 9 = some (.aload_n 0) := by decide +kernel
theorem i118_10 : am_ins 118 10 = some (.getfield 39) := by decide +kernel
theorem i118_13 : am_ins 118 13 = some (.getfield 129) := by decide +kernel
theorem i118_16 : am_ins 118 16 = some (.if_icmp .ge 23) := by decide +kernel
theorem i118_19 : am_ins 118 19 = some (.iload_n 1) := by decide +kernel
theorem i118_20 : am_ins 118 20 = some (.aload_n 0) := by decide +kernel
theorem i118_21 : am_ins 118 21 = some (.getfield 39) := by decide +kernel
theorem i118_24 : am_ins 118 24 = some (.getfield 176) := by decide +kernel
theorem i118_27 : am_ins 118 27 = some (.iconst 1) := by decide +kernel
theorem i118_28 : am_ins 118 28 = some (.aaload) := by decide +kernel
theorem i118_29 : am_ins 118 29 = some (.iload_n 2) := by decide +kernel
theorem i118_30 : am_ins 118 30 = some (.iaload) := by decide +kernel
theorem i118_31 : am_ins 118 31 = some (.iadd) := by decide +kernel
theorem i118_32 : am_ins 118 32 = some (.istore_n 1) := by decide +kernel
theorem i118_33 : am_ins 118 33 = some (.iinc 2 1) := by decide +kernel
theorem i118_36 : am_ins 118 36 = some (.goto (-28)) := by decide +kernel
theorem i118_39 : am_ins 118 39 = some (.iload_n 1) := by decide +kernel
theorem i118_40 : am_ins 118 40 = some (.ireturn) := by decide +kernel
theorem i119_0 : am_ins 119 0 = some (.aload_n 0) := by decide +kernel
theorem i119_1 : am_ins 119 1 = some (.invokevirtual 132) := by decide +kernel
theorem i119_4 : am_ins 119 4 = some (.iconst 0) := by decide +kernel
theorem i119_5 : am_ins 119 5 = some (.istore_n 1) := by decide +kernel
theorem i119_6 : am_ins 119 6 = some (.iconst 0) := by decide +kernel
theorem i119_7 : am_ins 119 7 = some (.istore_n 2) := by decide +kernel
theorem i119_8 : am_ins 119 8 = some (.iload_n 2) := by decide +kernel
theorem i119_9 : am_ins 119 9 = some (.aload_n 0) := by decide +kernel
theorem i119_10 : am_ins 119 10 = some (.getfield 39) := by decide +kernel
theorem i119_13 : am_ins 119 13 = some (.getfield 129) := by decide +kernel
theorem i119_16 : am_ins 119 16 = some (.if_icmp .ge 32) := by decide +kernel
theorem i119_19 : am_ins 119 19 = some (.iload_n 1) := by decide +kernel
theorem i119_20 : am_ins 119 20 = some (.aload_n 0) := by decide +kernel
theorem i119_21 : am_ins 119 21 = some (.getfield 39) := by decide +kernel
theorem i119_24 : am_ins 119 24 = some (.getfield 176) := by decide +kernel
theorem i119_27 : am_ins 119 27 = some (.iconst 1) := by decide +kernel
theorem i119_28 : am_ins 119 28 = some (.aaload) := by decide +kernel
theorem i119_29 : am_ins 119 29 = some (.iload_n 2) := by decide +kernel
theorem i119_30 : am_ins 119 30 = some (.iaload) := by decide +kernel
theorem i119_31 : am_ins 119 31 = some (.aload_n 0) := by decide +kernel
theorem i119_32 : am_ins 119 32 = some (.getfield 48) := by decide +kernel
theorem i119_35 : am_ins 119 35 = some (.iload_n 2) := by decide +kernel
theorem i119_36 : am_ins 119 36 = some (.invokevirtual 223) := by decide +kernel
theorem i119_39 : am_ins 119 39 = some (.imul) := by decide +kernel
theorem i119_40 : am_ins 119 40 = some (.iadd) := by decide +kernel
theorem i119_41 : am_ins 119 41 = some (.istore_n 1) := by decide +kernel
theorem i119_42 : am_ins 119 42 = some (.iinc 2 1) := by decide +kernel
theorem i119_45 : am_ins 119 45 = some (.goto (-37)) := by decide +kernel
theorem i119_48 : am_ins 119 48 = some (.iload_n 1) := by decide +kernel
theorem i119_49 : am_ins 119 49 = some (.ireturn) := by decide +kernel
theorem i120_0 : am_ins 120 0 = some (.aload_n 0) := by decide +kernel
theorem i120_1 : am_ins 120 1 = some (.invokevirtual 132) := by decide +kernel
theorem i120_4 : am_ins 120 4 = some (.aload_n 0) := by decide +kernel
theorem i120_5 : am_ins 120 5 = some (.getfield 39) := by decide +kernel
theorem i120_8 : am_ins 120 8 = some (.sipush 200) := by decide +kernel
theorem i120_11 : am_ins 120 11 = some (.invokevirtual 226) := by decide +kernel
theorem i120_14 : am_ins 120 14 = some (.ireturn) := by decide +kernel
theorem i121_0 : am_ins 121 0 = some (.aload_n 0) := by decide +kernel
theorem i121_1 : am_ins 121 1 = some (.invokevirtual 132) := by decide +kernel
theorem i121_4 : am_ins 121 4 = some (.iconst 0) := by decide +kernel
theorem i121_5 : am_ins 121 5 = some (.istore_n 1) := by decide +kernel
theorem i121_6 : am_ins 121 6 = some (.iconst 0) := by decide +kernel
theorem i121_7 : am_ins 121 7 = some (.istore_n 2) := by decide +kernel
theorem i121_8 : am_ins 121 8 = some (.iload_n 2) := by decide +kernel
theorem i121_9 : am_ins 121 9 = some (.aload_n 0) := by decide +kernel
theorem i121_10 : am_ins 121 10 = some (.getfield 39) := by decide +kernel
theorem i121_13 : am_ins 121 13 = some (.getfield 138) := by decide +kernel
theorem i121_16 : am_ins 121 16 = some (.if_icmp .ge 44) := by decide +kernel
theorem i121_19 : am_ins 121 19 = some (.aload_n 0) := by decide +kernel
theorem i121_20 : am_ins 121 20 = some (.getfield 39) := by decide +kernel
theorem i121_23 : am_ins 121 23 = some (.getfield 183) := by decide +kernel
theorem i121_26 : am_ins 121 26 = some (.iconst 3) := by decide +kernel
theorem i121_27 : am_ins 121 27 = some (.aaload) := by decide +kernel
theorem i121_28 : am_ins 121 28 = some (.iload_n 2) := by decide +kernel
theorem i121_29 : am_ins 121 29 = some (.iaload) := by decide +kernel
theorem i121_30 : am_ins 121 30 = some (.aload_n 0) := by decide +kernel
theorem i121_31 : am_ins 121 31 = some (.getfield 39) := by decide +kernel
theorem i121_34 : am_ins 121 34 = some (.getfield 200) := by decide +kernel
theorem i121_37 : am_ins 121 37 = some (.if_icmp .ge 17) := by decide +kernel
theorem i121_40 : am_ins 121 40 = some (.iload_n 1) := by decide +kernel
theorem i121_41 : am_ins 121 41 = some (.aload_n 0) := by decide +kernel
theorem i121_42 : am_ins 121 42 = some (.getfield 39) := by decide +kernel
theorem i121_45 : am_ins 121 45 = some (.getfield 183) := by decide +kernel
theorem i121_48 : am_ins 121 48 = some (.iconst 4) := by decide +kernel
theorem i121_49 : am_ins 121 49 = some (.aaload) := by decide +kernel
theorem i121_50 : am_ins 121 50 = some (.iload_n 2) := by decide +kernel
theorem i121_51 : am_ins 121 51 = some (.iaload) := by decide +kernel
theorem i121_52 : am_ins 121 52 = some (.iadd) := by decide +kernel
theorem i121_53 : am_ins 121 53 = some (.istore_n 1) := by decide +kernel
theorem i121_54 : am_ins 121 54 = some (.iinc 2 1) := by decide +kernel
theorem i121_57 : am_ins 121 57 = some (.goto (-49)) := by decide +kernel
theorem i121_60 : am_ins 121 60 = some (.iload_n 1) := by decide +kernel
theorem i121_61 : am_ins 121 61 = some (.ireturn) := by decide +kernel
theorem i122_0 : am_ins 122 0 = some (.aload_n 0) := by decide +kernel
theorem i122_1 : am_ins 122 1 = some (.invokevirtual 132) := by decide +kernel
theorem i122_4 : am_ins 122 4 = some (.aload_n 0) := by decide +kernel
theorem i122_5 : am_ins 122 5 = some (.iload_n 1) := by decide +kernel
theorem i122_6 : am_ins 122 6 = some (.invokevirtual 186) := by decide +kernel
theorem i122_9 : am_ins 122 9 = some (.aload_n 0) := by decide +kernel
theorem i122_10 : am_ins 122 10 = some (.iload_n 2) := by decide +kernel
theorem i122_11 : am_ins 122 11 = some (.invokevirtual 169) := by decide +kernel
theorem i122_14 : am_ins 122 14 = some (.aload_n 0) := by decide +kernel
theorem i122_15 : am_ins 122 15 = some (.getfield 48) := by decide +kernel
theorem i122_18 : am_ins 122 18 = some (.iload_n 1) := by decide +kernel
theorem i122_19 : am_ins 122 19 = some (.iload_n 2) := by decide +kernel
theorem i122_20 : am_ins 122 20 = some (.invokevirtual 229) := by decide +kernel
theorem i122_23 : am_ins 122 23 = some (.iconst (-1)) := by decide +kernel
theorem i122_24 : am_ins 122 24 = some (.if_icmp .eq 7) := by decide +kernel
theorem i122_27 : am_ins 122 27 = some (.iconst 1) := by decide +kernel
theorem i122_28 : am_ins 122 28 = some (.goto 4) := by decide +kernel
theorem i122_31 : am_ins 122 31 = some (.iconst 0) := by decide +kernel
theorem i122_32 : am_ins 122 32 = some (.ireturn) := by decide +kernel
theorem i123_0 : am_ins 123 0 = some (.aload_n 0) := by decide +kernel
theorem i123_1 : am_ins 123 1 = some (.invokevirtual 132) := by decide +kernel
theorem i123_4 : am_ins 123 4 = some (.aload_n 0) := by decide +kernel
theorem i123_5 : am_ins 123 5 = some (.iload_n 1) := by decide +kernel
theorem i123_6 : am_ins 123 6 = some (.invokevirtual 186) := by decide +kernel
theorem i123_9 : am_ins 123 9 = some (.aload_n 0) := by decide +kernel
theorem i123_10 : am_ins 123 10 = some (.iload_n 2) := by decide +kernel
theorem i123_11 : am_ins 123 11 = some (.invokevirtual 169) := by decide +kernel
theorem i123_14 : am_ins 123 14 = some (.aload_n 0) := by decide +kernel
theorem i123_15 : am_ins 123 15 = some (.getfield 48) := by decide +kernel
theorem i123_18 : am_ins 123 18 = some (.iload_n 1) := by decide +kernel
theorem i123_19 : am_ins 123 19 = some (.iload_n 2) := by decide +kernel
theorem i123_20 : am_ins 123 20 = some (.invokevirtual 229) := by decide +kernel
theorem i123_23 : am_ins 123 23 = some (.ireturn) := by decide +kernel
theorem i124_0 : am_ins 124 0 = some (.aload_n 0) := by decide +kernel
theorem i124_1 : am_ins 124 1 = some (.invokevirtual 132) := by decide +kernel
theorem i124_4 : am_ins 124 4 = some (.aload_n 0) := by decide +kernel
theorem i124_5 : am_ins 124 5 = some (.iload_n 1) := by decide +kernel
theorem i124_6 : am_ins 124 6 = some (.invokevirtual 186) := by decide +kernel
theorem i124_9 : am_ins 124 9 = some (.aload_n 0) := by decide +kernel
theorem i124_10 : am_ins 124 10 = some (.getfield 48) := by decide +kernel
theorem i124_13 : am_ins 124 13 = some (.iload_n 1) := by decide +kernel
theorem i124_14 : am_ins 124 14 = some (.invokevirtual 232) := by decide +kernel
theorem i124_17 : am_ins 124 17 = some (.ireturn) := by decide +kernel
theorem i125_0 : am_ins 125 0 = some (.aload_n 0) := by decide +kernel
theorem i125_1 : am_ins 125 1 = some (.invokevirtual 132) := by decide +kernel
theorem i125_4 : am_ins 125 4 = some (.iconst 0) := by decide +kernel
theorem i125_5 : am_ins 125 5 = some (.istore_n 1) := by decide +kernel
theorem i125_6 : am_ins 125 6 = some (.iconst 0) := by decide +kernel
theorem i125_7 : am_ins 125 7 = some (.istore_n 2) := by decide +kernel
theorem i125_8 : am_ins 125 8 = some (.iload_n 2) := by decide +kernel
theorem i125_9 : am_ins 125 9 = some (.aload_n 0) := by decide +kernel
theorem i125_10 : am_ins 125 10 = some (.getfield 32) := by decide +kernel
theorem i125_13 : am_ins 125 13 = some (.getfield 141) := by decide +kernel
theorem i125_16 : am_ins 125 16 = some (.if_icmp .ge 26) := by decide +kernel
theorem i125_19 : am_ins 125 19 = some (.aload_n 0) := by decide +kernel
theorem i125_20 : am_ins 125 20 = some (.getfield 48) := by decide +kernel
theorem i125_23 : am_ins 125 23 = some (.iload_n 2) := by decide +kernel
theorem i125_24 : am_ins 125 24 = some (.invokevirtual 235) := by decide +kernel
theorem i125_27 : am_ins 125 27 = some (.ifCond .eq 9) := by decide +kernel
theorem i125_30 : am_ins 125 30 = some (.iload_n 1) := by decide +kernel
theorem i125_31 : am_ins 125 31 = some (.iconst 1) := by decide +kernel
theorem i125_32 : am_ins 125 32 = some (.iload_n 2) := by decide +kernel
theorem i125_33 : am_ins 125 33 = some (.ishl) := by decide +kernel
theorem i125_34 : am_ins 125 34 = some (.ior) := by decide +kernel
theorem i125_35 : am_ins 125 35 = some (.istore_n 1) := by decide +kernel
theorem i125_36 : am_ins 125 36 = some (.iinc 2 1) := by decide +kernel
theorem i125_39 : am_ins 125 39 = some (.goto (-31)) := by decide +kernel
theorem i125_42 : am_ins 125 42 = some (.iload_n 1) := by decide +kernel
theorem i125_43 : am_ins 125 43 = some (.ireturn) := by decide +kernel
theorem i126_0 : am_ins 126 0 = some (.aload_n 0) := by decide +kernel
theorem i126_1 : am_ins 126 1 = some (.invokevirtual 132) := by decide +kernel
theorem i126_4 : am_ins 126 4 = some (.aload_n 0) := by decide +kernel
theorem i126_5 : am_ins 126 5 = some (.iload_n 1) := by decide +kernel
theorem i126_6 : am_ins 126 6 = some (.invokevirtual 169) := by decide +kernel
theorem i126_9 : am_ins 126 9 = some (.aload_n 0) := by decide +kernel
theorem i126_10 : am_ins 126 10 = some (.getfield 64) := by decide +kernel
theorem i126_13 : am_ins 126 13 = some (.aload_n 0) := by decide +kernel
theorem i126_14 : am_ins 126 14 = some (.getfield 39) := by decide +kernel
theorem i126_17 : am_ins 126 17 = some (.getfield 176) := by decide +kernel
theorem i126_20 : am_ins 126 20 = some (.iconst 1) := by decide +kernel
theorem i126_21 : am_ins 126 21 = some (.aaload) := by decide +kernel
theorem i126_22 : am_ins 126 22 = some (.iload_n 1) := by decide +kernel
theorem i126_23 : am_ins 126 23 = some (.iaload) := by decide +kernel
theorem i126_24 : am_ins 126 24 = some (.invokevirtual 238) := by decide +kernel
theorem i126_27 : am_ins 126 27 = some (.aload_n 0) := by decide +kernel
theorem i126_28 : am_ins 126 28 = some (.getfield 64) := by decide +kernel
theorem i126_31 : am_ins 126 31 = some (.getfield 241) := by decide +kernel
theorem i126_34 : am_ins 126 34 = some (.ireturn) := by decide +kernel
theorem i128_0 : am_ins 128 0 = some (.aload_n 0) := by decide +kernel
theorem i128_1 : am_ins 128 1 = some (.invokevirtual 132) := by decide +kernel
theorem i128_4 : am_ins 128 4 = some (.iload_n 1) := by decide +kernel
theorem i128_5 : am_ins 128 5 = some (.iconst 0) := by decide +kernel
theorem i128_6 : am_ins 128 6 = some (.iconst 3) := by decide +kernel
theorem i128_7 : am_ins 128 7 = some (.invokestatic 172) := by decide +kernel
theorem i128_10 : am_ins 128 10 = some (.aload_n 0) := by decide +kernel
theorem i128_11 : am_ins 128 11 = some (.getfield 55) := by decide +kernel
theorem i128_14 : am_ins 128 14 = some (.iload_n 1) := by decide +kernel
theorem i128_15 : am_ins 128 15 = some (.invokevirtual 247) := by decide +kernel
theorem i128_18 : am_ins 128 18 = some (.ireturn) := by decide +kernel
theorem i130_0 : am_ins 130 0 = some (.aload_n 0) := by decide +kernel
theorem i130_1 : am_ins 130 1 = some (.invokevirtual 132) := by decide +kernel
theorem i130_4 : am_ins 130 4 = some (.aload_n 0) := by decide +kernel
theorem i130_5 : am_ins 130 5 = some (.iload_n 2) := by decide +kernel
theorem i130_6 : am_ins 130 6 = some (.invokevirtual 180) := by decide +kernel
theorem i130_9 : am_ins 130 9 = some (.iload_n 1) := by decide +kernel
theorem i130_10 : am_ins 130 10 = some (.iconst 0) := by decide +kernel
theorem i130_11 : am_ins 130 11 = some (.iconst 3) := by decide +kernel
theorem i130_12 : am_ins 130 12 = some (.invokestatic 172) := by decide +kernel
theorem i130_15 : am_ins 130 15 = some (.aload_n 0) := by decide +kernel
theorem i130_16 : am_ins 130 16 = some (.getfield 55) := by decide +kernel
theorem i130_19 : am_ins 130 19 = some (.iload_n 1) := by decide +kernel
theorem i130_20 : am_ins 130 20 = some (.iload_n 2) := by decide +kernel
theorem i130_21 : am_ins 130 21 = some (.invokevirtual 253) := by decide +kernel
theorem i130_24 : am_ins 130 24 = some (.ireturn) := by decide +kernel
theorem i132_0 : am_ins 132 0 = some (.aload_n 0) := by decide +kernel
theorem i132_1 : am_ins 132 1 = some (.invokevirtual 132) := by decide +kernel
theorem i132_4 : am_ins 132 4 = some (.aload_n 0) := by decide +kernel
theorem i132_5 : am_ins 132 5 = some (.iload_n 1) := by decide +kernel
theorem i132_6 : am_ins 132 6 = some (.invokevirtual 158) := by decide +kernel
theorem i132_9 : am_ins 132 9 = some (.aload_n 0) := by decide +kernel
theorem i132_10 : am_ins 132 10 = some (.getfield 55) := by decide +kernel
theorem i132_13 : am_ins 132 13 = some (.iload_n 1) := by decide +kernel
theorem i132_14 : am_ins 132 14 = some (.invokevirtual 256) := by decide +kernel
theorem i132_17 : am_ins 132 17 = some (.ireturn) := by decide +kernel
theorem i135_0 : am_ins 135 0 = some (.aload_n 0) := by decide +kernel
theorem i135_1 : am_ins 135 1 = some (.invokevirtual 132) := by decide +kernel
theorem i135_4 : am_ins 135 4 = some (.iload_n 1) := by decide +kernel
theorem i135_5 : am_ins 135 5 = some (.iconst 0) := by decide +kernel
theorem i135_6 : am_ins 135 6 = some (.bipush 7) := by decide +kernel
theorem i135_8 : am_ins 135 8 = some (.invokestatic 172) := by decide +kernel
theorem i135_11 : am_ins 135 11 = some (.aload_n 0) := by decide +kernel
theorem i135_12 : am_ins 135 12 = some (.getfield 39) := by decide +kernel
theorem i135_15 : am_ins 135 15 = some (.getfield 265) := by decide +kernel
theorem i135_18 : am_ins 135 18 = some (.iload_n 1) := by decide +kernel
theorem i135_19 : am_ins 135 19 = some (.iaload) := by decide +kernel
theorem i135_20 : am_ins 135 20 = some (.ireturn) := by decide +kernel
theorem i136_0 : am_ins 136 0 = some (.aload_n 0) := by decide +kernel
theorem i136_1 : am_ins 136 1 = some (.invokevirtual 132) := by decide +kernel
theorem i136_4 : am_ins 136 4 = some (.aload_n 0) := by decide +kernel
theorem i136_5 : am_ins 136 5 = some (.getfield 39) := by decide +kernel
theorem i136_8 : am_ins 136 8 = some (.getfield 265) := by decide +kernel
theorem i136_11 : am_ins 136 11 = some (.iconst 5) := by decide +kernel
theorem i136_12 : am_ins 136 12 = some (.iaload) := by decide +kernel
theorem i136_13 : am_ins 136 13 = some (.istore_n 1) := by decide +kernel
theorem i136_14 : am_ins 136 14 = some (.iload_n 1) := by decide +kernel
theorem i136_15 : am_ins 136 15 = some (.ifCond .ne 5) := by decide +kernel
theorem i136_18 : am_ins 136 18 = some (.dconst 0) := by decide +kernel
theorem i136_19 : am_ins 136 19 = some (.dreturn) := by decide +kernel
theorem i136_20 : am_ins 136 20 = some (.aload_n 0) := by decide +kernel
theorem i136_21 : am_ins 136 21 = some (.getfield 39) := by decide +kernel
theorem i136_24 : am_ins 136 24 = some (.getfield 265) := by decide +kernel
theorem i136_27 : am_ins 136 27 = some (.iconst 3) := by decide +kernel
theorem i136_28 : am_ins 136 28 = some (.iaload) := by decide +kernel
theorem i136_29 : am_ins 136 29 = some (.i2d) := by decide +kernel
theorem i136_30 : am_ins 136 30 = some (.iload_n 1) := by decide +kernel
theorem i136_31 : am_ins 136 31 = some (.i2d) := by decide +kernel
theorem i136_32 : am_ins 136 32 = some (.ddiv) := by decide +kernel
theorem i136_33 : am_ins 136 33 = some (.dreturn) := by decide +kernel
theorem i137_0 : am_ins 137 0 = some (.aload_n 0) := by decide +kernel
theorem i137_1 : am_ins 137 1 = some (.invokevirtual 132) := by decide +kernel
theorem i137_4 : am_ins 137 4 = some (.aload_n 0) := by decide +kernel
theorem i137_5 : am_ins 137 5 = some (.getfield 39) := by decide +kernel
theorem i137_8 : am_ins 137 8 = some (.getfield 265) := by decide +kernel
theorem i137_11 : am_ins 137 11 = some (.bipush 7) := by decide +kernel
theorem i137_13 : am_ins 137 13 = some (.iaload) := by decide +kernel
theorem i137_14 : am_ins 137 14 = some (.istore_n 1) := by decide +kernel
theorem i137_15 : am_ins 137 15 = some (.iload_n 1) := by decide +kernel
theorem i137_16 : am_ins 137 16 = some (.aload_n 0) := by decide +kernel
theorem i137_17 : am_ins 137 17 = some (.getfield 39) := by decide +kernel
theorem i137_20 : am_ins 137 20 = some (.getfield 265) := by decide +kernel
theorem i137_23 : am_ins 137 23 = some (.iconst 1) := by decide +kernel
theorem i137_24 : am_ins 137 24 = some (.iaload) := by decide +kernel
theorem i137_25 : am_ins 137 25 = some (.iadd) := by decide +kernel
theorem i137_26 : am_ins 137 26 = some (.aload_n 0) := by decide +kernel
theorem i137_27 : am_ins 137 27 = some (.getfield 39) := by decide +kernel
theorem i137_30 : am_ins 137 30 = some (.getfield 265) := by decide +kernel
theorem i137_33 : am_ins 137 33 = some (.iconst 2) := by decide +kernel
theorem i137_34 : am_ins 137 34 = some (.iaload) := by decide +kernel
theorem i137_35 : am_ins 137 35 = some (.iadd) := by decide +kernel
theorem i137_36 : am_ins 137 36 = some (.istore_n 2) := by decide +kernel
theorem i137_37 : am_ins 137 37 = some (.iload_n 2) := by decide +kernel
theorem i137_38 : am_ins 137 38 = some (.ifCond .ne 5) := by decide +kernel
theorem i137_41 : am_ins 137 41 = some (.fconst 0) := by decide +kernel
theorem i137_42 : am_ins 137 42 = some (.freturn) := by decide +kernel
theorem i137_43 : am_ins 137 43 = some (.iload_n 1) := by decide +kernel
theorem i137_44 : am_ins 137 44 = some (.i2f) := by decide +kernel
theorem i137_45 : am_ins 137 45 = some (.iload_n 2) := by decide +kernel
theorem i137_46 : am_ins 137 46 = some (.i2f) := by decide +kernel
theorem i137_47 : am_ins 137 47 = some (.fdiv) := by decide +kernel
theorem i137_48 : am_ins 137 48 = some (.freturn) := by decide +kernel
theorem i138_0 : am_ins 138 0 = some (.aload_n 0) := by decide +kernel
theorem i138_1 : am_ins 138 1 = some (.invokevirtual 132) := by decide +kernel
theorem i138_4 : am_ins 138 4 = some (.iload_n 1) := by decide +kernel
theorem i138_5 : am_ins 138 5 = some (.ifCond .lt 14) := by decide +kernel
theorem i138_8 : am_ins 138 8 = some (.iload_n 1) := by decide +kernel
theorem i138_9 : am_ins 138 9 = some (.aload_n 0) := by decide +kernel
theorem i138_10 : am_ins 138 10 = some (.getfield 39) := by decide +kernel
theorem i138_13 : am_ins 138 13 = some (.getfield 272) := by decide +kernel
theorem i138_16 : am_ins 138 16 = some (.if_icmp .lt 14) := by decide +kernel
theorem i138_19 : am_ins 138 19 = some (.new 97) := by decide +kernel
theorem i138_22 : am_ins 138 22 = some (.dup) := by decide +kernel
theorem i138_23 : am_ins 138 23 = some (.ldc_w 275) := by decide +kernel
theorem i138_26 : am_ins 138 26 = some (.invokespecial 101) := by decide +kernel
theorem i138_30 : am_ins 138 30 = some (.iload_n 2) := by decide +kernel
theorem i138_31 : am_ins 138 31 = some (.iconst 0) := by decide +kernel
theorem i138_32 : am_ins 138 32 = some (.iconst 3) := by decide +kernel
theorem i138_33 : am_ins 138 33 = some (.invokestatic 172) := by decide +kernel
theorem i138_36 : am_ins 138 36 = some (.aload_n 0) := by decide +kernel
theorem i138_37 : am_ins 138 37 = some (.getfield 39) := by decide +kernel
theorem i138_40 : am_ins 138 40 = some (.getfield 277) := by decide +kernel
theorem i138_43 : am_ins 138 43 = some (.iload_n 2) := by decide +kernel
theorem i138_44 : am_ins 138 44 = some (.aaload) := by decide +kernel
theorem i138_45 : am_ins 138 45 = some (.iload_n 1) := by decide +kernel
theorem i138_46 : am_ins 138 46 = some (.iaload) := by decide +kernel
theorem i138_47 : am_ins 138 47 = some (.ireturn) := by decide +kernel
theorem i139_0 : am_ins 139 0 = some (.aload_n 0) := by decide +kernel
theorem i139_1 : am_ins 139 1 = some (.invokevirtual 132) := by decide +kernel
theorem i139_4 : am_ins 139 4 = some (.aload_n 0) := by decide +kernel
theorem i139_5 : am_ins 139 5 = some (.getfield 86) := by decide +kernel
theorem i139_8 : am_ins 139 8 = some (.iconst 0) := by decide +kernel
theorem i139_9 : am_ins 139 9 = some (.putfield 280) := by decide +kernel
theorem i139_12 : am_ins 139 12 = some (.iconst 0) := by decide +kernel
theorem i139_13 : am_ins 139 13 = some (.istore_n 1) := by decide +kernel
theorem i139_14 : am_ins 139 14 = some (.iload_n 1) := by decide +kernel
theorem i139_15 : am_ins 139 15 = some (.aload_n 0) := by decide +kernel
theorem i139_16 : am_ins 139 16 = some (.getfield 39) := by decide +kernel
theorem i139_19 : am_ins 139 19 = some (.getfield 129) := by decide +kernel
theorem i139_22 : am_ins 139 22 = some (.if_icmp .ge 28) := by decide +kernel
theorem i139_25 : am_ins 139 25 = some (.aload_n 0) := by decide +kernel
theorem i139_26 : am_ins 139 26 = some (.getfield 39) := by decide +kernel
theorem i139_29 : am_ins 139 29 = some (.getfield 176) := by decide +kernel
theorem i139_32 : am_ins 139 32 = some (.iconst 2) := by decide +kernel
theorem i139_33 : am_ins 139 33 = some (.aaload) := by decide +kernel
theorem i139_34 : am_ins 139 34 = some (.iload_n 1) := by decide +kernel
theorem i139_35 : am_ins 139 35 = some (.iaload) := by decide +kernel
theorem i139_36 : am_ins 139 36 = some (.ifCond .ne 8) := by decide +kernel
theorem i139_39 : am_ins 139 39 = some (.aload_n 0) := by decide +kernel
theorem i139_40 : am_ins 139 40 = some (.iload_n 1) := by decide +kernel
theorem i139_41 : am_ins 139 41 = some (.invokevirtual 283) := by decide +kernel
theorem i139_44 : am_ins 139 44 = some (.iinc 1 1) := by decide +kernel
theorem i139_47 : am_ins 139 47 = some (.goto (-33)) := by decide +kernel
theorem i139_50 : am_ins 139 50 = some (.aload_n 0) := by decide +kernel
theorem i139_51 : am_ins 139 51 = some (.getfield 86) := by decide +kernel
theorem i139_54 : am_ins 139 54 = some (.getfield 280) := by decide +kernel
theorem i139_57 : am_ins 139 57 = some (.ifCond .ne 12) := by decide +kernel
theorem i139_60 : am_ins 139 60 = some (.aload_n 0) := by decide +kernel
theorem i139_61 : am_ins 139 61 = some (.getfield 86) := by decide +kernel
theorem i139_64 : am_ins 139 64 = some (.bipush 45) := by decide +kernel
theorem i139_66 : am_ins 139 66 = some (.invokevirtual 286) := by decide +kernel
theorem i139_69 : am_ins 139 69 = some (.aload_n 0) := by decide +kernel
theorem i139_70 : am_ins 139 70 = some (.getfield 86) := by decide +kernel
theorem i139_73 : am_ins 139 73 = some (.getfield 280) := by decide +kernel
theorem i139_76 : am_ins 139 76 = some (.ireturn) := by decide +kernel
theorem i140_0 : am_ins 140 0 = some (.aload_n 0) := by decide +kernel
theorem i140_1 : am_ins 140 1 = some (.getfield 86) := by decide +kernel
theorem i140_4 : am_ins 140 4 = some (.getfield 280) := by decide +kernel
theorem i140_7 : am_ins 140 7 = some (.ifCond .le 12) := by decide +kernel
theorem i140_10 : am_ins 140 10 = some (.aload_n 0) := by decide +kernel
theorem i140_11 : am_ins 140 11 = some (.getfield 86) := by decide +kernel
theorem i140_14 : am_ins 140 14 = some (.bipush 44) := by decide +kernel
theorem i140_16 : am_ins 140 16 = some (.invokevirtual 286) := by decide +kernel
theorem i140_19 : am_ins 140 19 = some (.aload_n 0) := by decide +kernel
theorem i140_20 : am_ins 140 20 = some (.getfield 86) := by decide +kernel
theorem i140_23 : am_ins 140 23 = some (.iload_n 1) := by decide +kernel
theorem i140_24 : am_ins 140 24 = some (.invokevirtual 290) := by decide +kernel
theorem i140_27 : am_ins 140 27 = some (.aload_n 0) := by decide +kernel
theorem i140_28 : am_ins 140 28 = some (.getfield 86) := by decide +kernel
theorem i140_31 : am_ins 140 31 = some (.bipush 58) := by decide +kernel
theorem i140_33 : am_ins 140 33 = some (.invokevirtual 286) := by decide +kernel
theorem i140_36 : am_ins 140 36 = some (.aload_n 0) := by decide +kernel
theorem i140_37 : am_ins 140 37 = some (.getfield 86) := by decide +kernel
theorem i140_40 : am_ins 140 40 = some (.aload_n 0) := by decide +kernel
theorem i140_41 : am_ins 140 41 = some (.getfield 39) := by decide +kernel
theorem i140_44 : am_ins 140 44 = some (.getfield 176) := by decide +kernel
theorem i140_47 : am_ins 140 47 = some (.iconst 1) := by decide +kernel
theorem i140_48 : am_ins 140 48 = some (.aaload) := by decide +kernel
theorem i140_49 : am_ins 140 49 = some (.iload_n 1) := by decide +kernel
theorem i140_50 : am_ins 140 50 = some (.iaload) := by decide +kernel
theorem i140_51 : am_ins 140 51 = some (.invokevirtual 290) := by decide +kernel
theorem i140_54 : am_ins 140 54 = some (.aload_n 0) := by decide +kernel
theorem i140_55 : am_ins 140 55 = some (.getfield 39) := by decide +kernel
theorem i140_58 : am_ins 140 58 = some (.getfield 176) := by decide +kernel
theorem i140_61 : am_ins 140 61 = some (.iconst 4) := by decide +kernel
theorem i140_62 : am_ins 140 62 = some (.aaload) := by decide +kernel
theorem i140_63 : am_ins 140 63 = some (.iload_n 1) := by decide +kernel
theorem i140_64 : am_ins 140 64 = some (.iaload) := by decide +kernel
theorem i140_65 : am_ins 140 65 = some (.iconst 1) := by decide +kernel
theorem i140_66 : am_ins 140 66 = some (.if_icmp .ne 12) := by decide +kernel
theorem i140_69 : am_ins 140 69 = some (.aload_n 0) := by decide +kernel
theorem i140_70 : am_ins 140 70 = some (.getfield 86) := by decide +kernel
theorem i140_73 : am_ins 140 73 = some (.bipush 42) := by decide +kernel
theorem i140_75 : am_ins 140 75 = some (.invokevirtual 286) := by decide +kernel
theorem i140_78 : am_ins 140 78 = some (.return_) := by decide +kernel
theorem i141_0 : am_ins 141 0 = some (.aload_n 0) := by decide +kernel
theorem i141_1 : am_ins 141 1 = some (.invokevirtual 132) := by decide +kernel
theorem i141_4 : am_ins 141 4 = some (.aload_n 0) := by decide +kernel
theorem i141_5 : am_ins 141 5 = some (.iload_n 1) := by decide +kernel
theorem i141_6 : am_ins 141 6 = some (.invokevirtual 180) := by decide +kernel
theorem i141_9 : am_ins 141 9 = some (.aload_n 0) := by decide +kernel
theorem i141_10 : am_ins 141 10 = some (.getfield 86) := by decide +kernel
theorem i141_13 : am_ins 141 13 = some (.iconst 0) := by decide +kernel
theorem i141_14 : am_ins 141 14 = some (.putfield 280) := by decide +kernel
theorem i141_17 : am_ins 141 17 = some (.aload_n 0) := by decide +kernel
theorem i141_18 : am_ins 141 18 = some (.getfield 86) := by decide +kernel
theorem i141_21 : am_ins 141 21 = some (.aload_n 0) := by decide +kernel
theorem i141_22 : am_ins 141 22 = some (.getfield 39) := by decide +kernel
theorem i141_25 : am_ins 141 25 = some (.getfield 183) := by decide +kernel
theorem i141_28 : am_ins 141 28 = some (.iconst 0) := by decide +kernel
theorem i141_29 : am_ins 141 29 = some (.aaload) := by decide +kernel
theorem i141_30 : am_ins 141 30 = some (.iload_n 1) := by decide +kernel
theorem i141_31 : am_ins 141 31 = some (.iaload) := by decide +kernel
theorem i141_32 : am_ins 141 32 = some (.invokevirtual 290) := by decide +kernel
theorem i141_35 : am_ins 141 35 = some (.aload_n 0) := by decide +kernel
theorem i141_36 : am_ins 141 36 = some (.getfield 86) := by decide +kernel
theorem i141_39 : am_ins 141 39 = some (.bipush 120) := by decide +kernel
theorem i141_41 : am_ins 141 41 = some (.invokevirtual 286) := by decide +kernel
theorem i141_44 : am_ins 141 44 = some (.aload_n 0) := by decide +kernel
theorem i141_45 : am_ins 141 45 = some (.getfield 86) := by decide +kernel
theorem i141_48 : am_ins 141 48 = some (.aload_n 0) := by decide +kernel
theorem i141_49 : am_ins 141 49 = some (.getfield 39) := by decide +kernel
theorem i141_52 : am_ins 141 52 = some (.getfield 183) := by decide +kernel
theorem i141_55 : am_ins 141 55 = some (.iconst 1) := by decide +kernel
theorem i141_56 : am_ins 141 56 = some (.aaload) := by decide +kernel
theorem i141_57 : am_ins 141 57 = some (.iload_n 1) := by decide +kernel
theorem i141_58 : am_ins 141 58 = some (.iaload) := by decide +kernel
theorem i141_59 : am_ins 141 59 = some (.invokevirtual 290) := by decide +kernel
theorem i141_62 : am_ins 141 62 = some (.aload_n 0) := by decide +kernel
theorem i141_63 : am_ins 141 63 = some (.getfield 86) := by decide +kernel
theorem i141_66 : am_ins 141 66 = some (.bipush 32) := by decide +kernel
theorem i141_68 : am_ins 141 68 = some (.invokevirtual 286) := by decide +kernel
theorem i141_71 : am_ins 141 71 = some (.aload_n 0) := by decide +kernel
theorem i141_72 : am_ins 141 72 = some (.getfield 86) := by decide +kernel
theorem i141_75 : am_ins 141 75 = some (.aload_n 0) := by decide +kernel
theorem i141_76 : am_ins 141 76 = some (.getfield 39) := by decide +kernel
theorem i141_79 : am_ins 141 79 = some (.getfield 183) := by decide +kernel
theorem i141_82 : am_ins 141 82 = some (.iconst 5) := by decide +kernel
theorem i141_83 : am_ins 141 83 = some (.aaload) := by decide +kernel
theorem i141_84 : am_ins 141 84 = some (.iload_n 1) := by decide +kernel
theorem i141_85 : am_ins 141 85 = some (.iaload) := by decide +kernel
theorem i141_86 : am_ins 141 86 = some (.invokevirtual 290) := by decide +kernel
theorem i141_89 : am_ins 141 89 = some (.aload_n 0) := by decide +kernel
theorem i141_90 : am_ins 141 90 = some (.getfield 86) := by decide +kernel
theorem i141_93 : am_ins 141 93 = some (.bipush 43) := by decide +kernel
theorem i141_95 : am_ins 141 95 = some (.invokevirtual 286) := by decide +kernel
theorem i141_98 : am_ins 141 98 = some (.aload_n 0) := by decide +kernel
theorem i141_99 : am_ins 141 99 = some (.getfield 86) := by decide +kernel
theorem i141_102 : am_ins 141 102 = some (.aload_n 0) := by decide +kernel
theorem i141_103 : am_ins 141 103 = some (.getfield 39) := by decide +kernel
theorem i141_106 : am_ins 141 106 = some (.getfield 183) := by decide +kernel
theorem i141_109 : am_ins 141 109 = some (.bipush 6) := by decide +kernel
theorem i141_111 : am_ins 141 111 = some (.aaload) := by decide +kernel
theorem i141_112 : am_ins 141 112 = some (.iload_n 1) := by decide +kernel
theorem i141_113 : am_ins 141 113 = some (.iaload) := by decide +kernel
theorem i141_114 : am_ins 141 114 = some (.invokevirtual 290) := by decide +kernel
theorem i141_117 : am_ins 141 117 = some (.aload_n 0) := by decide +kernel
theorem i141_118 : am_ins 141 118 = some (.getfield 86) := by decide +kernel
theorem i141_121 : am_ins 141 121 = some (.bipush 47) := by decide +kernel
theorem i141_123 : am_ins 141 123 = some (.invokevirtual 286) := by decide +kernel
theorem i141_126 : am_ins 141 126 = some (.aload_n 0) := by decide +kernel
theorem i141_127 : am_ins 141 127 = some (.getfield 86) := by decide +kernel
theorem i141_130 : am_ins 141 130 = some (.aload_n 0) := by decide +kernel
theorem i141_131 : am_ins 141 131 = some (.getfield 39) := by decide +kernel
theorem i141_134 : am_ins 141 134 = some (.getfield 183) := by decide +kernel
theorem i141_137 : am_ins 141 137 = some (.iconst 4) := by decide +kernel
theorem i141_138 : am_ins 141 138 = some (.aaload) := by decide +kernel
theorem i141_139 : am_ins 141 139 = some (.iload_n 1) := by decide +kernel
theorem i141_140 : am_ins 141 140 = some (.iaload) := by decide +kernel
theorem i141_141 : am_ins 141 141 = some (.invokevirtual 290) := by decide +kernel
theorem i141_144 : am_ins 141 144 = some (.aload_n 0) := by decide +kernel
theorem i141_145 : am_ins 141 145 = some (.getfield 86) := by decide +kernel
theorem i141_148 : am_ins 141 148 = some (.bipush 32) := by decide +kernel
theorem i141_150 : am_ins 141 150 = some (.invokevirtual 286) := by decide +kernel
theorem i141_153 : am_ins 141 153 = some (.aload_n 0) := by decide +kernel
theorem i141_154 : am_ins 141 154 = some (.getfield 86) := by decide +kernel
theorem i141_157 : am_ins 141 157 = some (.bipush 100) := by decide +kernel
theorem i141_159 : am_ins 141 159 = some (.invokevirtual 286) := by decide +kernel
theorem i141_162 : am_ins 141 162 = some (.aload_n 0) := by decide +kernel
theorem i141_163 : am_ins 141 163 = some (.getfield 86) := by decide +kernel
theorem i141_166 : am_ins 141 166 = some (.aload_n 0) := by decide +kernel
theorem i141_167 : am_ins 141 167 = some (.getfield 39) := by decide +kernel
theorem i141_170 : am_ins 141 170 = some (.getfield 183) := by decide +kernel
theorem i141_173 : am_ins 141 173 = some (.iconst 3) := by decide +kernel
theorem i141_174 : am_ins 141 174 = some (.aaload) := by decide +kernel
theorem i141_175 : am_ins 141 175 = some (.iload_n 1) := by decide +kernel
theorem i141_176 : am_ins 141 176 = some (.iaload) := by decide +kernel
theorem i141_177 : am_ins 141 177 = some (.invokevirtual 290) := by decide +kernel
theorem i141_180 : am_ins 141 180 = some (.aload_n 0) := by decide +kernel
theorem i141_181 : am_ins 141 181 = some (.getfield 39) := by decide +kernel
theorem i141_184 : am_ins 141 184 = some (.getfield 183) := by decide +kernel
theorem i141_187 : am_ins 141 187 = some (.bipush 7) := by decide +kernel
theorem i141_189 : am_ins 141 189 = some (.aaload) := by decide +kernel
theorem i141_190 : am_ins 141 190 = some (.iload_n 1) := by decide +kernel
theorem i141_191 : am_ins 141 191 = some (.iaload) := by decide +kernel
theorem i141_192 : am_ins 141 192 = some (.iconst 1) := by decide +kernel
theorem i141_193 : am_ins 141 193 = some (.if_icmp .ne 13) := by decide +kernel
theorem i141_196 : am_ins 141 196 = some (.aload_n 0) := by decide +kernel
theorem i141_197 : am_ins 141 197 = some (.getfield 86) := by decide +kernel
theorem i141_200 : am_ins 141 200 = some (.ldc_w 293) := by decide +kernel
theorem i141_203 : am_ins 141 203 = some (.invokevirtual 295) := by decide +kernel
theorem i141_206 : am_ins 141 206 = some (.aload_n 0) := by decide +kernel
theorem i141_207 : am_ins 141 207 = some (.getfield 86) := by decide +kernel
theorem i141_210 : am_ins 141 210 = some (.getfield 280) := by decide +kernel
theorem i141_213 : am_ins 141 213 = some (.ireturn) := by decide +kernel
theorem i142_0 : am_ins 142 0 = some (.iload_n 1) := by decide +kernel
theorem i142_1 : am_ins 142 1 = some (.ifCond .lt 14) := by decide +kernel
theorem i142_4 : am_ins 142 4 = some (.iload_n 1) := by decide +kernel
theorem i142_5 : am_ins 142 5 = some (.aload_n 0) := by decide +kernel
theorem i142_6 : am_ins 142 6 = some (.getfield 86) := by decide +kernel
theorem i142_9 : am_ins 142 9 = some (.getfield 280) := by decide +kernel
theorem i142_12 : am_ins 142 12 = some (.if_icmp .lt 14) := by decide +kernel
theorem i142_15 : am_ins 142 15 = some (.new 97) := by decide +kernel
theorem i142_18 : am_ins 142 18 = some (.dup) := by decide +kernel
theorem i142_19 : am_ins 142 19 = some (.ldc_w 298) := by decide +kernel
theorem i142_22 : am_ins 142 22 = some (.invokespecial 101) := by decide +kernel
theorem i142_26 : am_ins 142 26 = some (.aload_n 0) := by decide +kernel
theorem i142_27 : am_ins 142 27 = some (.getfield 86) := by decide +kernel
theorem i142_30 : am_ins 142 30 = some (.getfield 300) := by decide +kernel
theorem i142_33 : am_ins 142 33 = some (.iload_n 1) := by decide +kernel
theorem i142_34 : am_ins 142 34 = some (.baload) := by decide +kernel
theorem i142_35 : am_ins 142 35 = some (.ireturn) := by decide +kernel
theorem i143_0 : am_ins 143 0 = some (.aload_n 0) := by decide +kernel
theorem i143_1 : am_ins 143 1 = some (.invokevirtual 132) := by decide +kernel
theorem i143_4 : am_ins 143 4 = some (.aload_n 0) := by decide +kernel
theorem i143_5 : am_ins 143 5 = some (.iload_n 1) := by decide +kernel
theorem i143_6 : am_ins 143 6 = some (.invokevirtual 169) := by decide +kernel
theorem i143_9 : am_ins 143 9 = some (.iload_n 2) := by decide +kernel
theorem i143_10 : am_ins 143 10 = some (.invokestatic 203) := by decide +kernel
theorem i143_13 : am_ins 143 13 = some (.aload_n 0) := by decide +kernel
theorem i143_14 : am_ins 143 14 = some (.getfield 48) := by decide +kernel
theorem i143_17 : am_ins 143 17 = some (.aload_n 0) := by decide +kernel
theorem i143_18 : am_ins 143 18 = some (.getfield 39) := by decide +kernel
theorem i143_21 : am_ins 143 21 = some (.getfield 176) := by decide +kernel
theorem i143_24 : am_ins 143 24 = some (.iconst 1) := by decide +kernel
theorem i143_25 : am_ins 143 25 = some (.aaload) := by decide +kernel
theorem i143_26 : am_ins 143 26 = some (.iload_n 1) := by decide +kernel
theorem i143_27 : am_ins 143 27 = some (.iaload) := by decide +kernel
theorem i143_28 : am_ins 143 28 = some (.iload_n 2) := by decide +kernel
theorem i143_29 : am_ins 143 29 = some (.invokevirtual 213) := by decide +kernel
theorem i143_32 : am_ins 143 32 = some (.iconst (-1)) := by decide +kernel
theorem i143_33 : am_ins 143 33 = some (.if_icmp .ne 14) := by decide +kernel
theorem i143_36 : am_ins 143 36 = some (.new 121) := by decide +kernel
theorem i143_39 : am_ins 143 39 = some (.dup) := by decide +kernel
theorem i143_40 : am_ins 143 40 = some (.ldc_w 303) := by decide +kernel
theorem i143_43 : am_ins 143 43 = some (.invokespecial 125) := by decide +kernel
theorem i143_47 : am_ins 143 47 = some (.aload_n 0) := by decide +kernel
theorem i143_48 : am_ins 143 48 = some (.getfield 71) := by decide +kernel
theorem i143_51 : am_ins 143 51 = some (.aload_n 0) := by decide +kernel
theorem i143_52 : am_ins 143 52 = some (.getfield 39) := by decide +kernel
theorem i143_55 : am_ins 143 55 = some (.invokevirtual 305) := by decide +kernel
theorem i143_58 : am_ins 143 58 = some (.aload_n 0) := by decide +kernel
theorem i143_59 : am_ins 143 59 = some (.getfield 48) := by decide +kernel
theorem i143_62 : am_ins 143 62 = some (.iload_n 1) := by decide +kernel
theorem i143_63 : am_ins 143 63 = some (.iload_n 2) := by decide +kernel
theorem i143_64 : am_ins 143 64 = some (.invokevirtual 308) := by decide +kernel
theorem i143_67 : am_ins 143 67 = some (.ireturn) := by decide +kernel
theorem i144_0 : am_ins 144 0 = some (.aload_n 0) := by decide +kernel
theorem i144_1 : am_ins 144 1 = some (.invokevirtual 132) := by decide +kernel
theorem i144_4 : am_ins 144 4 = some (.aload_n 0) := by decide +kernel
theorem i144_5 : am_ins 144 5 = some (.iload_n 1) := by decide +kernel
theorem i144_6 : am_ins 144 6 = some (.invokevirtual 186) := by decide +kernel
theorem i144_9 : am_ins 144 9 = some (.aload_n 0) := by decide +kernel
theorem i144_10 : am_ins 144 10 = some (.iload_n 2) := by decide +kernel
theorem i144_11 : am_ins 144 11 = some (.invokevirtual 169) := by decide +kernel
theorem i144_14 : am_ins 144 14 = some (.aload_n 0) := by decide +kernel
theorem i144_15 : am_ins 144 15 = some (.getfield 48) := by decide +kernel
theorem i144_18 : am_ins 144 18 = some (.iload_n 1) := by decide +kernel
theorem i144_19 : am_ins 144 19 = some (.iload_n 2) := by decide +kernel
theorem i144_20 : am_ins 144 20 = some (.invokevirtual 229) := by decide +kernel
theorem i144_23 : am_ins 144 23 = some (.iconst (-1)) := by decide +kernel
theorem i144_24 : am_ins 144 24 = some (.if_icmp .ne 14) := by decide +kernel
theorem i144_27 : am_ins 144 27 = some (.new 121) := by decide +kernel
theorem i144_30 : am_ins 144 30 = some (.dup) := by decide +kernel
theorem i144_31 : am_ins 144 31 = some (.ldc_w 311) := by decide +kernel
theorem i144_34 : am_ins 144 34 = some (.invokespecial 125) := by decide +kernel
theorem i144_38 : am_ins 144 38 = some (.aload_n 0) := by decide +kernel
theorem i144_39 : am_ins 144 39 = some (.getfield 71) := by decide +kernel
theorem i144_42 : am_ins 144 42 = some (.aload_n 0) := by decide +kernel
theorem i144_43 : am_ins 144 43 = some (.getfield 39) := by decide +kernel
theorem i144_46 : am_ins 144 46 = some (.invokevirtual 305) := by decide +kernel
theorem i144_49 : am_ins 144 49 = some (.aload_n 0) := by decide +kernel
theorem i144_50 : am_ins 144 50 = some (.getfield 48) := by decide +kernel
theorem i144_53 : am_ins 144 53 = some (.iload_n 1) := by decide +kernel
theorem i144_54 : am_ins 144 54 = some (.iload_n 2) := by decide +kernel
theorem i144_55 : am_ins 144 55 = some (.invokevirtual 313) := by decide +kernel
theorem i144_58 : am_ins 144 58 = some (.ireturn) := by decide +kernel
theorem i145_0 : am_ins 145 0 = some (.aload_n 0) := by decide +kernel
theorem i145_1 : am_ins 145 1 = some (.invokevirtual 132) := by decide +kernel
theorem i145_4 : am_ins 145 4 = some (.iload_n 1) := by decide +kernel
theorem i145_5 : am_ins 145 5 = some (.iconst 0) := by decide +kernel
theorem i145_6 : am_ins 145 6 = some (.iconst 3) := by decide +kernel
theorem i145_7 : am_ins 145 7 = some (.invokestatic 172) := by decide +kernel
theorem i145_10 : am_ins 145 10 = some (.aload_n 0) := by decide +kernel
theorem i145_11 : am_ins 145 11 = some (.getfield 71) := by decide +kernel
theorem i145_14 : am_ins 145 14 = some (.aload_n 0) := by decide +kernel
theorem i145_15 : am_ins 145 15 = some (.getfield 39) := by decide +kernel
theorem i145_18 : am_ins 145 18 = some (.invokevirtual 305) := by decide +kernel
theorem i145_21 : am_ins 145 21 = some (.aload_n 0) := by decide +kernel
theorem i145_22 : am_ins 145 22 = some (.getfield 48) := by decide +kernel
theorem i145_25 : am_ins 145 25 = some (.iload_n 1) := by decide +kernel
theorem i145_26 : am_ins 145 26 = some (.invokevirtual 316) := by decide +kernel
theorem i145_29 : am_ins 145 29 = some (.ireturn) := by decide +kernel
theorem i146_0 : am_ins 146 0 = some (.aload_n 0) := by decide +kernel
theorem i146_1 : am_ins 146 1 = some (.invokevirtual 132) := by decide +kernel
theorem i146_4 : am_ins 146 4 = some (.aload_n 0) := by decide +kernel
theorem i146_5 : am_ins 146 5 = some (.getfield 71) := by decide +kernel
theorem i146_8 : am_ins 146 8 = some (.aload_n 0) := by decide +kernel
theorem i146_9 : am_ins 146 9 = some (.getfield 39) := by decide +kernel
theorem i146_12 : am_ins 146 12 = some (.invokevirtual 305) := by decide +kernel
theorem i146_15 : am_ins 146 15 = some (.aload_n 0) := by decide +kernel
theorem i146_16 : am_ins 146 16 = some (.getfield 48) := by decide +kernel
theorem i146_19 : am_ins 146 19 = some (.invokevirtual 319) := by decide +kernel
theorem i146_22 : am_ins 146 22 = some (.ireturn) := by decide +kernel
theorem i147_0 : am_ins 147 0 = some (.aload_n 0) := by decide +kernel
theorem i147_1 : am_ins 147 1 = some (.invokevirtual 132) := by decide +kernel
theorem i147_4 : am_ins 147 4 = some (.aload_n 0) := by decide +kernel
theorem i147_5 : am_ins 147 5 = some (.iload_n 1) := by decide +kernel
theorem i147_6 : am_ins 147 6 = some (.invokevirtual 158) := by decide +kernel
theorem i147_9 : am_ins 147 9 = some (.aload_n 0) := by decide +kernel
theorem i147_10 : am_ins 147 10 = some (.getfield 39) := by decide +kernel
theorem i147_13 : am_ins 147 13 = some (.getfield 129) := by decide +kernel
theorem i147_16 : am_ins 147 16 = some (.bipush 40) := by decide +kernel
theorem i147_18 : am_ins 147 18 = some (.if_icmp .lt 14) := by decide +kernel
theorem i147_21 : am_ins 147 21 = some (.new 121) := by decide +kernel
theorem i147_24 : am_ins 147 24 = some (.dup) := by decide +kernel
theorem i147_25 : am_ins 147 25 = some (.ldc_w 322) := by decide +kernel
theorem i147_28 : am_ins 147 28 = some (.invokespecial 125) := by decide +kernel
theorem i147_32 : am_ins 147 32 = some (.aload_n 0) := by decide +kernel
theorem i147_33 : am_ins 147 33 = some (.getfield 71) := by decide +kernel
theorem i147_36 : am_ins 147 36 = some (.aload_n 0) := by decide +kernel
theorem i147_37 : am_ins 147 37 = some (.getfield 39) := by decide +kernel
theorem i147_40 : am_ins 147 40 = some (.invokevirtual 305) := by decide +kernel
theorem i147_43 : am_ins 147 43 = some (.aload_n 0) := by decide +kernel
theorem i147_44 : am_ins 147 44 = some (.getfield 48) := by decide +kernel
theorem i147_47 : am_ins 147 47 = some (.iload_n 1) := by decide +kernel
theorem i147_48 : am_ins 147 48 = some (.invokevirtual 324) := by decide +kernel
theorem i147_51 : am_ins 147 51 = some (.ireturn) := by decide +kernel
theorem i148_0 : am_ins 148 0 = some (.aload_n 0) := by decide +kernel
theorem i148_1 : am_ins 148 1 = some (.invokevirtual 132) := by decide +kernel
theorem i148_4 : am_ins 148 4 = some (.aload_n 0) := by decide +kernel
theorem i148_5 : am_ins 148 5 = some (.getfield 39) := by decide +kernel
theorem i148_8 : am_ins 148 8 = some (.getfield 138) := by decide +kernel
theorem i148_11 : am_ins 148 11 = some (.bipush 16) := by decide +kernel
theorem i148_13 : am_ins 148 13 = some (.if_icmp .lt 14) := by decide +kernel
theorem i148_16 : am_ins 148 16 = some (.new 121) := by decide +kernel
theorem i148_19 : am_ins 148 19 = some (.dup) := by decide +kernel
theorem i148_20 : am_ins 148 20 = some (.ldc_w 327) := by decide +kernel
theorem i148_23 : am_ins 148 23 = some (.invokespecial 125) := by decide +kernel
theorem i148_27 : am_ins 148 27 = some (.iload_n 1) := by decide +kernel
theorem i148_28 : am_ins 148 28 = some (.invokestatic 203) := by decide +kernel
theorem i148_31 : am_ins 148 31 = some (.iload_n 2) := by decide +kernel
theorem i148_32 : am_ins 148 32 = some (.iconst 1) := by decide +kernel
theorem i148_33 : am_ins 148 33 = some (.bipush 9) := by decide +kernel
theorem i148_35 : am_ins 148 35 = some (.invokestatic 172) := by decide +kernel
theorem i148_38 : am_ins 148 38 = some (.iload_n 3) := by decide +kernel
theorem i148_39 : am_ins 148 39 = some (.iconst 0) := by decide +kernel
theorem i148_40 : am_ins 148 40 = some (.bipush 99) := by decide +kernel
theorem i148_42 : am_ins 148 42 = some (.invokestatic 172) := by decide +kernel
theorem i148_45 : am_ins 148 45 = some (.iload 4) := by decide +kernel
theorem i148_47 : am_ins 148 47 = some (.iconst 0) := by decide +kernel
theorem i148_48 : am_ins 148 48 = some (.sipush 999) := by decide +kernel
theorem i148_51 : am_ins 148 51 = some (.invokestatic 172) := by decide +kernel
theorem i148_54 : am_ins 148 54 = some (.aload_n 0) := by decide +kernel
theorem i148_55 : am_ins 148 55 = some (.getfield 71) := by decide +kernel
theorem i148_58 : am_ins 148 58 = some (.aload_n 0) := by decide +kernel
theorem i148_59 : am_ins 148 59 = some (.getfield 39) := by decide +kernel
theorem i148_62 : am_ins 148 62 = some (.invokevirtual 305) := by decide +kernel
theorem i148_65 : am_ins 148 65 = some (.aload_n 0) := by decide +kernel
theorem i148_66 : am_ins 148 66 = some (.getfield 39) := by decide +kernel
theorem i148_69 : am_ins 148 69 = some (.iload_n 1) := by decide +kernel
theorem i148_70 : am_ins 148 70 = some (.iload_n 2) := by decide +kernel
theorem i148_71 : am_ins 148 71 = some (.iload_n 3) := by decide +kernel
theorem i148_72 : am_ins 148 72 = some (.iload 4) := by decide +kernel
theorem i148_74 : am_ins 148 74 = some (.invokevirtual 329) := by decide +kernel
theorem i148_77 : am_ins 148 77 = some (.istore 5) := by decide +kernel
theorem i148_79 : am_ins 148 79 = some (.aload_n 0) := by decide +kernel
theorem i148_80 : am_ins 148 80 = some (.getfield 48) := by decide +kernel
theorem i148_83 : am_ins 148 83 = some (.iload 5) := by decide +kernel
theorem i148_85 : am_ins 148 85 = some (.invokevirtual 333) := by decide +kernel
theorem i148_88 : am_ins 148 88 = some (.iload 5) := by decide +kernel
theorem i148_90 : am_ins 148 90 = some (.ireturn) := by decide +kernel
theorem i149_0 : am_ins 149 0 = some (.aload_n 0) := by decide +kernel
theorem i149_1 : am_ins 149 1 = some (.invokevirtual 132) := by decide +kernel
theorem i149_4 : am_ins 149 4 = some (.aload_n 0) := by decide +kernel
theorem i149_5 : am_ins 149 5 = some (.iload_n 1) := by decide +kernel
theorem i149_6 : am_ins 149 6 = some (.invokevirtual 180) := by decide +kernel
theorem i149_9 : am_ins 149 9 = some (.aload_n 0) := by decide +kernel
theorem i149_10 : am_ins 149 10 = some (.getfield 39) := by decide +kernel
theorem i149_13 : am_ins 149 13 = some (.getfield 183) := by decide +kernel
theorem i149_16 : am_ins 149 16 = some (.iconst 4) := by decide +kernel
theorem i149_17 : am_ins 149 17 = some (.aaload) := by decide +kernel
theorem i149_18 : am_ins 149 18 = some (.iload_n 1) := by decide +kernel
theorem i149_19 : am_ins 149 19 = some (.iaload) := by decide +kernel
theorem i149_20 : am_ins 149 20 = some (.istore_n 2) := by decide +kernel
theorem i149_21 : am_ins 149 21 = some (.iload_n 2) := by decide +kernel
theorem i149_22 : am_ins 149 22 = some (.ifCond .ne 14) := by decide +kernel
theorem i149_25 : am_ins 149 25 = some (.new 121) := by decide +kernel
theorem i149_28 : am_ins 149 28 = some (.dup) := by decide +kernel
theorem i149_29 : am_ins 149 29 = some (.ldc_w 336) := by decide +kernel
theorem i149_32 : am_ins 149 32 = some (.invokespecial 125) := by decide +kernel
theorem i149_36 : am_ins 149 36 = some (.aload_n 0) := by decide +kernel
theorem i149_37 : am_ins 149 37 = some (.getfield 71) := by decide +kernel
theorem i149_40 : am_ins 149 40 = some (.aload_n 0) := by decide +kernel
theorem i149_41 : am_ins 149 41 = some (.getfield 39) := by decide +kernel
theorem i149_44 : am_ins 149 44 = some (.invokevirtual 305) := by decide +kernel
theorem i149_47 : am_ins 149 47 = some (.aload_n 0) := by decide +kernel
theorem i149_48 : am_ins 149 48 = some (.getfield 39) := by decide +kernel
theorem i149_51 : am_ins 149 51 = some (.getfield 183) := by decide +kernel
theorem i149_54 : am_ins 149 54 = some (.iconst 4) := by decide +kernel
theorem i149_55 : am_ins 149 55 = some (.aaload) := by decide +kernel
theorem i149_56 : am_ins 149 56 = some (.iload_n 1) := by decide +kernel
theorem i149_57 : am_ins 149 57 = some (.iconst 0) := by decide +kernel
theorem i149_58 : am_ins 149 58 = some (.iastore) := by decide +kernel
theorem i149_59 : am_ins 149 59 = some (.aload_n 0) := by decide +kernel
theorem i149_60 : am_ins 149 60 = some (.getfield 39) := by decide +kernel
theorem i149_63 : am_ins 149 63 = some (.getfield 183) := by decide +kernel
theorem i149_66 : am_ins 149 66 = some (.bipush 7) := by decide +kernel
theorem i149_68 : am_ins 149 68 = some (.aaload) := by decide +kernel
theorem i149_69 : am_ins 149 69 = some (.iload_n 1) := by decide +kernel
theorem i149_70 : am_ins 149 70 = some (.iconst 1) := by decide +kernel
theorem i149_71 : am_ins 149 71 = some (.iastore) := by decide +kernel
theorem i149_72 : am_ins 149 72 = some (.iload_n 2) := by decide +kernel
theorem i149_73 : am_ins 149 73 = some (.ireturn) := by decide +kernel
theorem i150_0 : am_ins 150 0 = some (.aload_n 0) := by decide +kernel
theorem i150_1 : am_ins 150 1 = some (.invokevirtual 132) := by decide +kernel
theorem i150_4 : am_ins 150 4 = some (.aload_n 0) := by decide +kernel
theorem i150_5 : am_ins 150 5 = some (.iload_n 1) := by decide +kernel
theorem i150_6 : am_ins 150 6 = some (.invokevirtual 169) := by decide +kernel
theorem i150_9 : am_ins 150 9 = some (.aload_n 0) := by decide +kernel
theorem i150_10 : am_ins 150 10 = some (.getfield 39) := by decide +kernel
theorem i150_13 : am_ins 150 13 = some (.getfield 176) := by decide +kernel
theorem i150_16 : am_ins 150 16 = some (.iconst 2) := by decide +kernel
theorem i150_17 : am_ins 150 17 = some (.aaload) := by decide +kernel
theorem i150_18 : am_ins 150 18 = some (.iload_n 1) := by decide +kernel
theorem i150_19 : am_ins 150 19 = some (.iaload) := by decide +kernel
theorem i150_20 : am_ins 150 20 = some (.ifCond .eq 14) := by decide +kernel
theorem i150_23 : am_ins 150 23 = some (.new 121) := by decide +kernel
theorem i150_26 : am_ins 150 26 = some (.dup) := by decide +kernel
theorem i150_27 : am_ins 150 27 = some (.ldc_w 338) := by decide +kernel
theorem i150_30 : am_ins 150 30 = some (.invokespecial 125) := by decide +kernel
theorem i150_34 : am_ins 150 34 = some (.aload_n 0) := by decide +kernel
theorem i150_35 : am_ins 150 35 = some (.getfield 71) := by decide +kernel
theorem i150_38 : am_ins 150 38 = some (.aload_n 0) := by decide +kernel
theorem i150_39 : am_ins 150 39 = some (.getfield 39) := by decide +kernel
theorem i150_42 : am_ins 150 42 = some (.invokevirtual 305) := by decide +kernel
theorem i150_45 : am_ins 150 45 = some (.aload_n 0) := by decide +kernel
theorem i150_46 : am_ins 150 46 = some (.getfield 48) := by decide +kernel
theorem i150_49 : am_ins 150 49 = some (.iload_n 1) := by decide +kernel
theorem i150_50 : am_ins 150 50 = some (.invokevirtual 340) := by decide +kernel
theorem i150_53 : am_ins 150 53 = some (.ireturn) := by decide +kernel
theorem i151_0 : am_ins 151 0 = some (.aload_n 0) := by decide +kernel
theorem i151_1 : am_ins 151 1 = some (.invokevirtual 132) := by decide +kernel
theorem i151_4 : am_ins 151 4 = some (.iload_n 1) := by decide +kernel
theorem i151_5 : am_ins 151 5 = some (.iconst 0) := by decide +kernel
theorem i151_6 : am_ins 151 6 = some (.iconst 1) := by decide +kernel
theorem i151_7 : am_ins 151 7 = some (.invokestatic 172) := by decide +kernel
theorem i151_10 : am_ins 151 10 = some (.iload_n 1) := by decide +kernel
theorem i151_11 : am_ins 151 11 = some (.ifCond .ne 13) := by decide +kernel
theorem i151_14 : am_ins 151 14 = some (.iload_n 2) := by decide +kernel
theorem i151_15 : am_ins 151 15 = some (.iconst 0) := by decide +kernel
theorem i151_16 : am_ins 151 16 = some (.bipush 9) := by decide +kernel
theorem i151_18 : am_ins 151 18 = some (.invokestatic 172) := by decide +kernel
theorem i151_21 : am_ins 151 21 = some (.goto 11) := by decide +kernel
theorem i151_24 : am_ins 151 24 = some (.iload_n 2) := by decide +kernel
theorem i151_25 : am_ins 151 25 = some (.iconst 1) := by decide +kernel
theorem i151_26 : am_ins 151 26 = some (.sipush 200) := by decide +kernel
theorem i151_29 : am_ins 151 29 = some (.invokestatic 172) := by decide +kernel
theorem i151_32 : am_ins 151 32 = some (.aload_n 0) := by decide +kernel
theorem i151_33 : am_ins 151 33 = some (.getfield 71) := by decide +kernel
theorem i151_36 : am_ins 151 36 = some (.aload_n 0) := by decide +kernel
theorem i151_37 : am_ins 151 37 = some (.getfield 39) := by decide +kernel
theorem i151_40 : am_ins 151 40 = some (.invokevirtual 305) := by decide +kernel
theorem i151_43 : am_ins 151 43 = some (.aload_n 0) := by decide +kernel
theorem i151_44 : am_ins 151 44 = some (.getfield 39) := by decide +kernel
theorem i151_47 : am_ins 151 47 = some (.getfield 197) := by decide +kernel
theorem i151_50 : am_ins 151 50 = some (.iload_n 1) := by decide +kernel
theorem i151_51 : am_ins 151 51 = some (.iaload) := by decide +kernel
theorem i151_52 : am_ins 151 52 = some (.istore_n 3) := by decide +kernel
theorem i151_53 : am_ins 151 53 = some (.aload_n 0) := by decide +kernel
theorem i151_54 : am_ins 151 54 = some (.getfield 39) := by decide +kernel
theorem i151_57 : am_ins 151 57 = some (.getfield 197) := by decide +kernel
theorem i151_60 : am_ins 151 60 = some (.iload_n 1) := by decide +kernel
theorem i151_61 : am_ins 151 61 = some (.iload_n 2) := by decide +kernel
theorem i151_62 : am_ins 151 62 = some (.iastore) := by decide +kernel
theorem i151_63 : am_ins 151 63 = some (.iload_n 3) := by decide +kernel
theorem i151_64 : am_ins 151 64 = some (.ireturn) := by decide +kernel
theorem i152_0 : am_ins 152 0 = some (.aload_n 0) := by decide +kernel
theorem i152_1 : am_ins 152 1 = some (.getfield 71) := by decide +kernel
theorem i152_4 : am_ins 152 4 = some (.getfield 343) := by decide +kernel
theorem i152_7 : am_ins 152 7 = some (.ifCond .ne 14) := by decide +kernel
theorem i152_10 : am_ins 152 10 = some (.new 344) := by decide +kernel
theorem i152_13 : am_ins 152 13 = some (.dup) := by decide +kernel
theorem i152_14 : am_ins 152 14 = some (.ldc_w 346) := by decide +kernel
theorem i152_17 : am_ins 152 17 = some (.invokespecial 348) := by decide +kernel
theorem i152_21 : am_ins 152 21 = some (.aload_n 0) := by decide +kernel
theorem i152_22 : am_ins 152 22 = some (.getfield 71) := by decide +kernel
theorem i152_25 : am_ins 152 25 = some (.aload_n 0) := by decide +kernel
theorem i152_26 : am_ins 152 26 = some (.getfield 39) := by decide +kernel
theorem i152_29 : am_ins 152 29 = some (.invokevirtual 349) := by decide +kernel
theorem i152_32 : am_ins 152 32 = some (.aload_n 0) := by decide +kernel
theorem i152_33 : am_ins 152 33 = some (.getfield 71) := by decide +kernel
theorem i152_36 : am_ins 152 36 = some (.getfield 343) := by decide +kernel
theorem i152_39 : am_ins 152 39 = some (.ireturn) := by decide +kernel
theorem i153_0 : am_ins 153 0 = some (.aload_n 0) := by decide +kernel
theorem i153_1 : am_ins 153 1 = some (.invokevirtual 132) := by decide +kernel
theorem i153_4 : am_ins 153 4 = some (.iload_n 1) := by decide +kernel
theorem i153_5 : am_ins 153 5 = some (.invokestatic 352) := by decide +kernel
theorem i153_8 : am_ins 153 8 = some (.aload_n 0) := by decide +kernel
theorem i153_9 : am_ins 153 9 = some (.getfield 75) := by decide +kernel
theorem i153_12 : am_ins 153 12 = some (.iload_n 1) := by decide +kernel
theorem i153_13 : am_ins 153 13 = some (.aaload) := by decide +kernel
theorem i153_14 : am_ins 153 14 = some (.aload_n 0) := by decide +kernel
theorem i153_15 : am_ins 153 15 = some (.getfield 39) := by decide +kernel
theorem i153_18 : am_ins 153 18 = some (.invokevirtual 355) := by decide +kernel
theorem i153_21 : am_ins 153 21 = some (.aload_n 0) := by decide +kernel
theorem i153_22 : am_ins 153 22 = some (.getfield 79) := by decide +kernel
theorem i153_25 : am_ins 153 25 = some (.iload_n 1) := by decide +kernel
theorem i153_26 : am_ins 153 26 = some (.iconst 1) := by decide +kernel
theorem i153_27 : am_ins 153 27 = some (.bastore) := by decide +kernel
theorem i153_28 : am_ins 153 28 = some (.aload_n 0) := by decide +kernel
theorem i153_29 : am_ins 153 29 = some (.getfield 39) := by decide +kernel
theorem i153_32 : am_ins 153 32 = some (.getfield 200) := by decide +kernel
theorem i153_35 : am_ins 153 35 = some (.ireturn) := by decide +kernel
theorem i154_0 : am_ins 154 0 = some (.iload_n 0) := by decide +kernel
theorem i154_1 : am_ins 154 1 = some (.ifCond .lt 8) := by decide +kernel
theorem i154_4 : am_ins 154 4 = some (.iload_n 0) := by decide +kernel
theorem i154_5 : am_ins 154 5 = some (.iconst 2) := by decide +kernel
theorem i154_6 : am_ins 154 6 = some (.if_icmp .lt 14) := by decide +kernel
theorem i154_9 : am_ins 154 9 = some (.new 97) := by decide +kernel
theorem i154_12 : am_ins 154 12 = some (.dup) := by decide +kernel
theorem i154_13 : am_ins 154 13 = some (.ldc_w 375) := by decide +kernel
theorem i154_16 : am_ins 154 16 = some (.invokespecial 101) := by decide +kernel
theorem i154_20 : am_ins 154 20 = some (.return_) := by decide +kernel
theorem i155_0 : am_ins 155 0 = some (.iload_n 1) := by decide +kernel
theorem i155_1 : am_ins 155 1 = some (.invokestatic 352) := by decide +kernel
theorem i155_4 : am_ins 155 4 = some (.aload_n 0) := by decide +kernel
theorem i155_5 : am_ins 155 5 = some (.getfield 79) := by decide +kernel
theorem i155_8 : am_ins 155 8 = some (.iload_n 1) := by decide +kernel
theorem i155_9 : am_ins 155 9 = some (.baload) := by decide +kernel
theorem i155_10 : am_ins 155 10 = some (.ifCond .ne 14) := by decide +kernel
theorem i155_13 : am_ins 155 13 = some (.new 344) := by decide +kernel
theorem i155_16 : am_ins 155 16 = some (.dup) := by decide +kernel
theorem i155_17 : am_ins 155 17 = some (.ldc_w 358) := by decide +kernel
theorem i155_20 : am_ins 155 20 = some (.invokespecial 348) := by decide +kernel
theorem i155_24 : am_ins 155 24 = some (.aload_n 0) := by decide +kernel
theorem i155_25 : am_ins 155 25 = some (.getfield 39) := by decide +kernel
theorem i155_28 : am_ins 155 28 = some (.aload_n 0) := by decide +kernel
theorem i155_29 : am_ins 155 29 = some (.getfield 75) := by decide +kernel
theorem i155_32 : am_ins 155 32 = some (.iload_n 1) := by decide +kernel
theorem i155_33 : am_ins 155 33 = some (.aaload) := by decide +kernel
theorem i155_34 : am_ins 155 34 = some (.invokevirtual 355) := by decide +kernel
theorem i155_37 : am_ins 155 37 = some (.aload_n 0) := by decide +kernel
theorem i155_38 : am_ins 155 38 = some (.getfield 71) := by decide +kernel
theorem i155_41 : am_ins 155 41 = some (.iconst 0) := by decide +kernel
theorem i155_42 : am_ins 155 42 = some (.putfield 343) := by decide +kernel
theorem i155_45 : am_ins 155 45 = some (.aload_n 0) := by decide +kernel
theorem i155_46 : am_ins 155 46 = some (.getfield 39) := by decide +kernel
theorem i155_49 : am_ins 155 49 = some (.getfield 200) := by decide +kernel
theorem i155_52 : am_ins 155 52 = some (.ireturn) := by decide +kernel
theorem i156_0 : am_ins 156 0 = some (.aload_n 0) := by decide +kernel
theorem i156_1 : am_ins 156 1 = some (.invokevirtual 335) := by decide +kernel
theorem i156_4 : am_ins 156 4 = some (.iload_n 3) := by decide +kernel
theorem i156_5 : am_ins 156 5 = some (.if_icmp .ne 23) := by decide +kernel
theorem i156_8 : am_ins 156 8 = some (.aload_n 0) := by decide +kernel
theorem i156_9 : am_ins 156 9 = some (.getfield 9) := by decide +kernel
theorem i156_12 : am_ins 156 12 = some (.iconst 0) := by decide +kernel
theorem i156_13 : am_ins 156 13 = some (.aload_n 1) := by decide +kernel
theorem i156_14 : am_ins 156 14 = some (.iload_n 2) := by decide +kernel
theorem i156_15 : am_ins 156 15 = some (.iload_n 3) := by decide +kernel
theorem i156_16 : am_ins 156 16 = some (.ishl) := by decide +kernel
theorem i156_17 : am_ins 156 17 = some (.aload_n 0) := by decide +kernel
theorem i156_18 : am_ins 156 18 = some (.getfield 9) := by decide +kernel
theorem i156_21 : am_ins 156 21 = some (.arraylength) := by decide +kernel
theorem i156_22 : am_ins 156 22 = some (.invokestatic 212) := by decide +kernel
theorem i156_25 : am_ins 156 25 = some (.goto 18) := by decide +kernel
theorem i156_28 : am_ins 156 28 = some (.aload_n 0) := by decide +kernel
theorem i156_29 : am_ins 156 29 = some (.getfield 9) := by decide +kernel
theorem i156_32 : am_ins 156 32 = some (.iconst 0) := by decide +kernel
theorem i156_33 : am_ins 156 33 = some (.aload_n 1) := by decide +kernel
theorem i156_34 : am_ins 156 34 = some (.iload_n 2) := by decide +kernel
theorem i156_35 : am_ins 156 35 = some (.aload_n 0) := by decide +kernel
theorem i156_36 : am_ins 156 36 = some (.getfield 9) := by decide +kernel
theorem i156_39 : am_ins 156 39 = some (.arraylength) := by decide +kernel
theorem i156_40 : am_ins 156 40 = some (.invokestatic 106) := by decide +kernel
theorem i156_43 : am_ins 156 43 = some (.return_) := by decide +kernel
theorem i157_0 : am_ins 157 0 = some (.aload_n 0) := by decide +kernel
theorem i157_1 : am_ins 157 1 = some (.aload_n 1) := by decide +kernel
theorem i157_2 : am_ins 157 2 = some (.aconst_null) := by decide +kernel
theorem i157_3 : am_ins 157 3 = some (.invokespecial 489) := by decide +kernel
theorem i157_6 : am_ins 157 6 = some (.return_) := by decide +kernel
theorem i158_0 : am_ins 158 0 = some (.aload_n 0) := by decide +kernel
theorem i158_1 : am_ins 158 1 = some (.invokespecial 1) := by decide +kernel
theorem i158_4 : am_ins 158 4 = some (.aload_n 1) := by decide +kernel
theorem i158_5 : am_ins 158 5 = some (.invokevirtual 552) := by decide +kernel
theorem i158_8 : am_ins 158 8 = some (.astore_n 3) := by decide +kernel
theorem i158_9 : am_ins 158 9 = some (.aload_n 1) := by decide +kernel
theorem i158_10 : am_ins 158 10 = some (.invokevirtual 549) := by decide +kernel
theorem i158_13 : am_ins 158 13 = some (.istore 4) := by decide +kernel
theorem i158_15 : am_ins 158 15 = some (.aload_n 1) := by decide +kernel
theorem i158_16 : am_ins 158 16 = some (.invokevirtual 1047) := by decide +kernel
theorem i158_19 : am_ins 158 19 = some (.ifCond .eq 22) := by decide +kernel
theorem i158_22 : am_ins 158 22 = some (.aload_n 0) := by decide +kernel
theorem i158_23 : am_ins 158 23 = some (.iconst 0) := by decide +kernel
theorem i158_24 : am_ins 158 24 = some (.putfield 15) := by decide +kernel
theorem i158_27 : am_ins 158 27 = some (.aload_n 0) := by decide +kernel
theorem i158_28 : am_ins 158 28 = some (.aload_n 3) := by decide +kernel
theorem i158_29 : am_ins 158 29 = some (.iconst 0) := by decide +kernel
theorem i158_30 : am_ins 158 30 = some (.iload 4) := by decide +kernel
theorem i158_32 : am_ins 158 32 = some (.invokestatic 54) := by decide +kernel
theorem i158_35 : am_ins 158 35 = some (.putfield 9) := by decide +kernel
theorem i158_38 : am_ins 158 38 = some (.goto 59) := by decide +kernel
theorem i158_41 : am_ins 158 41 = some (.getstatic 38) := by decide +kernel
theorem i158_44 : am_ins 158 44 = some (.ifCond .eq 35) := by decide +kernel
theorem i158_47 : am_ins 158 47 = some (.aload_n 1) := by decide +kernel
theorem i158_48 : am_ins 158 48 = some (.getfield 1048) := by decide +kernel
theorem i158_51 : am_ins 158 51 = some (.ifCond .eq 28) := by decide +kernel
theorem i158_54 : am_ins 158 54 = some (.aload_n 0) := by decide +kernel
theorem i158_55 : am_ins 158 55 = some (.aload_n 3) := by decide +kernel
theorem i158_56 : am_ins 158 56 = some (.iconst 0) := by decide +kernel
theorem i158_57 : am_ins 158 57 = some (.iload 4) := by decide +kernel
theorem i158_59 : am_ins 158 59 = some (.invokestatic 1051) := by decide +kernel
theorem i158_62 : am_ins 158 62 = some (.putfield 9) := by decide +kernel
theorem i158_65 : am_ins 158 65 = some (.aload_n 0) := by decide +kernel
theorem i158_66 : am_ins 158 66 = some (.aload_n 0) := by decide +kernel
theorem i158_67 : am_ins 158 67 = some (.getfield 9) := by decide +kernel
theorem i158_70 : am_ins 158 70 = some (.iload 4) := by decide +kernel
theorem i158_72 : am_ins 158 72 = some (.invokestatic 47) := by decide +kernel
theorem i158_75 : am_ins 158 75 = some (.putfield 15) := by decide +kernel
theorem i158_78 : am_ins 158 78 = some (.return_) := by decide +kernel
theorem i158_79 : am_ins 158 79 = some (.aload_n 0) := by decide +kernel
theorem i158_80 : am_ins 158 80 = some (.iconst 1) := by decide +kernel
theorem i158_81 : am_ins 158 81 = some (.putfield 15) := by decide +kernel
theorem i158_84 : am_ins 158 84 = some (.aload_n 0) := by decide +kernel
theorem i158_85 : am_ins 158 85 = some (.aload_n 3) := by decide +kernel
theorem i158_86 : am_ins 158 86 = some (.iconst 0) := by decide +kernel
theorem i158_87 : am_ins 158 87 = some (.iload 4) := by decide +kernel
theorem i158_89 : am_ins 158 89 = some (.iconst 1) := by decide +kernel
theorem i158_90 : am_ins 158 90 = some (.ishl) := by decide +kernel
theorem i158_91 : am_ins 158 91 = some (.invokestatic 54) := by decide +kernel
theorem i158_94 : am_ins 158 94 = some (.putfield 9) := by decide +kernel
theorem i158_97 : am_ins 158 97 = some (.return_) := by decide +kernel
theorem i159_0 : am_ins 159 0 = some (.iload_n 0) := by decide +kernel
theorem i159_1 : am_ins 159 1 = some (.sipush 255) := by decide +kernel
theorem i159_4 : am_ins 159 4 = some (.if_icmp .gt 7) := by decide +kernel
theorem i159_7 : am_ins 159 7 = some (.iconst 1) := by decide +kernel
theorem i159_8 : am_ins 159 8 = some (.goto 4) := by decide +kernel
theorem i159_11 : am_ins 159 11 = some (.iconst 0) := by decide +kernel
theorem i159_12 : am_ins 159 12 = some (.ireturn) := by decide +kernel
theorem i160_0 : am_ins 160 0 = some (.iload_n 1) := by decide +kernel
theorem i160_1 : am_ins 160 1 = some (.aload_n 0) := by decide +kernel
theorem i160_2 : am_ins 160 2 = some (.arraylength) := by decide +kernel
theorem i160_3 : am_ins 160 3 = some (.if_icmp .ne 11) := by decide +kernel
theorem i160_6 : am_ins 160 6 = some (.aload_n 0) := by decide +kernel
theorem i160_7 : am_ins 160 7 = some (.invokevirtual 310) := by decide +kernel
theorem i160_10 : am_ins 160 10 = some (.checkcast 311) := by decide +kernel
theorem i160_13 : am_ins 160 13 = some (.areturn) := by decide +kernel
theorem i160_14 : am_ins 160 14 = some (.iload_n 1) := by decide +kernel
theorem i160_15 : am_ins 160 15 = some (.newarray .byte) := by decide +kernel
theorem i160_17 : am_ins 160 17 = some (.astore_n 2) := by decide +kernel
theorem i160_18 : am_ins 160 18 = some (.aload_n 0) := by decide +kernel
theorem i160_19 : am_ins 160 19 = some (.iconst 0) := by decide +kernel
theorem i160_20 : am_ins 160 20 = some (.aload_n 2) := by decide +kernel
theorem i160_21 : am_ins 160 21 = some (.iconst 0) := by decide +kernel
theorem i160_22 : am_ins 160 22 = some (.aload_n 0) := by decide +kernel
theorem i160_23 : am_ins 160 23 = some (.arraylength) := by decide +kernel
theorem i160_24 : am_ins 160 24 = some (.iload_n 1) := by decide +kernel
theorem i160_25 : am_ins 160 25 = some (.invokestatic 304) := by decide +kernel
theorem i160_28 : am_ins 160 28 = some (.invokestatic 150) := by decide +kernel
theorem i160_31 : am_ins 160 31 = some (.aload_n 2) := by decide +kernel
theorem i160_32 : am_ins 160 32 = some (.areturn) := by decide +kernel
theorem i161_0 : am_ins 161 0 = some (.iload_n 1) := by decide +kernel
theorem i161_1 : am_ins 161 1 = some (.ifCond .ne 9) := by decide +kernel
theorem i161_4 : am_ins 161 4 = some (.iload_n 2) := by decide +kernel
theorem i161_5 : am_ins 161 5 = some (.aload_n 0) := by decide +kernel
theorem i161_6 : am_ins 161 6 = some (.arraylength) := by decide +kernel
theorem i161_7 : am_ins 161 7 = some (.if_icmp .eq 10) := by decide +kernel
theorem i161_10 : am_ins 161 10 = some (.aload_n 0) := by decide +kernel
theorem i161_11 : am_ins 161 11 = some (.iload_n 1) := by decide +kernel
theorem i161_12 : am_ins 161 12 = some (.iload_n 2) := by decide +kernel
theorem i161_13 : am_ins 161 13 = some (.invokestatic 339) := by decide +kernel
theorem i161_16 : am_ins 161 16 = some (.areturn) := by decide +kernel
theorem i161_17 : am_ins 161 17 = some (.aload_n 0) := by decide +kernel
theorem i161_18 : am_ins 161 18 = some (.invokevirtual 310) := by decide +kernel
theorem i161_21 : am_ins 161 21 = some (.checkcast 311) := by decide +kernel
theorem i161_24 : am_ins 161 24 = some (.areturn) := by decide +kernel
theorem i162_0 : am_ins 162 0 = some (.iload_n 1) := by decide +kernel
theorem i162_1 : am_ins 162 1 = some (.iload_n 2) := by decide +kernel
theorem i162_2 : am_ins 162 2 = some (.invokestatic 343) := by decide +kernel
theorem i162_5 : am_ins 162 5 = some (.iload_n 2) := by decide +kernel
theorem i162_6 : am_ins 162 6 = some (.iload_n 1) := by decide +kernel
theorem i162_7 : am_ins 162 7 = some (.isub) := by decide +kernel
theorem i162_8 : am_ins 162 8 = some (.istore_n 3) := by decide +kernel
theorem i162_9 : am_ins 162 9 = some (.iload_n 3) := by decide +kernel
theorem i162_10 : am_ins 162 10 = some (.newarray .byte) := by decide +kernel
theorem i162_12 : am_ins 162 12 = some (.astore 4) := by decide +kernel
theorem i162_14 : am_ins 162 14 = some (.aload_n 0) := by decide +kernel
theorem i162_15 : am_ins 162 15 = some (.iload_n 1) := by decide +kernel
theorem i162_16 : am_ins 162 16 = some (.aload 4) := by decide +kernel
theorem i162_18 : am_ins 162 18 = some (.iconst 0) := by decide +kernel
theorem i162_19 : am_ins 162 19 = some (.aload_n 0) := by decide +kernel
theorem i162_20 : am_ins 162 20 = some (.arraylength) := by decide +kernel
theorem i162_21 : am_ins 162 21 = some (.iload_n 1) := by decide +kernel
theorem i162_22 : am_ins 162 22 = some (.isub) := by decide +kernel
theorem i162_23 : am_ins 162 23 = some (.iload_n 3) := by decide +kernel
theorem i162_24 : am_ins 162 24 = some (.invokestatic 304) := by decide +kernel
theorem i162_27 : am_ins 162 27 = some (.invokestatic 150) := by decide +kernel
theorem i162_30 : am_ins 162 30 = some (.aload 4) := by decide +kernel
theorem i162_32 : am_ins 162 32 = some (.areturn) := by decide +kernel
theorem i163_0 : am_ins 163 0 = some (.iload_n 1) := by decide +kernel
theorem i163_1 : am_ins 163 1 = some (.iload_n 0) := by decide +kernel
theorem i163_2 : am_ins 163 2 = some (.if_icmp .ge 35) := by decide +kernel
theorem i163_5 : am_ins 163 5 = some (.new 43) := by decide +kernel
theorem i163_8 : am_ins 163 8 = some (.dup) := by decide +kernel
theorem i163_9 : am_ins 163 9 = some (.new 45) := by decide +kernel
theorem i163_12 : am_ins 163 12 = some (.dup) := by decide +kernel
theorem i163_13 : am_ins 163 13 = some (.invokespecial 47) := by decide +kernel
theorem i163_16 : am_ins 163 16 = some (.iload_n 0) := by decide +kernel
theorem i163_17 : am_ins 163 17 = some (.invokevirtual 54) := by decide +kernel
theorem i163_20 : am_ins 163 20 = some (.ldc_w 337) := by decide +kernel
theorem i163_23 : am_ins 163 23 = some (.invokevirtual 50) := by decide +kernel
theorem i163_26 : am_ins 163 26 = some (.iload_n 1) := by decide +kernel
theorem i163_27 : am_ins 163 27 = some (.invokevirtual 54) := by decide +kernel
theorem i163_30 : am_ins 163 30 = some (.invokevirtual 61) := by decide +kernel
theorem i163_33 : am_ins 163 33 = some (.invokespecial 65) := by decide +kernel
theorem i163_37 : am_ins 163 37 = some (.return_) := by decide +kernel
theorem i164_0 : am_ins 164 0 = some (.iload_n 0) := by decide +kernel
theorem i164_1 : am_ins 164 1 = some (.iload_n 1) := by decide +kernel
theorem i164_2 : am_ins 164 2 = some (.iload_n 2) := by decide +kernel
theorem i164_3 : am_ins 164 3 = some (.invokestatic 194) := by decide +kernel
theorem i164_6 : am_ins 164 6 = some (.iadd) := by decide +kernel
theorem i164_7 : am_ins 164 7 = some (.istore_n 3) := by decide +kernel
theorem i164_8 : am_ins 164 8 = some (.iconst 0) := by decide +kernel
theorem i164_9 : am_ins 164 9 = some (.iload_n 3) := by decide +kernel
theorem i164_10 : am_ins 164 10 = some (.if_icmp .ge 11) := by decide +kernel
theorem i164_13 : am_ins 164 13 = some (.iload_n 3) := by decide +kernel
theorem i164_14 : am_ins 164 14 = some (.ldc 200) := by decide +kernel
theorem i164_16 : am_ins 164 16 = some (.if_icmp .gt 5) := by decide +kernel
theorem i164_19 : am_ins 164 19 = some (.iload_n 3) := by decide +kernel
theorem i164_20 : am_ins 164 20 = some (.ireturn) := by decide +kernel
theorem i164_21 : am_ins 164 21 = some (.iload_n 0) := by decide +kernel
theorem i164_22 : am_ins 164 22 = some (.iload_n 1) := by decide +kernel
theorem i164_23 : am_ins 164 23 = some (.invokestatic 201) := by decide +kernel
theorem i164_26 : am_ins 164 26 = some (.ireturn) := by decide +kernel
theorem i165_0 : am_ins 165 0 = some (.iconst 1) := by decide +kernel
theorem i165_1 : am_ins 165 1 = some (.istore_n 1) := by decide +kernel
theorem i165_2 : am_ins 165 2 = some (.iload_n 0) := by decide +kernel
theorem i165_3 : am_ins 165 3 = some (.ifCond .lt 8) := by decide +kernel
theorem i165_6 : am_ins 165 6 = some (.iconst 0) := by decide +kernel
theorem i165_7 : am_ins 165 7 = some (.istore_n 1) := by decide +kernel
theorem i165_8 : am_ins 165 8 = some (.iload_n 0) := by decide +kernel
theorem i165_9 : am_ins 165 9 = some (.ineg) := by decide +kernel
theorem i165_10 : am_ins 165 10 = some (.istore_n 0) := by decide +kernel
theorem i165_11 : am_ins 165 11 = some (.bipush (-10)) := by decide +kernel
theorem i165_13 : am_ins 165 13 = some (.istore_n 2) := by decide +kernel
theorem i165_14 : am_ins 165 14 = some (.iconst 1) := by decide +kernel
theorem i165_15 : am_ins 165 15 = some (.istore_n 3) := by decide +kernel
theorem i165_16 : am_ins 165 16 = some (.iload_n 3) := by decide +kernel
theorem i165_17 : am_ins 165 17 = some (.bipush 10) := by decide +kernel
theorem i165_19 : am_ins 165 19 = some (.if_icmp .ge 23) := by decide +kernel
theorem i165_22 : am_ins 165 22 = some (.iload_n 0) := by decide +kernel
theorem i165_23 : am_ins 165 23 = some (.iload_n 2) := by decide +kernel
theorem i165_24 : am_ins 165 24 = some (.if_icmp .le 7) := by decide +kernel
theorem i165_27 : am_ins 165 27 = some (.iload_n 3) := by decide +kernel
theorem i165_28 : am_ins 165 28 = some (.iload_n 1) := by decide +kernel
theorem i165_29 : am_ins 165 29 = some (.iadd) := by decide +kernel
theorem i165_30 : am_ins 165 30 = some (.ireturn) := by decide +kernel
theorem i165_31 : am_ins 165 31 = some (.bipush 10) := by decide +kernel
theorem i165_33 : am_ins 165 33 = some (.iload_n 2) := by decide +kernel
theorem i165_34 : am_ins 165 34 = some (.imul) := by decide +kernel
theorem i165_35 : am_ins 165 35 = some (.istore_n 2) := by decide +kernel
theorem i165_36 : am_ins 165 36 = some (.iinc 3 1) := by decide +kernel
theorem i165_39 : am_ins 165 39 = some (.goto (-23)) := by decide +kernel
theorem i165_42 : am_ins 165 42 = some (.bipush 10) := by decide +kernel
theorem i165_44 : am_ins 165 44 = some (.iload_n 1) := by decide +kernel
theorem i165_45 : am_ins 165 45 = some (.iadd) := by decide +kernel
theorem i165_46 : am_ins 165 46 = some (.ireturn) := by decide +kernel
theorem i166_0 : am_ins 166 0 = some (.iload_n 1) := by decide +kernel
theorem i166_1 : am_ins 166 1 = some (.istore 5) := by decide +kernel
theorem i166_3 : am_ins 166 3 = some (.iload_n 0) := by decide +kernel
theorem i166_4 : am_ins 166 4 = some (.ifCond .ge 7) := by decide +kernel
theorem i166_7 : am_ins 166 7 = some (.iconst 1) := by decide +kernel
theorem i166_8 : am_ins 166 8 = some (.goto 4) := by decide +kernel
theorem i166_11 : am_ins 166 11 = some (.iconst 0) := by decide +kernel
theorem i166_12 : am_ins 166 12 = some (.istore 6) := by decide +kernel
theorem i166_14 : am_ins 166 14 = some (.iload 6) := by decide +kernel
theorem i166_16 : am_ins 166 16 = some (.ifCond .ne 6) := by decide +kernel
theorem i166_19 : am_ins 166 19 = some (.iload_n 0) := by decide +kernel
theorem i166_20 : am_ins 166 20 = some (.ineg) := by decide +kernel
theorem i166_21 : am_ins 166 21 = some (.istore_n 0) := by decide +kernel
theorem i166_22 : am_ins 166 22 = some (.iload_n 0) := by decide +kernel
theorem i166_23 : am_ins 166 23 = some (.bipush (-100)) := by decide +kernel
theorem i166_25 : am_ins 166 25 = some (.if_icmp .gt 47) := by decide +kernel
theorem i166_28 : am_ins 166 28 = some (.iload_n 0) := by decide +kernel
theorem i166_29 : am_ins 166 29 = some (.bipush 100) := by decide +kernel
theorem i166_31 : am_ins 166 31 = some (.idiv) := by decide +kernel
theorem i166_32 : am_ins 166 32 = some (.istore_n 3) := by decide +kernel
theorem i166_33 : am_ins 166 33 = some (.iload_n 3) := by decide +kernel
theorem i166_34 : am_ins 166 34 = some (.bipush 100) := by decide +kernel
theorem i166_36 : am_ins 166 36 = some (.imul) := by decide +kernel
theorem i166_37 : am_ins 166 37 = some (.iload_n 0) := by decide +kernel
theorem i166_38 : am_ins 166 38 = some (.isub) := by decide +kernel
theorem i166_39 : am_ins 166 39 = some (.istore 4) := by decide +kernel
theorem i166_41 : am_ins 166 41 = some (.iload_n 3) := by decide +kernel
theorem i166_42 : am_ins 166 42 = some (.istore_n 0) := by decide +kernel
theorem i166_43 : am_ins 166 43 = some (.aload_n 2) := by decide +kernel
theorem i166_44 : am_ins 166 44 = some (.iinc 5 (-1)) := by decide +kernel
theorem i166_47 : am_ins 166 47 = some (.iload 5) := by decide +kernel
theorem i166_49 : am_ins 166 49 = some (.getstatic 83) := by decide +kernel
theorem i166_52 : am_ins 166 52 = some (.iload 4) := by decide +kernel
theorem i166_54 : am_ins 166 54 = some (.baload) := by decide +kernel
theorem i166_55 : am_ins 166 55 = some (.bastore) := by decide +kernel
theorem i166_56 : am_ins 166 56 = some (.aload_n 2) := by decide +kernel
theorem i166_57 : am_ins 166 57 = some (.iinc 5 (-1)) := by decide +kernel
theorem i166_60 : am_ins 166 60 = some (.iload 5) := by decide +kernel
theorem i166_62 : am_ins 166 62 = some (.getstatic 87) := by decide +kernel
theorem i166_65 : am_ins 166 65 = some (.iload 4) := by decide +kernel
theorem i166_67 : am_ins 166 67 = some (.baload) := by decide +kernel
theorem i166_68 : am_ins 166 68 = some (.bastore) := by decide +kernel
theorem i166_69 : am_ins 166 69 = some (.goto (-47)) := by decide +kernel
theorem i166_72 : am_ins 166 72 = some (.aload_n 2) := by decide +kernel
theorem i166_73 : am_ins 166 73 = some (.iinc 5 (-1)) := by decide +kernel
theorem i166_76 : am_ins 166 76 = some (.iload 5) := by decide +kernel
theorem i166_78 : am_ins 166 78 = some (.getstatic 83) := by decide +kernel
theorem i166_81 : am_ins 166 81 = some (.iload_n 0) := by decide +kernel
theorem i166_82 : am_ins 166 82 = some (.ineg) := by decide +kernel
theorem i166_83 : am_ins 166 83 = some (.baload) := by decide +kernel
theorem i166_84 : am_ins 166 84 = some (.bastore) := by decide +kernel
theorem i166_85 : am_ins 166 85 = some (.iload_n 0) := by decide +kernel
theorem i166_86 : am_ins 166 86 = some (.bipush (-9)) := by decide +kernel
theorem i166_88 : am_ins 166 88 = some (.if_icmp .ge 16) := by decide +kernel
theorem i166_91 : am_ins 166 91 = some (.aload_n 2) := by decide +kernel
theorem i166_92 : am_ins 166 92 = some (.iinc 5 (-1)) := by decide +kernel
theorem i166_95 : am_ins 166 95 = some (.iload 5) := by decide +kernel
theorem i166_97 : am_ins 166 97 = some (.getstatic 87) := by decide +kernel
theorem i166_100 : am_ins 166 100 = some (.iload_n 0) := by decide +kernel
theorem i166_101 : am_ins 166 101 = some (.ineg) := by decide +kernel
theorem i166_102 : am_ins 166 102 = some (.baload) := by decide +kernel
theorem i166_103 : am_ins 166 103 = some (.bastore) := by decide +kernel
theorem i166_104 : am_ins 166 104 = some (.iload 6) := by decide +kernel
theorem i166_106 : am_ins 166 106 = some (.ifCond .eq 12) := by decide +kernel
theorem i166_109 : am_ins 166 109 = some (.aload_n 2) := by decide +kernel
theorem i166_110 : am_ins 166 110 = some (.iinc 5 (-1)) := by decide +kernel
theorem i166_113 : am_ins 166 113 = some (.iload 5) := by decide +kernel
theorem i166_115 : am_ins 166 115 = some (.bipush 45) := by decide +kernel
theorem i166_117 : am_ins 166 117 = some (.bastore) := by decide +kernel
theorem i166_118 : am_ins 166 118 = some (.iload 5) := by decide +kernel
theorem i166_120 : am_ins 166 120 = some (.ireturn) := by decide +kernel
theorem i167_0 : am_ins 167 0 = some (.aload_n 0) := by decide +kernel
theorem i167_1 : am_ins 167 1 = some (.invokespecial 3) := by decide +kernel
theorem i167_4 : am_ins 167 4 = some (.aload_n 1) := by decide +kernel
theorem i167_5 : am_ins 167 5 = some (.invokevirtual 32) := by decide +kernel
theorem i167_8 : am_ins 167 8 = some (.istore_n 2) := by decide +kernel
theorem i167_9 : am_ins 167 9 = some (.iload_n 2) := by decide +kernel
theorem i167_10 : am_ins 167 10 = some (.ldc 38) := by decide +kernel
theorem i167_12 : am_ins 167 12 = some (.if_icmp .ge 10) := by decide +kernel
theorem i167_15 : am_ins 167 15 = some (.iload_n 2) := by decide +kernel
theorem i167_16 : am_ins 167 16 = some (.bipush 16) := by decide +kernel
theorem i167_18 : am_ins 167 18 = some (.iadd) := by decide +kernel
theorem i167_19 : am_ins 167 19 = some (.goto 5) := by decide +kernel
theorem i167_22 : am_ins 167 22 = some (.ldc 39) := by decide +kernel
theorem i167_24 : am_ins 167 24 = some (.istore_n 3) := by decide +kernel
theorem i167_25 : am_ins 167 25 = some (.aload_n 1) := by decide +kernel
theorem i167_26 : am_ins 167 26 = some (.invokevirtual 40) := by decide +kernel
theorem i167_29 : am_ins 167 29 = some (.istore 4) := by decide +kernel
theorem i167_31 : am_ins 167 31 = some (.aload_n 0) := by decide +kernel
theorem i167_32 : am_ins 167 32 = some (.iload 4) := by decide +kernel
theorem i167_34 : am_ins 167 34 = some (.putfield 22) := by decide +kernel
theorem i167_37 : am_ins 167 37 = some (.aload_n 0) := by decide +kernel
theorem i167_38 : am_ins 167 38 = some (.iload 4) := by decide +kernel
theorem i167_40 : am_ins 167 40 = some (.ifCond .ne 9) := by decide +kernel
theorem i167_43 : am_ins 167 43 = some (.iload_n 3) := by decide +kernel
theorem i167_44 : am_ins 167 44 = some (.newarray .byte) := by decide +kernel
theorem i167_46 : am_ins 167 46 = some (.goto 7) := by decide +kernel
theorem i167_49 : am_ins 167 49 = some (.iload_n 3) := by decide +kernel
theorem i167_50 : am_ins 167 50 = some (.invokestatic 26) := by decide +kernel
theorem i167_53 : am_ins 167 53 = some (.putfield 15) := by decide +kernel
theorem i167_56 : am_ins 167 56 = some (.aload_n 0) := by decide +kernel
theorem i167_57 : am_ins 167 57 = some (.aload_n 1) := by decide +kernel
theorem i167_58 : am_ins 167 58 = some (.invokevirtual 43) := by decide +kernel
theorem i167_61 : am_ins 167 61 = some (.pop) := by decide +kernel
theorem i167_62 : am_ins 167 62 = some (.return_) := by decide +kernel
theorem i168_0 : am_ins 168 0 = some (.aload_n 1) := by decide +kernel
theorem i168_1 : am_ins 168 1 = some (.ifnonnull 8) := by decide +kernel
theorem i168_4 : am_ins 168 4 = some (.aload_n 0) := by decide +kernel
theorem i168_5 : am_ins 168 5 = some (.invokevirtual 204) := by decide +kernel
theorem i168_8 : am_ins 168 8 = some (.areturn) := by decide +kernel
theorem i168_9 : am_ins 168 9 = some (.aload_n 1) := by decide +kernel
theorem i168_10 : am_ins 168 10 = some (.invokevirtual 32) := by decide +kernel
theorem i168_13 : am_ins 168 13 = some (.istore_n 2) := by decide +kernel
theorem i168_14 : am_ins 168 14 = some (.aload_n 0) := by decide +kernel
theorem i168_15 : am_ins 168 15 = some (.aload_n 0) := by decide +kernel
theorem i168_16 : am_ins 168 16 = some (.getfield 79) := by decide +kernel
theorem i168_19 : am_ins 168 19 = some (.iload_n 2) := by decide +kernel
theorem i168_20 : am_ins 168 20 = some (.iadd) := by decide +kernel
theorem i168_21 : am_ins 168 21 = some (.invokevirtual 100) := by decide +kernel
theorem i168_24 : am_ins 168 24 = some (.aload_n 0) := by decide +kernel
theorem i168_25 : am_ins 168 25 = some (.aload_n 0) := by decide +kernel
theorem i168_26 : am_ins 168 26 = some (.getfield 79) := by decide +kernel
theorem i168_29 : am_ins 168 29 = some (.aload_n 1) := by decide +kernel
theorem i168_30 : am_ins 168 30 = some (.invokevirtual 208) := by decide +kernel
theorem i168_33 : am_ins 168 33 = some (.aload_n 0) := by decide +kernel
theorem i168_34 : am_ins 168 34 = some (.dup) := by decide +kernel
theorem i168_35 : am_ins 168 35 = some (.getfield 79) := by decide +kernel
theorem i168_38 : am_ins 168 38 = some (.iload_n 2) := by decide +kernel
theorem i168_39 : am_ins 168 39 = some (.iadd) := by decide +kernel
theorem i168_40 : am_ins 168 40 = some (.putfield 79) := by decide +kernel
theorem i168_43 : am_ins 168 43 = some (.aload_n 0) := by decide +kernel
theorem i168_44 : am_ins 168 44 = some (.areturn) := by decide +kernel
theorem i169_0 : am_ins 169 0 = some (.aload_n 0) := by decide +kernel
theorem i169_1 : am_ins 169 1 = some (.getfield 15) := by decide +kernel
theorem i169_4 : am_ins 169 4 = some (.arraylength) := by decide +kernel
theorem i169_5 : am_ins 169 5 = some (.aload_n 0) := by decide +kernel
theorem i169_6 : am_ins 169 6 = some (.getfield 22) := by decide +kernel
theorem i169_9 : am_ins 169 9 = some (.ishr) := by decide +kernel
theorem i169_10 : am_ins 169 10 = some (.istore_n 2) := by decide +kernel
theorem i169_11 : am_ins 169 11 = some (.iload_n 1) := by decide +kernel
theorem i169_12 : am_ins 169 12 = some (.iload_n 2) := by decide +kernel
theorem i169_13 : am_ins 169 13 = some (.isub) := by decide +kernel
theorem i169_14 : am_ins 169 14 = some (.ifCond .le 24) := by decide +kernel
theorem i169_17 : am_ins 169 17 = some (.aload_n 0) := by decide +kernel
theorem i169_18 : am_ins 169 18 = some (.aload_n 0) := by decide +kernel
theorem i169_19 : am_ins 169 19 = some (.getfield 15) := by decide +kernel
theorem i169_22 : am_ins 169 22 = some (.aload_n 0) := by decide +kernel
theorem i169_23 : am_ins 169 23 = some (.iload_n 1) := by decide +kernel
theorem i169_24 : am_ins 169 24 = some (.invokevirtual 104) := by decide +kernel
theorem i169_27 : am_ins 169 27 = some (.aload_n 0) := by decide +kernel
theorem i169_28 : am_ins 169 28 = some (.getfield 22) := by decide +kernel
theorem i169_31 : am_ins 169 31 = some (.ishl) := by decide +kernel
theorem i169_32 : am_ins 169 32 = some (.invokestatic 108) := by decide +kernel
theorem i169_35 : am_ins 169 35 = some (.putfield 15) := by decide +kernel
theorem i169_38 : am_ins 169 38 = some (.return_) := by decide +kernel
theorem i170_0 : am_ins 170 0 = some (.aload_n 0) := by decide +kernel
theorem i170_1 : am_ins 170 1 = some (.getfield 15) := by decide +kernel
theorem i170_4 : am_ins 170 4 = some (.arraylength) := by decide +kernel
theorem i170_5 : am_ins 170 5 = some (.istore_n 2) := by decide +kernel
theorem i170_6 : am_ins 170 6 = some (.iload_n 1) := by decide +kernel
theorem i170_7 : am_ins 170 7 = some (.aload_n 0) := by decide +kernel
theorem i170_8 : am_ins 170 8 = some (.getfield 22) := by decide +kernel
theorem i170_11 : am_ins 170 11 = some (.ishl) := by decide +kernel
theorem i170_12 : am_ins 170 12 = some (.istore_n 3) := by decide +kernel
theorem i170_13 : am_ins 170 13 = some (.iload_n 3) := by decide +kernel
theorem i170_14 : am_ins 170 14 = some (.iload_n 2) := by decide +kernel
theorem i170_15 : am_ins 170 15 = some (.isub) := by decide +kernel
theorem i170_16 : am_ins 170 16 = some (.istore 4) := by decide +kernel
theorem i170_18 : am_ins 170 18 = some (.iload_n 2) := by decide +kernel
theorem i170_19 : am_ins 170 19 = some (.iload 4) := by decide +kernel
theorem i170_21 : am_ins 170 21 = some (.iload_n 2) := by decide +kernel
theorem i170_22 : am_ins 170 22 = some (.iconst 2) := by decide +kernel
theorem i170_23 : am_ins 170 23 = some (.aload_n 0) := by decide +kernel
theorem i170_24 : am_ins 170 24 = some (.getfield 22) := by decide +kernel
theorem i170_27 : am_ins 170 27 = some (.ishl) := by decide +kernel
theorem i170_28 : am_ins 170 28 = some (.iadd) := by decide +kernel
theorem i170_29 : am_ins 170 29 = some (.invokestatic 114) := by decide +kernel
theorem i170_32 : am_ins 170 32 = some (.istore 5) := by decide +kernel
theorem i170_34 : am_ins 170 34 = some (.iload 5) := by decide +kernel
theorem i170_36 : am_ins 170 36 = some (.ldc 39) := by decide +kernel
theorem i170_38 : am_ins 170 38 = some (.if_icmp .ne 13) := by decide +kernel
theorem i170_41 : am_ins 170 41 = some (.new 120) := by decide +kernel
theorem i170_44 : am_ins 170 44 = some (.dup) := by decide +kernel
theorem i170_45 : am_ins 170 45 = some (.ldc 122) := by decide +kernel
theorem i170_47 : am_ins 170 47 = some (.invokespecial 124) := by decide +kernel
theorem i170_51 : am_ins 170 51 = some (.iload 5) := by decide +kernel
theorem i170_53 : am_ins 170 53 = some (.aload_n 0) := by decide +kernel
theorem i170_54 : am_ins 170 54 = some (.getfield 22) := by decide +kernel
theorem i170_57 : am_ins 170 57 = some (.ishr) := by decide +kernel
theorem i170_58 : am_ins 170 58 = some (.ireturn) := by decide +kernel
theorem i171_0 : am_ins 171 0 = some (.getstatic 18) := by decide +kernel
theorem i171_3 : am_ins 171 3 = some (.ifCond .eq 14) := by decide +kernel
theorem i171_6 : am_ins 171 6 = some (.aload_n 0) := by decide +kernel
theorem i171_7 : am_ins 171 7 = some (.getfield 22) := by decide +kernel
theorem i171_10 : am_ins 171 10 = some (.ifCond .ne 7) := by decide +kernel
theorem i171_13 : am_ins 171 13 = some (.iconst 1) := by decide +kernel
theorem i171_14 : am_ins 171 14 = some (.goto 4) := by decide +kernel
theorem i171_17 : am_ins 171 17 = some (.iconst 0) := by decide +kernel
theorem i171_18 : am_ins 171 18 = some (.ireturn) := by decide +kernel
theorem i172_0 : am_ins 172 0 = some (.aload_n 0) := by decide +kernel
theorem i172_1 : am_ins 172 1 = some (.aload_n 2) := by decide +kernel
theorem i172_2 : am_ins 172 2 = some (.invokevirtual 397) := by decide +kernel
theorem i172_5 : am_ins 172 5 = some (.aload_n 2) := by decide +kernel
theorem i172_6 : am_ins 172 6 = some (.aload_n 0) := by decide +kernel
theorem i172_7 : am_ins 172 7 = some (.getfield 15) := by decide +kernel
theorem i172_10 : am_ins 172 10 = some (.iload_n 1) := by decide +kernel
theorem i172_11 : am_ins 172 11 = some (.aload_n 0) := by decide +kernel
theorem i172_12 : am_ins 172 12 = some (.getfield 22) := by decide +kernel
theorem i172_15 : am_ins 172 15 = some (.invokevirtual 399) := by decide +kernel
theorem i172_18 : am_ins 172 18 = some (.return_) := by decide +kernel
theorem i173_0 : am_ins 173 0 = some (.getstatic 18) := by decide +kernel
theorem i173_3 : am_ins 173 3 = some (.ifCond .eq 18) := by decide +kernel
theorem i173_6 : am_ins 173 6 = some (.aload_n 0) := by decide +kernel
theorem i173_7 : am_ins 173 7 = some (.getfield 22) := by decide +kernel
theorem i173_10 : am_ins 173 10 = some (.aload_n 1) := by decide +kernel
theorem i173_11 : am_ins 173 11 = some (.invokevirtual 40) := by decide +kernel
theorem i173_14 : am_ins 173 14 = some (.if_icmp .eq 7) := by decide +kernel
theorem i173_17 : am_ins 173 17 = some (.aload_n 0) := by decide +kernel
theorem i173_18 : am_ins 173 18 = some (.invokevirtual 195) := by decide +kernel
theorem i173_21 : am_ins 173 21 = some (.return_) := by decide +kernel
theorem i174_0 : am_ins 174 0 = some (.aload_n 0) := by decide +kernel
theorem i174_1 : am_ins 174 1 = some (.getfield 79) := by decide +kernel
theorem i174_4 : am_ins 174 4 = some (.istore_n 2) := by decide +kernel
theorem i174_5 : am_ins 174 5 = some (.iload_n 2) := by decide +kernel
theorem i174_6 : am_ins 174 6 = some (.iload_n 1) := by decide +kernel
theorem i174_7 : am_ins 174 7 = some (.invokestatic 245) := by decide +kernel
theorem i174_10 : am_ins 174 10 = some (.iadd) := by decide +kernel
theorem i174_11 : am_ins 174 11 = some (.istore_n 3) := by decide +kernel
theorem i174_12 : am_ins 174 12 = some (.aload_n 0) := by decide +kernel
theorem i174_13 : am_ins 174 13 = some (.iload_n 3) := by decide +kernel
theorem i174_14 : am_ins 174 14 = some (.invokevirtual 100) := by decide +kernel
theorem i174_17 : am_ins 174 17 = some (.aload_n 0) := by decide +kernel
theorem i174_18 : am_ins 174 18 = some (.invokevirtual 83) := by decide +kernel
theorem i174_21 : am_ins 174 21 = some (.ifCond .eq 16) := by decide +kernel
theorem i174_24 : am_ins 174 24 = some (.iload_n 1) := by decide +kernel
theorem i174_25 : am_ins 174 25 = some (.iload_n 3) := by decide +kernel
theorem i174_26 : am_ins 174 26 = some (.aload_n 0) := by decide +kernel
theorem i174_27 : am_ins 174 27 = some (.getfield 15) := by decide +kernel
theorem i174_30 : am_ins 174 30 = some (.invokestatic 248) := by decide +kernel
theorem i174_33 : am_ins 174 33 = some (.pop) := by decide +kernel
theorem i174_34 : am_ins 174 34 = some (.goto 14) := by decide +kernel
theorem i174_37 : am_ins 174 37 = some (.iload_n 1) := by decide +kernel
theorem i174_38 : am_ins 174 38 = some (.iload_n 2) := by decide +kernel
theorem i174_39 : am_ins 174 39 = some (.iload_n 3) := by decide +kernel
theorem i174_40 : am_ins 174 40 = some (.aload_n 0) := by decide +kernel
theorem i174_41 : am_ins 174 41 = some (.getfield 15) := by decide +kernel
theorem i174_44 : am_ins 174 44 = some (.invokestatic 251) := by decide +kernel
theorem i174_47 : am_ins 174 47 = some (.pop) := by decide +kernel
theorem i174_48 : am_ins 174 48 = some (.aload_n 0) := by decide +kernel
theorem i174_49 : am_ins 174 49 = some (.iload_n 3) := by decide +kernel
theorem i174_50 : am_ins 174 50 = some (.putfield 79) := by decide +kernel
theorem i174_53 : am_ins 174 53 = some (.aload_n 0) := by decide +kernel
theorem i174_54 : am_ins 174 54 = some (.areturn) := by decide +kernel
theorem i175_0 : am_ins 175 0 = some (.aload_n 0) := by decide +kernel
theorem i175_1 : am_ins 175 1 = some (.aload_n 0) := by decide +kernel
theorem i175_2 : am_ins 175 2 = some (.getfield 79) := by decide +kernel
theorem i175_5 : am_ins 175 5 = some (.iconst 1) := by decide +kernel
theorem i175_6 : am_ins 175 6 = some (.iadd) := by decide +kernel
theorem i175_7 : am_ins 175 7 = some (.invokevirtual 100) := by decide +kernel
theorem i175_10 : am_ins 175 10 = some (.aload_n 0) := by decide +kernel
theorem i175_11 : am_ins 175 11 = some (.invokevirtual 83) := by decide +kernel
theorem i175_14 : am_ins 175 14 = some (.ifCond .eq 31) := by decide +kernel
theorem i175_17 : am_ins 175 17 = some (.iload_n 1) := by decide +kernel
theorem i175_18 : am_ins 175 18 = some (.invokestatic 191) := by decide +kernel
theorem i175_21 : am_ins 175 21 = some (.ifCond .eq 24) := by decide +kernel
theorem i175_24 : am_ins 175 24 = some (.aload_n 0) := by decide +kernel
theorem i175_25 : am_ins 175 25 = some (.getfield 15) := by decide +kernel
theorem i175_28 : am_ins 175 28 = some (.aload_n 0) := by decide +kernel
theorem i175_29 : am_ins 175 29 = some (.dup) := by decide +kernel
theorem i175_30 : am_ins 175 30 = some (.getfield 79) := by decide +kernel
theorem i175_33 : am_ins 175 33 = some (.dup_x1) := by decide +kernel
theorem i175_34 : am_ins 175 34 = some (.iconst 1) := by decide +kernel
theorem i175_35 : am_ins 175 35 = some (.iadd) := by decide +kernel
theorem i175_36 : am_ins 175 36 = some (.putfield 79) := by decide +kernel
theorem i175_39 : am_ins 175 39 = some (.iload_n 1) := by decide +kernel
theorem i175_40 : am_ins 175 40 = some (.i2b) := by decide +kernel
theorem i175_41 : am_ins 175 41 = some (.bastore) := by decide +kernel
theorem i175_42 : am_ins 175 42 = some (.goto 33) := by decide +kernel
theorem i175_45 : am_ins 175 45 = some (.aload_n 0) := by decide +kernel
theorem i175_46 : am_ins 175 46 = some (.invokevirtual 83) := by decide +kernel
theorem i175_49 : am_ins 175 49 = some (.ifCond .eq 7) := by decide +kernel
theorem i175_52 : am_ins 175 52 = some (.aload_n 0) := by decide +kernel
theorem i175_53 : am_ins 175 53 = some (.invokevirtual 195) := by decide +kernel
theorem i175_56 : am_ins 175 56 = some (.aload_n 0) := by decide +kernel
theorem i175_57 : am_ins 175 57 = some (.getfield 15) := by decide +kernel
theorem i175_60 : am_ins 175 60 = some (.aload_n 0) := by decide +kernel
theorem i175_61 : am_ins 175 61 = some (.dup) := by decide +kernel
theorem i175_62 : am_ins 175 62 = some (.getfield 79) := by decide +kernel
theorem i175_65 : am_ins 175 65 = some (.dup_x1) := by decide +kernel
theorem i175_66 : am_ins 175 66 = some (.iconst 1) := by decide +kernel
theorem i175_67 : am_ins 175 67 = some (.iadd) := by decide +kernel
theorem i175_68 : am_ins 175 68 = some (.putfield 79) := by decide +kernel
theorem i175_71 : am_ins 175 71 = some (.iload_n 1) := by decide +kernel
theorem i175_72 : am_ins 175 72 = some (.invokestatic 197) := by decide +kernel
theorem i175_75 : am_ins 175 75 = some (.aload_n 0) := by decide +kernel
theorem i175_76 : am_ins 175 76 = some (.areturn) := by decide +kernel
theorem i176_0 : am_ins 176 0 = some (.aload_n 0) := by decide +kernel
theorem i176_1 : am_ins 176 1 = some (.invokespecial 3) := by decide +kernel
theorem i176_4 : am_ins 176 4 = some (.getstatic 18) := by decide +kernel
theorem i176_7 : am_ins 176 7 = some (.ifCond .eq 18) := by decide +kernel
theorem i176_10 : am_ins 176 10 = some (.aload_n 0) := by decide +kernel
theorem i176_11 : am_ins 176 11 = some (.iload_n 1) := by decide +kernel
theorem i176_12 : am_ins 176 12 = some (.newarray .byte) := by decide +kernel
theorem i176_14 : am_ins 176 14 = some (.putfield 15) := by decide +kernel
theorem i176_17 : am_ins 176 17 = some (.aload_n 0) := by decide +kernel
theorem i176_18 : am_ins 176 18 = some (.iconst 0) := by decide +kernel
theorem i176_19 : am_ins 176 19 = some (.putfield 22) := by decide +kernel
theorem i176_22 : am_ins 176 22 = some (.goto 16) := by decide +kernel
theorem i176_25 : am_ins 176 25 = some (.aload_n 0) := by decide +kernel
theorem i176_26 : am_ins 176 26 = some (.iload_n 1) := by decide +kernel
theorem i176_27 : am_ins 176 27 = some (.invokestatic 26) := by decide +kernel
theorem i176_30 : am_ins 176 30 = some (.putfield 15) := by decide +kernel
theorem i176_33 : am_ins 176 33 = some (.aload_n 0) := by decide +kernel
theorem i176_34 : am_ins 176 34 = some (.iconst 1) := by decide +kernel
theorem i176_35 : am_ins 176 35 = some (.putfield 22) := by decide +kernel
theorem i176_38 : am_ins 176 38 = some (.return_) := by decide +kernel
theorem i177_0 : am_ins 177 0 = some (.aload_n 0) := by decide +kernel
theorem i177_1 : am_ins 177 1 = some (.getfield 79) := by decide +kernel
theorem i177_4 : am_ins 177 4 = some (.ireturn) := by decide +kernel
theorem i178_0 : am_ins 178 0 = some (.aload_n 0) := by decide +kernel
theorem i178_1 : am_ins 178 1 = some (.getfield 22) := by decide +kernel
theorem i178_4 : am_ins 178 4 = some (.istore_n 2) := by decide +kernel
theorem i178_5 : am_ins 178 5 = some (.aload_n 0) := by decide +kernel
theorem i178_6 : am_ins 178 6 = some (.getfield 15) := by decide +kernel
theorem i178_9 : am_ins 178 9 = some (.astore_n 3) := by decide +kernel
theorem i178_10 : am_ins 178 10 = some (.aload_n 0) := by decide +kernel
theorem i178_11 : am_ins 178 11 = some (.getfield 79) := by decide +kernel
theorem i178_14 : am_ins 178 14 = some (.aload_n 3) := by decide +kernel
theorem i178_15 : am_ins 178 15 = some (.arraylength) := by decide +kernel
theorem i178_16 : am_ins 178 16 = some (.iload_n 2) := by decide +kernel
theorem i178_17 : am_ins 178 17 = some (.ishr) := by decide +kernel
theorem i178_18 : am_ins 178 18 = some (.invokestatic 138) := by decide +kernel
theorem i178_21 : am_ins 178 21 = some (.istore 4) := by decide +kernel
theorem i178_23 : am_ins 178 23 = some (.iload_n 1) := by decide +kernel
theorem i178_24 : am_ins 178 24 = some (.iload 4) := by decide +kernel
theorem i178_26 : am_ins 178 26 = some (.invokestatic 144) := by decide +kernel
theorem i178_29 : am_ins 178 29 = some (.iload_n 2) := by decide +kernel
theorem i178_30 : am_ins 178 30 = some (.ifCond .ne 12) := by decide +kernel
theorem i178_33 : am_ins 178 33 = some (.aload_n 3) := by decide +kernel
theorem i178_34 : am_ins 178 34 = some (.iload_n 1) := by decide +kernel
theorem i178_35 : am_ins 178 35 = some (.baload) := by decide +kernel
theorem i178_36 : am_ins 178 36 = some (.sipush 255) := by decide +kernel
theorem i178_39 : am_ins 178 39 = some (.iand) := by decide +kernel
theorem i178_40 : am_ins 178 40 = some (.i2c) := by decide +kernel
theorem i178_41 : am_ins 178 41 = some (.ireturn) := by decide +kernel
theorem i178_42 : am_ins 178 42 = some (.aload_n 3) := by decide +kernel
theorem i178_43 : am_ins 178 43 = some (.iload_n 1) := by decide +kernel
theorem i178_44 : am_ins 178 44 = some (.invokestatic 148) := by decide +kernel
theorem i178_47 : am_ins 178 47 = some (.ireturn) := by decide +kernel
theorem i179_0 : am_ins 179 0 = some (.iload_n 1) := by decide +kernel
theorem i179_1 : am_ins 179 1 = some (.ifCond .ge 12) := by decide +kernel
theorem i179_4 : am_ins 179 4 = some (.new 129) := by decide +kernel
theorem i179_7 : am_ins 179 7 = some (.dup) := by decide +kernel
theorem i179_8 : am_ins 179 8 = some (.iload_n 1) := by decide +kernel
theorem i179_9 : am_ins 179 9 = some (.invokespecial 131) := by decide +kernel
theorem i179_13 : am_ins 179 13 = some (.aload_n 0) := by decide +kernel
theorem i179_14 : am_ins 179 14 = some (.iload_n 1) := by decide +kernel
theorem i179_15 : am_ins 179 15 = some (.invokevirtual 100) := by decide +kernel
theorem i179_18 : am_ins 179 18 = some (.aload_n 0) := by decide +kernel
theorem i179_19 : am_ins 179 19 = some (.getfield 79) := by decide +kernel
theorem i179_22 : am_ins 179 22 = some (.iload_n 1) := by decide +kernel
theorem i179_23 : am_ins 179 23 = some (.if_icmp .ge 40) := by decide +kernel
theorem i179_26 : am_ins 179 26 = some (.aload_n 0) := by decide +kernel
theorem i179_27 : am_ins 179 27 = some (.invokevirtual 83) := by decide +kernel
theorem i179_30 : am_ins 179 30 = some (.ifCond .eq 18) := by decide +kernel
theorem i179_33 : am_ins 179 33 = some (.aload_n 0) := by decide +kernel
theorem i179_34 : am_ins 179 34 = some (.getfield 15) := by decide +kernel
theorem i179_37 : am_ins 179 37 = some (.aload_n 0) := by decide +kernel
theorem i179_38 : am_ins 179 38 = some (.getfield 79) := by decide +kernel
theorem i179_41 : am_ins 179 41 = some (.iload_n 1) := by decide +kernel
theorem i179_42 : am_ins 179 42 = some (.invokestatic 133) := by decide +kernel
theorem i179_45 : am_ins 179 45 = some (.goto 31) := by decide +kernel
theorem i179_48 : am_ins 179 48 = some (.aload_n 0) := by decide +kernel
theorem i179_49 : am_ins 179 49 = some (.getfield 15) := by decide +kernel
theorem i179_52 : am_ins 179 52 = some (.aload_n 0) := by decide +kernel
theorem i179_53 : am_ins 179 53 = some (.getfield 79) := by decide +kernel
theorem i179_56 : am_ins 179 56 = some (.iload_n 1) := by decide +kernel
theorem i179_57 : am_ins 179 57 = some (.invokestatic 137) := by decide +kernel
theorem i179_60 : am_ins 179 60 = some (.goto 16) := by decide +kernel
theorem i179_63 : am_ins 179 63 = some (.aload_n 0) := by decide +kernel
theorem i179_64 : am_ins 179 64 = some (.getfield 79) := by decide +kernel
theorem i179_67 : am_ins 179 67 = some (.iload_n 1) := by decide +kernel
theorem i179_68 : am_ins 179 68 = some (.if_icmp .le 8) := by decide +kernel
theorem i179_71 : am_ins 179 71 = some (.aload_n 0) := by decide +kernel
theorem i179_72 : am_ins 179 72 = some (.iconst 1) := by decide +kernel
theorem i179_73 : am_ins 179 73 = some (.putfield 73) := by decide +kernel
theorem i179_76 : am_ins 179 76 = some (.aload_n 0) := by decide +kernel
theorem i179_77 : am_ins 179 77 = some (.iload_n 1) := by decide +kernel
theorem i179_78 : am_ins 179 78 = some (.putfield 79) := by decide +kernel
theorem i179_81 : am_ins 179 81 = some (.return_) := by decide +kernel
theorem i180_0 : am_ins 180 0 = some (.aload_n 0) := by decide +kernel
theorem i180_1 : am_ins 180 1 = some (.getfield 15) := by decide +kernel
theorem i180_4 : am_ins 180 4 = some (.areturn) := by decide +kernel
theorem i181_0 : am_ins 181 0 = some (.aload_n 0) := by decide +kernel
theorem i181_1 : am_ins 181 1 = some (.aload_n 1) := by decide +kernel
theorem i181_2 : am_ins 181 2 = some (.invokespecial 7) := by decide +kernel
theorem i181_5 : am_ins 181 5 = some (.return_) := by decide +kernel
theorem i182_0 : am_ins 182 0 = some (.aload_n 0) := by decide +kernel
theorem i182_1 : am_ins 182 1 = some (.aload_n 1) := by decide +kernel
theorem i182_2 : am_ins 182 2 = some (.invokevirtual 23) := by decide +kernel
theorem i182_5 : am_ins 182 5 = some (.areturn) := by decide +kernel
theorem i183_0 : am_ins 183 0 = some (.aload_n 0) := by decide +kernel
theorem i183_1 : am_ins 183 1 = some (.aload_n 1) := by decide +kernel
theorem i183_2 : am_ins 183 2 = some (.invokespecial 29) := by decide +kernel
theorem i183_5 : am_ins 183 5 = some (.pop) := by decide +kernel
theorem i183_6 : am_ins 183 6 = some (.aload_n 0) := by decide +kernel
theorem i183_7 : am_ins 183 7 = some (.areturn) := by decide +kernel
theorem i184_0 : am_ins 184 0 = some (.aload_n 0) := by decide +kernel
theorem i184_1 : am_ins 184 1 = some (.iload_n 1) := by decide +kernel
theorem i184_2 : am_ins 184 2 = some (.invokespecial 53) := by decide +kernel
theorem i184_5 : am_ins 184 5 = some (.pop) := by decide +kernel
theorem i184_6 : am_ins 184 6 = some (.aload_n 0) := by decide +kernel
theorem i184_7 : am_ins 184 7 = some (.areturn) := by decide +kernel
theorem i185_0 : am_ins 185 0 = some (.aload_n 0) := by decide +kernel
theorem i185_1 : am_ins 185 1 = some (.iload_n 1) := by decide +kernel
theorem i185_2 : am_ins 185 2 = some (.invokespecial 50) := by decide +kernel
theorem i185_5 : am_ins 185 5 = some (.pop) := by decide +kernel
theorem i185_6 : am_ins 185 6 = some (.aload_n 0) := by decide +kernel
theorem i185_7 : am_ins 185 7 = some (.areturn) := by decide +kernel
theorem i186_0 : am_ins 186 0 = some (.aload_n 0) := by decide +kernel
theorem i186_1 : am_ins 186 1 = some (.bipush 16) := by decide +kernel
theorem i186_3 : am_ins 186 3 = some (.invokespecial 1) := by decide +kernel
theorem i186_6 : am_ins 186 6 = some (.return_) := by decide +kernel
theorem i187_0 : am_ins 187 0 = some (.aload_n 0) := by decide +kernel
theorem i187_1 : am_ins 187 1 = some (.invokespecial 343) := by decide +kernel
theorem i187_4 : am_ins 187 4 = some (.ireturn) := by decide +kernel
theorem i188_0 : am_ins 188 0 = some (.aload_n 0) := by decide +kernel
theorem i188_1 : am_ins 188 1 = some (.iload_n 1) := by decide +kernel
theorem i188_2 : am_ins 188 2 = some (.invokespecial 329) := by decide +kernel
theorem i188_5 : am_ins 188 5 = some (.ireturn) := by decide +kernel
theorem i189_0 : am_ins 189 0 = some (.aload_n 0) := by decide +kernel
theorem i189_1 : am_ins 189 1 = some (.iload_n 1) := by decide +kernel
theorem i189_2 : am_ins 189 2 = some (.invokespecial 333) := by decide +kernel
theorem i189_5 : am_ins 189 5 = some (.return_) := by decide +kernel
theorem i190_0 : am_ins 190 0 = some (.new 18) := by decide +kernel
theorem i190_3 : am_ins 190 3 = some (.dup) := by decide +kernel
theorem i190_4 : am_ins 190 4 = some (.aload_n 0) := by decide +kernel
theorem i190_5 : am_ins 190 5 = some (.invokespecial 137) := by decide +kernel
theorem i190_8 : am_ins 190 8 = some (.areturn) := by decide +kernel
theorem i191_0 : am_ins 191 0 = some (.aload_n 0) := by decide +kernel
theorem i191_1 : am_ins 191 1 = some (.invokespecial 1) := by decide +kernel
theorem i191_4 : am_ins 191 4 = some (.aload_n 0) := by decide +kernel
theorem i191_5 : am_ins 191 5 = some (.aload_n 1) := by decide +kernel
theorem i191_6 : am_ins 191 6 = some (.putfield 7) := by decide +kernel
theorem i191_9 : am_ins 191 9 = some (.return_) := by decide +kernel
theorem i192_0 : am_ins 192 0 = some (.aload_n 0) := by decide +kernel
theorem i192_1 : am_ins 192 1 = some (.getfield 13) := by decide +kernel
theorem i192_4 : am_ins 192 4 = some (.aload_n 0) := by decide +kernel
theorem i192_5 : am_ins 192 5 = some (.getfield 7) := by decide +kernel
theorem i192_8 : am_ins 192 8 = some (.arraylength) := by decide +kernel
theorem i192_9 : am_ins 192 9 = some (.if_icmp .ge 18) := by decide +kernel
theorem i192_12 : am_ins 192 12 = some (.aload_n 0) := by decide +kernel
theorem i192_13 : am_ins 192 13 = some (.getfield 7) := by decide +kernel
theorem i192_16 : am_ins 192 16 = some (.aload_n 0) := by decide +kernel
theorem i192_17 : am_ins 192 17 = some (.getfield 13) := by decide +kernel
theorem i192_20 : am_ins 192 20 = some (.iaload) := by decide +kernel
theorem i192_21 : am_ins 192 21 = some (.ldc 17) := by decide +kernel
theorem i192_23 : am_ins 192 23 = some (.iand) := by decide +kernel
theorem i192_24 : am_ins 192 24 = some (.goto 4) := by decide +kernel
theorem i192_27 : am_ins 192 27 = some (.iconst 0) := by decide +kernel
theorem i192_28 : am_ins 192 28 = some (.istore_n 3) := by decide +kernel
theorem i192_29 : am_ins 192 29 = some (.aload_n 0) := by decide +kernel
theorem i192_30 : am_ins 192 30 = some (.dup) := by decide +kernel
theorem i192_31 : am_ins 192 31 = some (.getfield 13) := by decide +kernel
theorem i192_34 : am_ins 192 34 = some (.iconst 1) := by decide +kernel
theorem i192_35 : am_ins 192 35 = some (.iadd) := by decide +kernel
theorem i192_36 : am_ins 192 36 = some (.putfield 13) := by decide +kernel
theorem i192_39 : am_ins 192 39 = some (.iload_n 1) := by decide +kernel
theorem i192_40 : am_ins 192 40 = some (.iload_n 3) := by decide +kernel
theorem i192_41 : am_ins 192 41 = some (.iload_n 2) := by decide +kernel
theorem i192_42 : am_ins 192 42 = some (.iload_n 1) := by decide +kernel
theorem i192_43 : am_ins 192 43 = some (.isub) := by decide +kernel
theorem i192_44 : am_ins 192 44 = some (.iconst 1) := by decide +kernel
theorem i192_45 : am_ins 192 45 = some (.iadd) := by decide +kernel
theorem i192_46 : am_ins 192 46 = some (.irem) := by decide +kernel
theorem i192_47 : am_ins 192 47 = some (.iadd) := by decide +kernel
theorem i192_48 : am_ins 192 48 = some (.ireturn) := by decide +kernel
theorem i193_0 : am_ins 193 0 = some (.aload_n 0) := by decide +kernel
theorem i193_1 : am_ins 193 1 = some (.invokespecial 1) := by decide +kernel
theorem i193_4 : am_ins 193 4 = some (.aload_n 0) := by decide +kernel
theorem i193_5 : am_ins 193 5 = some (.iload_n 1) := by decide +kernel
theorem i193_6 : am_ins 193 6 = some (.putfield 7) := by decide +kernel
theorem i193_9 : am_ins 193 9 = some (.aload_n 0) := by decide +kernel
theorem i193_10 : am_ins 193 10 = some (.iload_n 2) := by decide +kernel
theorem i193_11 : am_ins 193 11 = some (.putfield 13) := by decide +kernel
theorem i193_14 : am_ins 193 14 = some (.aload_n 0) := by decide +kernel
theorem i193_15 : am_ins 193 15 = some (.iload_n 3) := by decide +kernel
theorem i193_16 : am_ins 193 16 = some (.putfield 16) := by decide +kernel
theorem i193_19 : am_ins 193 19 = some (.return_) := by decide +kernel
theorem i194_0 : am_ins 194 0 = some (.aload_n 0) := by decide +kernel
theorem i194_1 : am_ins 194 1 = some (.invokespecial 1) := by decide +kernel
theorem i194_4 : am_ins 194 4 = some (.aload_n 0) := by decide +kernel
theorem i194_5 : am_ins 194 5 = some (.iload_n 1) := by decide +kernel
theorem i194_6 : am_ins 194 6 = some (.putfield 7) := by decide +kernel
theorem i194_9 : am_ins 194 9 = some (.aload_n 0) := by decide +kernel
theorem i194_10 : am_ins 194 10 = some (.iload_n 2) := by decide +kernel
theorem i194_11 : am_ins 194 11 = some (.putfield 13) := by decide +kernel
theorem i194_14 : am_ins 194 14 = some (.aload_n 0) := by decide +kernel
theorem i194_15 : am_ins 194 15 = some (.iload_n 3) := by decide +kernel
theorem i194_16 : am_ins 194 16 = some (.putfield 16) := by decide +kernel
theorem i194_19 : am_ins 194 19 = some (.aload_n 0) := by decide +kernel
theorem i194_20 : am_ins 194 20 = some (.iload 4) := by decide +kernel
theorem i194_22 : am_ins 194 22 = some (.putfield 19) := by decide +kernel
theorem i194_25 : am_ins 194 25 = some (.aload_n 0) := by decide +kernel
theorem i194_26 : am_ins 194 26 = some (.iload 5) := by decide +kernel
theorem i194_28 : am_ins 194 28 = some (.putfield 22) := by decide +kernel
theorem i194_31 : am_ins 194 31 = some (.aload_n 0) := by decide +kernel
theorem i194_32 : am_ins 194 32 = some (.iload_n 3) := by decide +kernel
theorem i194_33 : am_ins 194 33 = some (.putfield 25) := by decide +kernel
theorem i194_36 : am_ins 194 36 = some (.return_) := by decide +kernel
