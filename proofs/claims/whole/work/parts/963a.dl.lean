theorem dL_drop_0 : decode cL_drop 0 = .ok (.aload_n 2, 1) := by decide +kernel
theorem dL_drop_1 : decode cL_drop 1 = .ok (.iconst 0, 1) := by decide +kernel
theorem dL_drop_2 : decode cL_drop 2 = .ok (.aload_n 0, 1) := by decide +kernel
theorem dL_drop_3 : decode cL_drop 3 = .ok (.iload_n 1, 1) := by decide +kernel
theorem dL_drop_4 : decode cL_drop 4 = .ok (.invokevirtual 7, 3) := by decide +kernel
theorem dL_drop_7 : decode cL_drop 7 = .ok (.i2l, 1) := by decide +kernel
theorem dL_drop_8 : decode cL_drop 8 = .ok (.lastore, 1) := by decide +kernel
theorem dL_drop_9 : decode cL_drop 9 = .ok (.goto 6, 3) := by decide +kernel
theorem dL_drop_12 : decode cL_drop 12 = .ok (.astore_n 3, 1) := by decide +kernel
theorem dL_drop_13 : decode cL_drop 13 = .ok (.iconst 1, 1) := by decide +kernel
theorem dL_drop_14 : decode cL_drop 14 = .ok (.ireturn, 1) := by decide +kernel
theorem dL_drop_15 : decode cL_drop 15 = .ok (.iconst 0, 1) := by decide +kernel
theorem dL_drop_16 : decode cL_drop 16 = .ok (.ireturn, 1) := by decide +kernel
theorem dL_write_0 : decode cL_write 0 = .ok (.aload 8, 2) := by decide +kernel
theorem dL_write_2 : decode cL_write 2 = .ok (.iconst 0, 1) := by decide +kernel
theorem dL_write_3 : decode cL_write 3 = .ok (.aload_n 0, 1) := by decide +kernel
theorem dL_write_4 : decode cL_write 4 = .ok (.iload_n 1, 1) := by decide +kernel
theorem dL_write_5 : decode cL_write 5 = .ok (.iload_n 2, 1) := by decide +kernel
theorem dL_write_6 : decode cL_write 6 = .ok (.iload_n 3, 1) := by decide +kernel
theorem dL_write_7 : decode cL_write 7 = .ok (.iload 4, 2) := by decide +kernel
theorem dL_write_9 : decode cL_write 9 = .ok (.iload 5, 2) := by decide +kernel
theorem dL_write_11 : decode cL_write 11 = .ok (.iload 6, 2) := by decide +kernel
theorem dL_write_13 : decode cL_write 13 = .ok (.iload 7, 2) := by decide +kernel
theorem dL_write_15 : decode cL_write 15 = .ok (.invokevirtual 15, 3) := by decide +kernel
theorem dL_write_18 : decode cL_write 18 = .ok (.i2l, 1) := by decide +kernel
theorem dL_write_19 : decode cL_write 19 = .ok (.lastore, 1) := by decide +kernel
theorem dL_write_20 : decode cL_write 20 = .ok (.goto 7, 3) := by decide +kernel
theorem dL_write_23 : decode cL_write 23 = .ok (.astore 9, 2) := by decide +kernel
theorem dL_write_25 : decode cL_write 25 = .ok (.iconst 1, 1) := by decide +kernel
theorem dL_write_26 : decode cL_write 26 = .ok (.ireturn, 1) := by decide +kernel
theorem dL_write_27 : decode cL_write 27 = .ok (.iconst 0, 1) := by decide +kernel
theorem dL_write_28 : decode cL_write 28 = .ok (.ireturn, 1) := by decide +kernel
theorem dL_event_0 : decode cL_event 0 = .ok (.aload_n 3, 1) := by decide +kernel
theorem dL_event_1 : decode cL_event 1 = .ok (.iconst 0, 1) := by decide +kernel
theorem dL_event_2 : decode cL_event 2 = .ok (.aload_n 0, 1) := by decide +kernel
theorem dL_event_3 : decode cL_event 3 = .ok (.iload_n 1, 1) := by decide +kernel
theorem dL_event_4 : decode cL_event 4 = .ok (.iload_n 2, 1) := by decide +kernel
theorem dL_event_5 : decode cL_event 5 = .ok (.invokevirtual 19, 3) := by decide +kernel
theorem dL_event_8 : decode cL_event 8 = .ok (.i2l, 1) := by decide +kernel
theorem dL_event_9 : decode cL_event 9 = .ok (.lastore, 1) := by decide +kernel
theorem dL_event_10 : decode cL_event 10 = .ok (.goto 7, 3) := by decide +kernel
theorem dL_event_13 : decode cL_event 13 = .ok (.astore 4, 2) := by decide +kernel
theorem dL_event_15 : decode cL_event 15 = .ok (.iconst 1, 1) := by decide +kernel
theorem dL_event_16 : decode cL_event 16 = .ok (.ireturn, 1) := by decide +kernel
theorem dL_event_17 : decode cL_event 17 = .ok (.iconst 0, 1) := by decide +kernel
theorem dL_event_18 : decode cL_event 18 = .ok (.ireturn, 1) := by decide +kernel
theorem dL_shown_0 : decode cL_shown 0 = .ok (.aload 4, 2) := by decide +kernel
theorem dL_shown_2 : decode cL_shown 2 = .ok (.iconst 0, 1) := by decide +kernel
theorem dL_shown_3 : decode cL_shown 3 = .ok (.aload_n 0, 1) := by decide +kernel
theorem dL_shown_4 : decode cL_shown 4 = .ok (.iload_n 1, 1) := by decide +kernel
theorem dL_shown_5 : decode cL_shown 5 = .ok (.iload_n 2, 1) := by decide +kernel
theorem dL_shown_6 : decode cL_shown 6 = .ok (.iload_n 3, 1) := by decide +kernel
theorem dL_shown_7 : decode cL_shown 7 = .ok (.invokevirtual 25, 3) := by decide +kernel
theorem dL_shown_10 : decode cL_shown 10 = .ok (.i2l, 1) := by decide +kernel
theorem dL_shown_11 : decode cL_shown 11 = .ok (.lastore, 1) := by decide +kernel
theorem dL_shown_12 : decode cL_shown 12 = .ok (.goto 7, 3) := by decide +kernel
theorem dL_shown_15 : decode cL_shown 15 = .ok (.astore 5, 2) := by decide +kernel
theorem dL_shown_17 : decode cL_shown 17 = .ok (.iconst 1, 1) := by decide +kernel
theorem dL_shown_18 : decode cL_shown 18 = .ok (.ireturn, 1) := by decide +kernel
theorem dL_shown_19 : decode cL_shown 19 = .ok (.iconst 0, 1) := by decide +kernel
theorem dL_shown_20 : decode cL_shown 20 = .ok (.ireturn, 1) := by decide +kernel
theorem dL_diagnostic_0 : decode cL_diagnostic 0 = .ok (.aload_n 3, 1) := by decide +kernel
theorem dL_diagnostic_1 : decode cL_diagnostic 1 = .ok (.iconst 0, 1) := by decide +kernel
theorem dL_diagnostic_2 : decode cL_diagnostic 2 = .ok (.aload_n 0, 1) := by decide +kernel
theorem dL_diagnostic_3 : decode cL_diagnostic 3 = .ok (.iload_n 1, 1) := by decide +kernel
theorem dL_diagnostic_4 : decode cL_diagnostic 4 = .ok (.iload_n 2, 1) := by decide +kernel
theorem dL_diagnostic_5 : decode cL_diagnostic 5 = .ok (.invokevirtual 29, 3) := by decide +kernel
theorem dL_diagnostic_8 : decode cL_diagnostic 8 = .ok (.i2l, 1) := by decide +kernel
theorem dL_diagnostic_9 : decode cL_diagnostic 9 = .ok (.lastore, 1) := by decide +kernel
theorem dL_diagnostic_10 : decode cL_diagnostic 10 = .ok (.goto 7, 3) := by decide +kernel
theorem dL_diagnostic_13 : decode cL_diagnostic 13 = .ok (.astore 4, 2) := by decide +kernel
theorem dL_diagnostic_15 : decode cL_diagnostic 15 = .ok (.iconst 1, 1) := by decide +kernel
theorem dL_diagnostic_16 : decode cL_diagnostic 16 = .ok (.ireturn, 1) := by decide +kernel
theorem dL_diagnostic_17 : decode cL_diagnostic 17 = .ok (.iconst 0, 1) := by decide +kernel
theorem dL_diagnostic_18 : decode cL_diagnostic 18 = .ok (.ireturn, 1) := by decide +kernel
theorem dL_throughput_0 : decode cL_throughput 0 = .ok (.aload_n 1, 1) := by decide +kernel
theorem dL_throughput_1 : decode cL_throughput 1 = .ok (.iconst 0, 1) := by decide +kernel
theorem dL_throughput_2 : decode cL_throughput 2 = .ok (.aload_n 0, 1) := by decide +kernel
theorem dL_throughput_3 : decode cL_throughput 3 = .ok (.invokevirtual 32, 3) := by decide +kernel
theorem dL_throughput_6 : decode cL_throughput 6 = .ok (.dastore, 1) := by decide +kernel
theorem dL_throughput_7 : decode cL_throughput 7 = .ok (.goto 6, 3) := by decide +kernel
theorem dL_throughput_10 : decode cL_throughput 10 = .ok (.astore_n 2, 1) := by decide +kernel
theorem dL_throughput_11 : decode cL_throughput 11 = .ok (.iconst 1, 1) := by decide +kernel
theorem dL_throughput_12 : decode cL_throughput 12 = .ok (.ireturn, 1) := by decide +kernel
theorem dL_throughput_13 : decode cL_throughput 13 = .ok (.iconst 0, 1) := by decide +kernel
theorem dL_throughput_14 : decode cL_throughput 14 = .ok (.ireturn, 1) := by decide +kernel
theorem dL_rate_0 : decode cL_rate 0 = .ok (.aload_n 2, 1) := by decide +kernel
theorem dL_rate_1 : decode cL_rate 1 = .ok (.iconst 0, 1) := by decide +kernel
theorem dL_rate_2 : decode cL_rate 2 = .ok (.aload_n 0, 1) := by decide +kernel
theorem dL_rate_3 : decode cL_rate 3 = .ok (.iload_n 1, 1) := by decide +kernel
theorem dL_rate_4 : decode cL_rate 4 = .ok (.invokevirtual 38, 3) := by decide +kernel
theorem dL_rate_7 : decode cL_rate 7 = .ok (.dastore, 1) := by decide +kernel
theorem dL_rate_8 : decode cL_rate 8 = .ok (.goto 9, 3) := by decide +kernel
theorem dL_rate_11 : decode cL_rate 11 = .ok (.astore_n 3, 1) := by decide +kernel
theorem dL_rate_12 : decode cL_rate 12 = .ok (.iconst 1, 1) := by decide +kernel
theorem dL_rate_13 : decode cL_rate 13 = .ok (.ireturn, 1) := by decide +kernel
theorem dL_rate_14 : decode cL_rate 14 = .ok (.astore_n 3, 1) := by decide +kernel
theorem dL_rate_15 : decode cL_rate 15 = .ok (.iconst 2, 1) := by decide +kernel
theorem dL_rate_16 : decode cL_rate 16 = .ok (.ireturn, 1) := by decide +kernel
theorem dL_rate_17 : decode cL_rate 17 = .ok (.iconst 0, 1) := by decide +kernel
theorem dL_rate_18 : decode cL_rate 18 = .ok (.ireturn, 1) := by decide +kernel
theorem dL_percentile_0 : decode cL_percentile 0 = .ok (.aload_n 2, 1) := by decide +kernel
theorem dL_percentile_1 : decode cL_percentile 1 = .ok (.iconst 0, 1) := by decide +kernel
theorem dL_percentile_2 : decode cL_percentile 2 = .ok (.aload_n 0, 1) := by decide +kernel
theorem dL_percentile_3 : decode cL_percentile 3 = .ok (.iload_n 1, 1) := by decide +kernel
theorem dL_percentile_4 : decode cL_percentile 4 = .ok (.invokevirtual 42, 3) := by decide +kernel
theorem dL_percentile_7 : decode cL_percentile 7 = .ok (.i2l, 1) := by decide +kernel
theorem dL_percentile_8 : decode cL_percentile 8 = .ok (.lastore, 1) := by decide +kernel
theorem dL_percentile_9 : decode cL_percentile 9 = .ok (.goto 9, 3) := by decide +kernel
theorem dL_percentile_12 : decode cL_percentile 12 = .ok (.astore_n 3, 1) := by decide +kernel
theorem dL_percentile_13 : decode cL_percentile 13 = .ok (.iconst 1, 1) := by decide +kernel
theorem dL_percentile_14 : decode cL_percentile 14 = .ok (.ireturn, 1) := by decide +kernel
theorem dL_percentile_15 : decode cL_percentile 15 = .ok (.astore_n 3, 1) := by decide +kernel
theorem dL_percentile_16 : decode cL_percentile 16 = .ok (.iconst 2, 1) := by decide +kernel
theorem dL_percentile_17 : decode cL_percentile 17 = .ok (.ireturn, 1) := by decide +kernel
theorem dL_percentile_18 : decode cL_percentile 18 = .ok (.iconst 0, 1) := by decide +kernel
theorem dL_percentile_19 : decode cL_percentile 19 = .ok (.ireturn, 1) := by decide +kernel
theorem dL_bucket_0 : decode cL_bucket 0 = .ok (.aload_n 2, 1) := by decide +kernel
theorem dL_bucket_1 : decode cL_bucket 1 = .ok (.iconst 0, 1) := by decide +kernel
theorem dL_bucket_2 : decode cL_bucket 2 = .ok (.aload_n 0, 1) := by decide +kernel
theorem dL_bucket_3 : decode cL_bucket 3 = .ok (.iload_n 1, 1) := by decide +kernel
theorem dL_bucket_4 : decode cL_bucket 4 = .ok (.invokevirtual 45, 3) := by decide +kernel
theorem dL_bucket_7 : decode cL_bucket 7 = .ok (.i2l, 1) := by decide +kernel
theorem dL_bucket_8 : decode cL_bucket 8 = .ok (.lastore, 1) := by decide +kernel
theorem dL_bucket_9 : decode cL_bucket 9 = .ok (.goto 6, 3) := by decide +kernel
theorem dL_bucket_12 : decode cL_bucket 12 = .ok (.astore_n 3, 1) := by decide +kernel
theorem dL_bucket_13 : decode cL_bucket 13 = .ok (.iconst 1, 1) := by decide +kernel
theorem dL_bucket_14 : decode cL_bucket 14 = .ok (.ireturn, 1) := by decide +kernel
theorem dL_bucket_15 : decode cL_bucket 15 = .ok (.iconst 0, 1) := by decide +kernel
theorem dL_bucket_16 : decode cL_bucket 16 = .ok (.ireturn, 1) := by decide +kernel
theorem dL_ofCause_0 : decode cL_ofCause 0 = .ok (.aload_n 2, 1) := by decide +kernel
theorem dL_ofCause_1 : decode cL_ofCause 1 = .ok (.iconst 0, 1) := by decide +kernel
theorem dL_ofCause_2 : decode cL_ofCause 2 = .ok (.aload_n 0, 1) := by decide +kernel
theorem dL_ofCause_3 : decode cL_ofCause 3 = .ok (.iload_n 1, 1) := by decide +kernel
theorem dL_ofCause_4 : decode cL_ofCause 4 = .ok (.invokevirtual 48, 3) := by decide +kernel
theorem dL_ofCause_7 : decode cL_ofCause 7 = .ok (.lastore, 1) := by decide +kernel
theorem dL_ofCause_8 : decode cL_ofCause 8 = .ok (.goto 6, 3) := by decide +kernel
theorem dL_ofCause_11 : decode cL_ofCause 11 = .ok (.astore_n 3, 1) := by decide +kernel
theorem dL_ofCause_12 : decode cL_ofCause 12 = .ok (.iconst 1, 1) := by decide +kernel
theorem dL_ofCause_13 : decode cL_ofCause 13 = .ok (.ireturn, 1) := by decide +kernel
theorem dL_ofCause_14 : decode cL_ofCause 14 = .ok (.iconst 0, 1) := by decide +kernel
theorem dL_ofCause_15 : decode cL_ofCause 15 = .ok (.ireturn, 1) := by decide +kernel
theorem dL_count_0 : decode cL_count 0 = .ok (.aload_n 2, 1) := by decide +kernel
theorem dL_count_1 : decode cL_count 1 = .ok (.iconst 0, 1) := by decide +kernel
theorem dL_count_2 : decode cL_count 2 = .ok (.aload_n 0, 1) := by decide +kernel
theorem dL_count_3 : decode cL_count 3 = .ok (.iload_n 1, 1) := by decide +kernel
theorem dL_count_4 : decode cL_count 4 = .ok (.invokevirtual 52, 3) := by decide +kernel
theorem dL_count_7 : decode cL_count 7 = .ok (.i2l, 1) := by decide +kernel
theorem dL_count_8 : decode cL_count 8 = .ok (.lastore, 1) := by decide +kernel
theorem dL_count_9 : decode cL_count 9 = .ok (.goto 6, 3) := by decide +kernel
theorem dL_count_12 : decode cL_count 12 = .ok (.astore_n 3, 1) := by decide +kernel
theorem dL_count_13 : decode cL_count 13 = .ok (.iconst 1, 1) := by decide +kernel
theorem dL_count_14 : decode cL_count 14 = .ok (.ireturn, 1) := by decide +kernel
theorem dL_count_15 : decode cL_count 15 = .ok (.iconst 0, 1) := by decide +kernel
theorem dL_count_16 : decode cL_count 16 = .ok (.ireturn, 1) := by decide +kernel
theorem dL_law_0 : decode cL_law 0 = .ok (.new 8, 3) := by decide +kernel
theorem dL_law_3 : decode cL_law 3 = .ok (.dup, 1) := by decide +kernel
theorem dL_law_4 : decode cL_law 4 = .ok (.invokespecial 55, 3) := by decide +kernel
theorem dL_law_7 : decode cL_law 7 = .ok (.astore_n 1, 1) := by decide +kernel
theorem dL_law_8 : decode cL_law 8 = .ok (.new 56, 3) := by decide +kernel
theorem dL_law_11 : decode cL_law 11 = .ok (.dup, 1) := by decide +kernel
theorem dL_law_12 : decode cL_law 12 = .ok (.invokespecial 58, 3) := by decide +kernel
theorem dL_law_15 : decode cL_law 15 = .ok (.astore_n 2, 1) := by decide +kernel
theorem dL_law_16 : decode cL_law 16 = .ok (.iconst 1, 1) := by decide +kernel
theorem dL_law_17 : decode cL_law 17 = .ok (.newarray .long, 2) := by decide +kernel
theorem dL_law_19 : decode cL_law 19 = .ok (.astore_n 3, 1) := by decide +kernel
theorem dL_law_20 : decode cL_law 20 = .ok (.iconst 1, 1) := by decide +kernel
theorem dL_law_21 : decode cL_law 21 = .ok (.newarray .double, 2) := by decide +kernel
theorem dL_law_23 : decode cL_law 23 = .ok (.astore 4, 2) := by decide +kernel
theorem dL_law_25 : decode cL_law 25 = .ok (.iconst 0, 1) := by decide +kernel
theorem dL_law_26 : decode cL_law 26 = .ok (.istore 5, 2) := by decide +kernel
theorem dL_law_28 : decode cL_law 28 = .ok (.iload 5, 2) := by decide +kernel
theorem dL_law_30 : decode cL_law 30 = .ok (.aload_n 0, 1) := by decide +kernel
theorem dL_law_31 : decode cL_law 31 = .ok (.arraylength, 1) := by decide +kernel
theorem dL_law_32 : decode cL_law 32 = .ok (.bipush 8, 2) := by decide +kernel
theorem dL_law_34 : decode cL_law 34 = .ok (.isub, 1) := by decide +kernel
theorem dL_law_35 : decode cL_law 35 = .ok (.if_icmp .gt 909, 3) := by decide +kernel
theorem dL_law_38 : decode cL_law 38 = .ok (.aload_n 0, 1) := by decide +kernel
theorem dL_law_39 : decode cL_law 39 = .ok (.iload 5, 2) := by decide +kernel
theorem dL_law_41 : decode cL_law 41 = .ok (.iaload, 1) := by decide +kernel
theorem dL_law_42 : decode cL_law 42 = .ok (.bipush 15, 2) := by decide +kernel
theorem dL_law_44 : decode cL_law 44 = .ok (.iand, 1) := by decide +kernel
theorem dL_law_45 : decode cL_law 45 = .ok (.tableswitch 893 0 13 #[71, 98, 154, 286, 299, 312, 380, 460, 528, 593, 670, 726, 782, 837], 71) := by decide +kernel
theorem dL_law_116 : decode cL_law 116 = .ok (.aload_n 1, 1) := by decide +kernel
theorem dL_law_117 : decode cL_law 117 = .ok (.aload_n 0, 1) := by decide +kernel
theorem dL_law_118 : decode cL_law 118 = .ok (.iload 5, 2) := by decide +kernel
theorem dL_law_120 : decode cL_law 120 = .ok (.iconst 1, 1) := by decide +kernel
theorem dL_law_121 : decode cL_law 121 = .ok (.iadd, 1) := by decide +kernel
theorem dL_law_122 : decode cL_law 122 = .ok (.iaload, 1) := by decide +kernel
theorem dL_law_123 : decode cL_law 123 = .ok (.i2c, 1) := by decide +kernel
theorem dL_law_124 : decode cL_law 124 = .ok (.invokevirtual 59, 3) := by decide +kernel
theorem dL_law_127 : decode cL_law 127 = .ok (.aload_n 2, 1) := by decide +kernel
theorem dL_law_128 : decode cL_law 128 = .ok (.aload_n 0, 1) := by decide +kernel
theorem dL_law_129 : decode cL_law 129 = .ok (.iload 5, 2) := by decide +kernel
theorem dL_law_131 : decode cL_law 131 = .ok (.iconst 1, 1) := by decide +kernel
theorem dL_law_132 : decode cL_law 132 = .ok (.iadd, 1) := by decide +kernel
theorem dL_law_133 : decode cL_law 133 = .ok (.iaload, 1) := by decide +kernel
theorem dL_law_134 : decode cL_law 134 = .ok (.i2c, 1) := by decide +kernel
theorem dL_law_135 : decode cL_law 135 = .ok (.invokevirtual 63, 3) := by decide +kernel
theorem dL_law_138 : decode cL_law 138 = .ok (.if_icmp .eq 800, 3) := by decide +kernel
theorem dL_law_141 : decode cL_law 141 = .ok (.iconst 0, 1) := by decide +kernel
theorem dL_law_142 : decode cL_law 142 = .ok (.ireturn, 1) := by decide +kernel
theorem dL_law_143 : decode cL_law 143 = .ok (.aload_n 1, 1) := by decide +kernel
theorem dL_law_144 : decode cL_law 144 = .ok (.aload_n 0, 1) := by decide +kernel
theorem dL_law_145 : decode cL_law 145 = .ok (.iload 5, 2) := by decide +kernel
theorem dL_law_147 : decode cL_law 147 = .ok (.iconst 1, 1) := by decide +kernel
theorem dL_law_148 : decode cL_law 148 = .ok (.iadd, 1) := by decide +kernel
theorem dL_law_149 : decode cL_law 149 = .ok (.iaload, 1) := by decide +kernel
theorem dL_law_150 : decode cL_law 150 = .ok (.aload_n 3, 1) := by decide +kernel
theorem dL_law_151 : decode cL_law 151 = .ok (.invokestatic 64, 3) := by decide +kernel
theorem dL_law_154 : decode cL_law 154 = .ok (.istore 6, 2) := by decide +kernel
theorem dL_law_156 : decode cL_law 156 = .ok (.aload_n 2, 1) := by decide +kernel
theorem dL_law_157 : decode cL_law 157 = .ok (.aload_n 0, 1) := by decide +kernel
theorem dL_law_158 : decode cL_law 158 = .ok (.iload 5, 2) := by decide +kernel
theorem dL_law_160 : decode cL_law 160 = .ok (.iconst 1, 1) := by decide +kernel
theorem dL_law_161 : decode cL_law 161 = .ok (.iadd, 1) := by decide +kernel
theorem dL_law_162 : decode cL_law 162 = .ok (.iaload, 1) := by decide +kernel
theorem dL_law_163 : decode cL_law 163 = .ok (.invokevirtual 69, 3) := by decide +kernel
theorem dL_law_166 : decode cL_law 166 = .ok (.istore 7, 2) := by decide +kernel
theorem dL_law_168 : decode cL_law 168 = .ok (.aload_n 2, 1) := by decide +kernel
theorem dL_law_169 : decode cL_law 169 = .ok (.invokevirtual 70, 3) := by decide +kernel
theorem dL_law_172 : decode cL_law 172 = .ok (.iload 6, 2) := by decide +kernel
theorem dL_law_174 : decode cL_law 174 = .ok (.if_icmp .eq 5, 3) := by decide +kernel
theorem dL_law_177 : decode cL_law 177 = .ok (.iconst 0, 1) := by decide +kernel
theorem dL_law_178 : decode cL_law 178 = .ok (.ireturn, 1) := by decide +kernel
theorem dL_law_179 : decode cL_law 179 = .ok (.iload 6, 2) := by decide +kernel
theorem dL_law_181 : decode cL_law 181 = .ok (.ifCond .ne 15, 3) := by decide +kernel
theorem dL_law_184 : decode cL_law 184 = .ok (.aload_n 3, 1) := by decide +kernel
theorem dL_law_185 : decode cL_law 185 = .ok (.iconst 0, 1) := by decide +kernel
theorem dL_law_186 : decode cL_law 186 = .ok (.laload, 1) := by decide +kernel
theorem dL_law_187 : decode cL_law 187 = .ok (.iload 7, 2) := by decide +kernel
theorem dL_law_189 : decode cL_law 189 = .ok (.i2l, 1) := by decide +kernel
theorem dL_law_190 : decode cL_law 190 = .ok (.lcmp, 1) := by decide +kernel
theorem dL_law_191 : decode cL_law 191 = .ok (.ifCond .eq 5, 3) := by decide +kernel
theorem dL_law_194 : decode cL_law 194 = .ok (.iconst 0, 1) := by decide +kernel
theorem dL_law_195 : decode cL_law 195 = .ok (.ireturn, 1) := by decide +kernel
theorem dL_law_196 : decode cL_law 196 = .ok (.goto 742, 3) := by decide +kernel
theorem dL_law_199 : decode cL_law 199 = .ok (.aload_n 1, 1) := by decide +kernel
theorem dL_law_200 : decode cL_law 200 = .ok (.aload_n 0, 1) := by decide +kernel
theorem dL_law_201 : decode cL_law 201 = .ok (.iload 5, 2) := by decide +kernel
