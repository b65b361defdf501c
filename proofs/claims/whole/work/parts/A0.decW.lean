/-! the law's wrappers, decoded -/
theorem dL_yard_0 : decode cL_yard 0 = .ok (.aload_n 2, 1) := by decide +kernel
theorem dL_yard_1 : decode cL_yard 1 = .ok (.iconst 0, 1) := by decide +kernel
theorem dL_yard_2 : decode cL_yard 2 = .ok (.aload_n 0, 1) := by decide +kernel
theorem dL_yard_3 : decode cL_yard 3 = .ok (.iload_n 1, 1) := by decide +kernel
theorem dL_yard_4 : decode cL_yard 4 = .ok (.invokevirtual 7, 3) := by decide +kernel
theorem dL_yard_7 : decode cL_yard 7 = .ok (.i2l, 1) := by decide +kernel
theorem dL_yard_8 : decode cL_yard 8 = .ok (.lastore, 1) := by decide +kernel
theorem dL_yard_9 : decode cL_yard 9 = .ok (.goto 6, 3) := by decide +kernel
theorem dL_yard_12 : decode cL_yard 12 = .ok (.astore_n 3, 1) := by decide +kernel
theorem dL_yard_13 : decode cL_yard 13 = .ok (.iconst 1, 1) := by decide +kernel
theorem dL_yard_14 : decode cL_yard 14 = .ok (.ireturn, 1) := by decide +kernel
theorem dL_yard_15 : decode cL_yard 15 = .ok (.iconst 0, 1) := by decide +kernel
theorem dL_yard_16 : decode cL_yard 16 = .ok (.ireturn, 1) := by decide +kernel
theorem dL_count_0 : decode cL_count 0 = .ok (.aload_n 2, 1) := by decide +kernel
theorem dL_count_1 : decode cL_count 1 = .ok (.iconst 0, 1) := by decide +kernel
theorem dL_count_2 : decode cL_count 2 = .ok (.aload_n 0, 1) := by decide +kernel
theorem dL_count_3 : decode cL_count 3 = .ok (.iload_n 1, 1) := by decide +kernel
theorem dL_count_4 : decode cL_count 4 = .ok (.invokevirtual 15, 3) := by decide +kernel
theorem dL_count_7 : decode cL_count 7 = .ok (.i2l, 1) := by decide +kernel
theorem dL_count_8 : decode cL_count 8 = .ok (.lastore, 1) := by decide +kernel
theorem dL_count_9 : decode cL_count 9 = .ok (.goto 6, 3) := by decide +kernel
theorem dL_count_12 : decode cL_count 12 = .ok (.astore_n 3, 1) := by decide +kernel
theorem dL_count_13 : decode cL_count 13 = .ok (.iconst 1, 1) := by decide +kernel
theorem dL_count_14 : decode cL_count 14 = .ok (.ireturn, 1) := by decide +kernel
theorem dL_count_15 : decode cL_count 15 = .ok (.iconst 0, 1) := by decide +kernel
theorem dL_count_16 : decode cL_count 16 = .ok (.ireturn, 1) := by decide +kernel
theorem dL_letter_0 : decode cL_letter 0 = .ok (.aload_n 3, 1) := by decide +kernel
theorem dL_letter_1 : decode cL_letter 1 = .ok (.iconst 0, 1) := by decide +kernel
theorem dL_letter_2 : decode cL_letter 2 = .ok (.aload_n 0, 1) := by decide +kernel
theorem dL_letter_3 : decode cL_letter 3 = .ok (.iload_n 1, 1) := by decide +kernel
theorem dL_letter_4 : decode cL_letter 4 = .ok (.iload_n 2, 1) := by decide +kernel
theorem dL_letter_5 : decode cL_letter 5 = .ok (.invokevirtual 20, 3) := by decide +kernel
theorem dL_letter_8 : decode cL_letter 8 = .ok (.i2l, 1) := by decide +kernel
theorem dL_letter_9 : decode cL_letter 9 = .ok (.lastore, 1) := by decide +kernel
theorem dL_letter_10 : decode cL_letter 10 = .ok (.goto 7, 3) := by decide +kernel
theorem dL_letter_13 : decode cL_letter 13 = .ok (.astore 4, 2) := by decide +kernel
theorem dL_letter_15 : decode cL_letter 15 = .ok (.iconst 1, 1) := by decide +kernel
theorem dL_letter_16 : decode cL_letter 16 = .ok (.ireturn, 1) := by decide +kernel
theorem dL_letter_17 : decode cL_letter 17 = .ok (.iconst 0, 1) := by decide +kernel
theorem dL_letter_18 : decode cL_letter 18 = .ok (.ireturn, 1) := by decide +kernel
theorem dL_road_0 : decode cL_road 0 = .ok (.aload_n 3, 1) := by decide +kernel
theorem dL_road_1 : decode cL_road 1 = .ok (.iconst 0, 1) := by decide +kernel
theorem dL_road_2 : decode cL_road 2 = .ok (.aload_n 0, 1) := by decide +kernel
theorem dL_road_3 : decode cL_road 3 = .ok (.iload_n 1, 1) := by decide +kernel
theorem dL_road_4 : decode cL_road 4 = .ok (.iload_n 2, 1) := by decide +kernel
theorem dL_road_5 : decode cL_road 5 = .ok (.invokevirtual 24, 3) := by decide +kernel
theorem dL_road_8 : decode cL_road 8 = .ok (.i2l, 1) := by decide +kernel
theorem dL_road_9 : decode cL_road 9 = .ok (.lastore, 1) := by decide +kernel
theorem dL_road_10 : decode cL_road 10 = .ok (.goto 7, 3) := by decide +kernel
theorem dL_road_13 : decode cL_road 13 = .ok (.astore 4, 2) := by decide +kernel
theorem dL_road_15 : decode cL_road 15 = .ok (.iconst 1, 1) := by decide +kernel
theorem dL_road_16 : decode cL_road 16 = .ok (.ireturn, 1) := by decide +kernel
theorem dL_road_17 : decode cL_road 17 = .ok (.iconst 0, 1) := by decide +kernel
theorem dL_road_18 : decode cL_road 18 = .ok (.ireturn, 1) := by decide +kernel
theorem dL_begins_0 : decode cL_begins 0 = .ok (.aload_n 3, 1) := by decide +kernel
theorem dL_begins_1 : decode cL_begins 1 = .ok (.iconst 0, 1) := by decide +kernel
theorem dL_begins_2 : decode cL_begins 2 = .ok (.aload_n 0, 1) := by decide +kernel
theorem dL_begins_3 : decode cL_begins 3 = .ok (.iload_n 1, 1) := by decide +kernel
theorem dL_begins_4 : decode cL_begins 4 = .ok (.iload_n 2, 1) := by decide +kernel
theorem dL_begins_5 : decode cL_begins 5 = .ok (.invokevirtual 27, 3) := by decide +kernel
theorem dL_begins_8 : decode cL_begins 8 = .ok (.i2l, 1) := by decide +kernel
theorem dL_begins_9 : decode cL_begins 9 = .ok (.lastore, 1) := by decide +kernel
theorem dL_begins_10 : decode cL_begins 10 = .ok (.goto 11, 3) := by decide +kernel
theorem dL_begins_13 : decode cL_begins 13 = .ok (.astore 4, 2) := by decide +kernel
theorem dL_begins_15 : decode cL_begins 15 = .ok (.iconst 1, 1) := by decide +kernel
theorem dL_begins_16 : decode cL_begins 16 = .ok (.ireturn, 1) := by decide +kernel
theorem dL_begins_17 : decode cL_begins 17 = .ok (.astore 4, 2) := by decide +kernel
theorem dL_begins_19 : decode cL_begins 19 = .ok (.iconst 2, 1) := by decide +kernel
theorem dL_begins_20 : decode cL_begins 20 = .ok (.ireturn, 1) := by decide +kernel
theorem dL_begins_21 : decode cL_begins 21 = .ok (.iconst 0, 1) := by decide +kernel
theorem dL_begins_22 : decode cL_begins 22 = .ok (.ireturn, 1) := by decide +kernel
theorem dL_planned_0 : decode cL_planned 0 = .ok (.aload_n 3, 1) := by decide +kernel
theorem dL_planned_1 : decode cL_planned 1 = .ok (.iconst 0, 1) := by decide +kernel
theorem dL_planned_2 : decode cL_planned 2 = .ok (.aload_n 0, 1) := by decide +kernel
theorem dL_planned_3 : decode cL_planned 3 = .ok (.iload_n 1, 1) := by decide +kernel
theorem dL_planned_4 : decode cL_planned 4 = .ok (.iload_n 2, 1) := by decide +kernel
theorem dL_planned_5 : decode cL_planned 5 = .ok (.invokevirtual 30, 3) := by decide +kernel
theorem dL_planned_8 : decode cL_planned 8 = .ok (.i2l, 1) := by decide +kernel
theorem dL_planned_9 : decode cL_planned 9 = .ok (.lastore, 1) := by decide +kernel
theorem dL_planned_10 : decode cL_planned 10 = .ok (.goto 7, 3) := by decide +kernel
theorem dL_planned_13 : decode cL_planned 13 = .ok (.astore 4, 2) := by decide +kernel
theorem dL_planned_15 : decode cL_planned 15 = .ok (.iconst 1, 1) := by decide +kernel
theorem dL_planned_16 : decode cL_planned 16 = .ok (.ireturn, 1) := by decide +kernel
theorem dL_planned_17 : decode cL_planned 17 = .ok (.iconst 0, 1) := by decide +kernel
theorem dL_planned_18 : decode cL_planned 18 = .ok (.ireturn, 1) := by decide +kernel
theorem dL_plumb_0 : decode cL_plumb 0 = .ok (.aload 4, 2) := by decide +kernel
theorem dL_plumb_2 : decode cL_plumb 2 = .ok (.iconst 0, 1) := by decide +kernel
theorem dL_plumb_3 : decode cL_plumb 3 = .ok (.aload_n 0, 1) := by decide +kernel
theorem dL_plumb_4 : decode cL_plumb 4 = .ok (.iload_n 1, 1) := by decide +kernel
theorem dL_plumb_5 : decode cL_plumb 5 = .ok (.iload_n 2, 1) := by decide +kernel
theorem dL_plumb_6 : decode cL_plumb 6 = .ok (.iload_n 3, 1) := by decide +kernel
theorem dL_plumb_7 : decode cL_plumb 7 = .ok (.invokevirtual 33, 3) := by decide +kernel
theorem dL_plumb_10 : decode cL_plumb 10 = .ok (.ifCond .eq 7, 3) := by decide +kernel
theorem dL_plumb_13 : decode cL_plumb 13 = .ok (.lconst 1, 1) := by decide +kernel
theorem dL_plumb_14 : decode cL_plumb 14 = .ok (.goto 4, 3) := by decide +kernel
theorem dL_plumb_17 : decode cL_plumb 17 = .ok (.lconst 0, 1) := by decide +kernel
theorem dL_plumb_18 : decode cL_plumb 18 = .ok (.lastore, 1) := by decide +kernel
theorem dL_plumb_19 : decode cL_plumb 19 = .ok (.goto 7, 3) := by decide +kernel
theorem dL_plumb_22 : decode cL_plumb 22 = .ok (.astore 5, 2) := by decide +kernel
theorem dL_plumb_24 : decode cL_plumb 24 = .ok (.iconst 1, 1) := by decide +kernel
theorem dL_plumb_25 : decode cL_plumb 25 = .ok (.ireturn, 1) := by decide +kernel
theorem dL_plumb_26 : decode cL_plumb 26 = .ok (.iconst 0, 1) := by decide +kernel
theorem dL_plumb_27 : decode cL_plumb 27 = .ok (.ireturn, 1) := by decide +kernel
theorem dL_doubt_0 : decode cL_doubt 0 = .ok (.aload_n 3, 1) := by decide +kernel
theorem dL_doubt_1 : decode cL_doubt 1 = .ok (.iconst 0, 1) := by decide +kernel
theorem dL_doubt_2 : decode cL_doubt 2 = .ok (.aload_n 0, 1) := by decide +kernel
theorem dL_doubt_3 : decode cL_doubt 3 = .ok (.iload_n 1, 1) := by decide +kernel
theorem dL_doubt_4 : decode cL_doubt 4 = .ok (.iload_n 2, 1) := by decide +kernel
theorem dL_doubt_5 : decode cL_doubt 5 = .ok (.invokevirtual 37, 3) := by decide +kernel
theorem dL_doubt_8 : decode cL_doubt 8 = .ok (.ifCond .eq 7, 3) := by decide +kernel
theorem dL_doubt_11 : decode cL_doubt 11 = .ok (.lconst 1, 1) := by decide +kernel
theorem dL_doubt_12 : decode cL_doubt 12 = .ok (.goto 4, 3) := by decide +kernel
theorem dL_doubt_15 : decode cL_doubt 15 = .ok (.lconst 0, 1) := by decide +kernel
theorem dL_doubt_16 : decode cL_doubt 16 = .ok (.lastore, 1) := by decide +kernel
theorem dL_doubt_17 : decode cL_doubt 17 = .ok (.goto 7, 3) := by decide +kernel
theorem dL_doubt_20 : decode cL_doubt 20 = .ok (.astore 4, 2) := by decide +kernel
theorem dL_doubt_22 : decode cL_doubt 22 = .ok (.iconst 1, 1) := by decide +kernel
theorem dL_doubt_23 : decode cL_doubt 23 = .ok (.ireturn, 1) := by decide +kernel
theorem dL_doubt_24 : decode cL_doubt 24 = .ok (.iconst 0, 1) := by decide +kernel
theorem dL_doubt_25 : decode cL_doubt 25 = .ok (.ireturn, 1) := by decide +kernel
theorem dL_lean_0 : decode cL_lean 0 = .ok (.aload 4, 2) := by decide +kernel
theorem dL_lean_2 : decode cL_lean 2 = .ok (.iconst 0, 1) := by decide +kernel
theorem dL_lean_3 : decode cL_lean 3 = .ok (.aload_n 0, 1) := by decide +kernel
theorem dL_lean_4 : decode cL_lean 4 = .ok (.iload_n 1, 1) := by decide +kernel
theorem dL_lean_5 : decode cL_lean 5 = .ok (.iload_n 2, 1) := by decide +kernel
theorem dL_lean_6 : decode cL_lean 6 = .ok (.iload_n 3, 1) := by decide +kernel
theorem dL_lean_7 : decode cL_lean 7 = .ok (.invokevirtual 41, 3) := by decide +kernel
theorem dL_lean_10 : decode cL_lean 10 = .ok (.i2l, 1) := by decide +kernel
theorem dL_lean_11 : decode cL_lean 11 = .ok (.lastore, 1) := by decide +kernel
theorem dL_lean_12 : decode cL_lean 12 = .ok (.goto 11, 3) := by decide +kernel
theorem dL_lean_15 : decode cL_lean 15 = .ok (.astore 5, 2) := by decide +kernel
theorem dL_lean_17 : decode cL_lean 17 = .ok (.iconst 1, 1) := by decide +kernel
theorem dL_lean_18 : decode cL_lean 18 = .ok (.ireturn, 1) := by decide +kernel
theorem dL_lean_19 : decode cL_lean 19 = .ok (.astore 5, 2) := by decide +kernel
theorem dL_lean_21 : decode cL_lean 21 = .ok (.iconst 2, 1) := by decide +kernel
theorem dL_lean_22 : decode cL_lean 22 = .ok (.ireturn, 1) := by decide +kernel
theorem dL_lean_23 : decode cL_lean 23 = .ok (.iconst 0, 1) := by decide +kernel
theorem dL_lean_24 : decode cL_lean 24 = .ok (.ireturn, 1) := by decide +kernel
theorem dL_limit_0 : decode cL_limit 0 = .ok (.aload 4, 2) := by decide +kernel
theorem dL_limit_2 : decode cL_limit 2 = .ok (.iconst 0, 1) := by decide +kernel
theorem dL_limit_3 : decode cL_limit 3 = .ok (.aload_n 0, 1) := by decide +kernel
theorem dL_limit_4 : decode cL_limit 4 = .ok (.iload_n 1, 1) := by decide +kernel
theorem dL_limit_5 : decode cL_limit 5 = .ok (.iload_n 2, 1) := by decide +kernel
theorem dL_limit_6 : decode cL_limit 6 = .ok (.iload_n 3, 1) := by decide +kernel
theorem dL_limit_7 : decode cL_limit 7 = .ok (.invokevirtual 45, 3) := by decide +kernel
theorem dL_limit_10 : decode cL_limit 10 = .ok (.i2l, 1) := by decide +kernel
theorem dL_limit_11 : decode cL_limit 11 = .ok (.lastore, 1) := by decide +kernel
theorem dL_limit_12 : decode cL_limit 12 = .ok (.goto 7, 3) := by decide +kernel
theorem dL_limit_15 : decode cL_limit 15 = .ok (.astore 5, 2) := by decide +kernel
theorem dL_limit_17 : decode cL_limit 17 = .ok (.iconst 1, 1) := by decide +kernel
theorem dL_limit_18 : decode cL_limit 18 = .ok (.ireturn, 1) := by decide +kernel
theorem dL_limit_19 : decode cL_limit 19 = .ok (.iconst 0, 1) := by decide +kernel
theorem dL_limit_20 : decode cL_limit 20 = .ok (.ireturn, 1) := by decide +kernel
theorem dL_tell_0 : decode cL_tell 0 = .ok (.aload 4, 2) := by decide +kernel
theorem dL_tell_2 : decode cL_tell 2 = .ok (.iconst 0, 1) := by decide +kernel
theorem dL_tell_3 : decode cL_tell 3 = .ok (.aload_n 0, 1) := by decide +kernel
theorem dL_tell_4 : decode cL_tell 4 = .ok (.iload_n 1, 1) := by decide +kernel
theorem dL_tell_5 : decode cL_tell 5 = .ok (.iload_n 2, 1) := by decide +kernel
theorem dL_tell_6 : decode cL_tell 6 = .ok (.iload_n 3, 1) := by decide +kernel
theorem dL_tell_7 : decode cL_tell 7 = .ok (.invokevirtual 48, 3) := by decide +kernel
theorem dL_tell_10 : decode cL_tell 10 = .ok (.i2l, 1) := by decide +kernel
theorem dL_tell_11 : decode cL_tell 11 = .ok (.lastore, 1) := by decide +kernel
theorem dL_tell_12 : decode cL_tell 12 = .ok (.goto 7, 3) := by decide +kernel
theorem dL_tell_15 : decode cL_tell 15 = .ok (.astore 5, 2) := by decide +kernel
theorem dL_tell_17 : decode cL_tell 17 = .ok (.iconst 1, 1) := by decide +kernel
theorem dL_tell_18 : decode cL_tell 18 = .ok (.ireturn, 1) := by decide +kernel
theorem dL_tell_19 : decode cL_tell 19 = .ok (.iconst 0, 1) := by decide +kernel
theorem dL_tell_20 : decode cL_tell 20 = .ok (.ireturn, 1) := by decide +kernel
theorem dL_sure_0 : decode cL_sure 0 = .ok (.aload_n 2, 1) := by decide +kernel
theorem dL_sure_1 : decode cL_sure 1 = .ok (.iconst 0, 1) := by decide +kernel
theorem dL_sure_2 : decode cL_sure 2 = .ok (.aload_n 0, 1) := by decide +kernel
theorem dL_sure_3 : decode cL_sure 3 = .ok (.iload_n 1, 1) := by decide +kernel
theorem dL_sure_4 : decode cL_sure 4 = .ok (.invokevirtual 51, 3) := by decide +kernel
theorem dL_sure_7 : decode cL_sure 7 = .ok (.i2l, 1) := by decide +kernel
theorem dL_sure_8 : decode cL_sure 8 = .ok (.lastore, 1) := by decide +kernel
theorem dL_sure_9 : decode cL_sure 9 = .ok (.goto 9, 3) := by decide +kernel
theorem dL_sure_12 : decode cL_sure 12 = .ok (.astore_n 3, 1) := by decide +kernel
theorem dL_sure_13 : decode cL_sure 13 = .ok (.iconst 1, 1) := by decide +kernel
theorem dL_sure_14 : decode cL_sure 14 = .ok (.ireturn, 1) := by decide +kernel
theorem dL_sure_15 : decode cL_sure 15 = .ok (.astore_n 3, 1) := by decide +kernel
theorem dL_sure_16 : decode cL_sure 16 = .ok (.iconst 2, 1) := by decide +kernel
theorem dL_sure_17 : decode cL_sure 17 = .ok (.ireturn, 1) := by decide +kernel
theorem dL_sure_18 : decode cL_sure 18 = .ok (.iconst 0, 1) := by decide +kernel
theorem dL_sure_19 : decode cL_sure 19 = .ok (.ireturn, 1) := by decide +kernel
theorem dL_next_0 : decode cL_next 0 = .ok (.aload_n 2, 1) := by decide +kernel
theorem dL_next_1 : decode cL_next 1 = .ok (.iconst 0, 1) := by decide +kernel
theorem dL_next_2 : decode cL_next 2 = .ok (.aload_n 0, 1) := by decide +kernel
theorem dL_next_3 : decode cL_next 3 = .ok (.iload_n 1, 1) := by decide +kernel
theorem dL_next_4 : decode cL_next 4 = .ok (.invokevirtual 54, 3) := by decide +kernel
theorem dL_next_7 : decode cL_next 7 = .ok (.i2l, 1) := by decide +kernel
theorem dL_next_8 : decode cL_next 8 = .ok (.lastore, 1) := by decide +kernel
theorem dL_next_9 : decode cL_next 9 = .ok (.goto 9, 3) := by decide +kernel
theorem dL_next_12 : decode cL_next 12 = .ok (.astore_n 3, 1) := by decide +kernel
theorem dL_next_13 : decode cL_next 13 = .ok (.iconst 1, 1) := by decide +kernel
theorem dL_next_14 : decode cL_next 14 = .ok (.ireturn, 1) := by decide +kernel
theorem dL_next_15 : decode cL_next 15 = .ok (.astore_n 3, 1) := by decide +kernel
theorem dL_next_16 : decode cL_next 16 = .ok (.iconst 2, 1) := by decide +kernel
theorem dL_next_17 : decode cL_next 17 = .ok (.ireturn, 1) := by decide +kernel
theorem dL_next_18 : decode cL_next 18 = .ok (.iconst 0, 1) := by decide +kernel
theorem dL_next_19 : decode cL_next 19 = .ok (.ireturn, 1) := by decide +kernel
theorem dL_stands_0 : decode cL_stands 0 = .ok (.aload 4, 2) := by decide +kernel
theorem dL_stands_2 : decode cL_stands 2 = .ok (.iconst 0, 1) := by decide +kernel
theorem dL_stands_3 : decode cL_stands 3 = .ok (.aload_n 0, 1) := by decide +kernel
theorem dL_stands_4 : decode cL_stands 4 = .ok (.iload_n 1, 1) := by decide +kernel
theorem dL_stands_5 : decode cL_stands 5 = .ok (.iload_n 2, 1) := by decide +kernel
theorem dL_stands_6 : decode cL_stands 6 = .ok (.iload_n 3, 1) := by decide +kernel
theorem dL_stands_7 : decode cL_stands 7 = .ok (.invokevirtual 57, 3) := by decide +kernel
theorem dL_stands_10 : decode cL_stands 10 = .ok (.ifCond .eq 7, 3) := by decide +kernel
theorem dL_stands_13 : decode cL_stands 13 = .ok (.lconst 1, 1) := by decide +kernel
theorem dL_stands_14 : decode cL_stands 14 = .ok (.goto 4, 3) := by decide +kernel
theorem dL_stands_17 : decode cL_stands 17 = .ok (.lconst 0, 1) := by decide +kernel
theorem dL_stands_18 : decode cL_stands 18 = .ok (.lastore, 1) := by decide +kernel
theorem dL_stands_19 : decode cL_stands 19 = .ok (.goto 7, 3) := by decide +kernel
theorem dL_stands_22 : decode cL_stands 22 = .ok (.astore 5, 2) := by decide +kernel
theorem dL_stands_24 : decode cL_stands 24 = .ok (.iconst 1, 1) := by decide +kernel
theorem dL_stands_25 : decode cL_stands 25 = .ok (.ireturn, 1) := by decide +kernel
theorem dL_stands_26 : decode cL_stands 26 = .ok (.iconst 0, 1) := by decide +kernel
theorem dL_stands_27 : decode cL_stands 27 = .ok (.ireturn, 1) := by decide +kernel
theorem dL_cut_0 : decode cL_cut 0 = .ok (.aload 5, 2) := by decide +kernel
theorem dL_cut_2 : decode cL_cut 2 = .ok (.iconst 0, 1) := by decide +kernel
theorem dL_cut_3 : decode cL_cut 3 = .ok (.aload_n 0, 1) := by decide +kernel
theorem dL_cut_4 : decode cL_cut 4 = .ok (.iload_n 1, 1) := by decide +kernel
theorem dL_cut_5 : decode cL_cut 5 = .ok (.iload_n 2, 1) := by decide +kernel
theorem dL_cut_6 : decode cL_cut 6 = .ok (.iload_n 3, 1) := by decide +kernel
theorem dL_cut_7 : decode cL_cut 7 = .ok (.iload 4, 2) := by decide +kernel
theorem dL_cut_9 : decode cL_cut 9 = .ok (.invokevirtual 60, 3) := by decide +kernel
theorem dL_cut_12 : decode cL_cut 12 = .ok (.i2l, 1) := by decide +kernel
theorem dL_cut_13 : decode cL_cut 13 = .ok (.lastore, 1) := by decide +kernel
theorem dL_cut_14 : decode cL_cut 14 = .ok (.goto 7, 3) := by decide +kernel
theorem dL_cut_17 : decode cL_cut 17 = .ok (.astore 6, 2) := by decide +kernel
theorem dL_cut_19 : decode cL_cut 19 = .ok (.iconst 1, 1) := by decide +kernel
theorem dL_cut_20 : decode cL_cut 20 = .ok (.ireturn, 1) := by decide +kernel
theorem dL_cut_21 : decode cL_cut 21 = .ok (.iconst 0, 1) := by decide +kernel
theorem dL_cut_22 : decode cL_cut 22 = .ok (.ireturn, 1) := by decide +kernel
theorem dL_fell_0 : decode cL_fell 0 = .ok (.aload 5, 2) := by decide +kernel
theorem dL_fell_2 : decode cL_fell 2 = .ok (.iconst 0, 1) := by decide +kernel
theorem dL_fell_3 : decode cL_fell 3 = .ok (.aload_n 0, 1) := by decide +kernel
theorem dL_fell_4 : decode cL_fell 4 = .ok (.iload_n 1, 1) := by decide +kernel
theorem dL_fell_5 : decode cL_fell 5 = .ok (.iload_n 2, 1) := by decide +kernel
theorem dL_fell_6 : decode cL_fell 6 = .ok (.iload_n 3, 1) := by decide +kernel
theorem dL_fell_7 : decode cL_fell 7 = .ok (.iload 4, 2) := by decide +kernel
theorem dL_fell_9 : decode cL_fell 9 = .ok (.invokevirtual 64, 3) := by decide +kernel
theorem dL_fell_12 : decode cL_fell 12 = .ok (.i2l, 1) := by decide +kernel
theorem dL_fell_13 : decode cL_fell 13 = .ok (.lastore, 1) := by decide +kernel
theorem dL_fell_14 : decode cL_fell 14 = .ok (.goto 7, 3) := by decide +kernel
theorem dL_fell_17 : decode cL_fell 17 = .ok (.astore 6, 2) := by decide +kernel
theorem dL_fell_19 : decode cL_fell 19 = .ok (.iconst 1, 1) := by decide +kernel
theorem dL_fell_20 : decode cL_fell 20 = .ok (.ireturn, 1) := by decide +kernel
theorem dL_fell_21 : decode cL_fell 21 = .ok (.iconst 0, 1) := by decide +kernel
theorem dL_fell_22 : decode cL_fell 22 = .ok (.ireturn, 1) := by decide +kernel
theorem dL_life_0 : decode cL_life 0 = .ok (.aload_n 2, 1) := by decide +kernel
theorem dL_life_1 : decode cL_life 1 = .ok (.iconst 0, 1) := by decide +kernel
theorem dL_life_2 : decode cL_life 2 = .ok (.aload_n 0, 1) := by decide +kernel
theorem dL_life_3 : decode cL_life 3 = .ok (.iload_n 1, 1) := by decide +kernel
theorem dL_life_4 : decode cL_life 4 = .ok (.invokevirtual 67, 3) := by decide +kernel
theorem dL_life_7 : decode cL_life 7 = .ok (.i2l, 1) := by decide +kernel
theorem dL_life_8 : decode cL_life 8 = .ok (.lastore, 1) := by decide +kernel
theorem dL_life_9 : decode cL_life 9 = .ok (.goto 6, 3) := by decide +kernel
theorem dL_life_12 : decode cL_life 12 = .ok (.astore_n 3, 1) := by decide +kernel
theorem dL_life_13 : decode cL_life 13 = .ok (.iconst 1, 1) := by decide +kernel
theorem dL_life_14 : decode cL_life 14 = .ok (.ireturn, 1) := by decide +kernel
theorem dL_life_15 : decode cL_life 15 = .ok (.iconst 0, 1) := by decide +kernel
theorem dL_life_16 : decode cL_life 16 = .ok (.ireturn, 1) := by decide +kernel
theorem dL_climbs_0 : decode cL_climbs 0 = .ok (.aload_n 2, 1) := by decide +kernel
theorem dL_climbs_1 : decode cL_climbs 1 = .ok (.iconst 0, 1) := by decide +kernel
theorem dL_climbs_2 : decode cL_climbs 2 = .ok (.aload_n 0, 1) := by decide +kernel
theorem dL_climbs_3 : decode cL_climbs 3 = .ok (.iload_n 1, 1) := by decide +kernel
theorem dL_climbs_4 : decode cL_climbs 4 = .ok (.invokevirtual 70, 3) := by decide +kernel
theorem dL_climbs_7 : decode cL_climbs 7 = .ok (.i2l, 1) := by decide +kernel
theorem dL_climbs_8 : decode cL_climbs 8 = .ok (.lastore, 1) := by decide +kernel
theorem dL_climbs_9 : decode cL_climbs 9 = .ok (.goto 6, 3) := by decide +kernel
theorem dL_climbs_12 : decode cL_climbs 12 = .ok (.astore_n 3, 1) := by decide +kernel
theorem dL_climbs_13 : decode cL_climbs 13 = .ok (.iconst 1, 1) := by decide +kernel
theorem dL_climbs_14 : decode cL_climbs 14 = .ok (.ireturn, 1) := by decide +kernel
theorem dL_climbs_15 : decode cL_climbs 15 = .ok (.iconst 0, 1) := by decide +kernel
theorem dL_climbs_16 : decode cL_climbs 16 = .ok (.ireturn, 1) := by decide +kernel
theorem dL_up_0 : decode cL_up 0 = .ok (.aload_n 3, 1) := by decide +kernel
theorem dL_up_1 : decode cL_up 1 = .ok (.iconst 0, 1) := by decide +kernel
theorem dL_up_2 : decode cL_up 2 = .ok (.aload_n 0, 1) := by decide +kernel
theorem dL_up_3 : decode cL_up 3 = .ok (.iload_n 1, 1) := by decide +kernel
theorem dL_up_4 : decode cL_up 4 = .ok (.iload_n 2, 1) := by decide +kernel
theorem dL_up_5 : decode cL_up 5 = .ok (.invokevirtual 73, 3) := by decide +kernel
theorem dL_up_8 : decode cL_up 8 = .ok (.i2l, 1) := by decide +kernel
theorem dL_up_9 : decode cL_up 9 = .ok (.lastore, 1) := by decide +kernel
theorem dL_up_10 : decode cL_up 10 = .ok (.goto 7, 3) := by decide +kernel
theorem dL_up_13 : decode cL_up 13 = .ok (.astore 4, 2) := by decide +kernel
theorem dL_up_15 : decode cL_up 15 = .ok (.iconst 1, 1) := by decide +kernel
theorem dL_up_16 : decode cL_up 16 = .ok (.ireturn, 1) := by decide +kernel
theorem dL_up_17 : decode cL_up 17 = .ok (.iconst 0, 1) := by decide +kernel
theorem dL_up_18 : decode cL_up 18 = .ok (.ireturn, 1) := by decide +kernel
theorem dL_band_0 : decode cL_band 0 = .ok (.aload 6, 2) := by decide +kernel
theorem dL_band_2 : decode cL_band 2 = .ok (.iconst 0, 1) := by decide +kernel
theorem dL_band_3 : decode cL_band 3 = .ok (.aload_n 0, 1) := by decide +kernel
theorem dL_band_4 : decode cL_band 4 = .ok (.iload_n 1, 1) := by decide +kernel
theorem dL_band_5 : decode cL_band 5 = .ok (.iload_n 2, 1) := by decide +kernel
theorem dL_band_6 : decode cL_band 6 = .ok (.iload_n 3, 1) := by decide +kernel
theorem dL_band_7 : decode cL_band 7 = .ok (.iload 4, 2) := by decide +kernel
theorem dL_band_9 : decode cL_band 9 = .ok (.iload 5, 2) := by decide +kernel
theorem dL_band_11 : decode cL_band 11 = .ok (.invokevirtual 76, 3) := by decide +kernel
theorem dL_band_14 : decode cL_band 14 = .ok (.i2l, 1) := by decide +kernel
theorem dL_band_15 : decode cL_band 15 = .ok (.lastore, 1) := by decide +kernel
theorem dL_band_16 : decode cL_band 16 = .ok (.goto 7, 3) := by decide +kernel
theorem dL_band_19 : decode cL_band 19 = .ok (.astore 7, 2) := by decide +kernel
theorem dL_band_21 : decode cL_band 21 = .ok (.iconst 1, 1) := by decide +kernel
theorem dL_band_22 : decode cL_band 22 = .ok (.ireturn, 1) := by decide +kernel
theorem dL_band_23 : decode cL_band 23 = .ok (.iconst 0, 1) := by decide +kernel
theorem dL_band_24 : decode cL_band 24 = .ok (.ireturn, 1) := by decide +kernel
theorem dL_mortar_0 : decode cL_mortar 0 = .ok (.aload_n 3, 1) := by decide +kernel
theorem dL_mortar_1 : decode cL_mortar 1 = .ok (.iconst 0, 1) := by decide +kernel
theorem dL_mortar_2 : decode cL_mortar 2 = .ok (.aload_n 0, 1) := by decide +kernel
theorem dL_mortar_3 : decode cL_mortar 3 = .ok (.iload_n 1, 1) := by decide +kernel
theorem dL_mortar_4 : decode cL_mortar 4 = .ok (.iload_n 2, 1) := by decide +kernel
theorem dL_mortar_5 : decode cL_mortar 5 = .ok (.invokevirtual 80, 3) := by decide +kernel
theorem dL_mortar_8 : decode cL_mortar 8 = .ok (.ifCond .eq 7, 3) := by decide +kernel
theorem dL_mortar_11 : decode cL_mortar 11 = .ok (.lconst 1, 1) := by decide +kernel
theorem dL_mortar_12 : decode cL_mortar 12 = .ok (.goto 4, 3) := by decide +kernel
theorem dL_mortar_15 : decode cL_mortar 15 = .ok (.lconst 0, 1) := by decide +kernel
theorem dL_mortar_16 : decode cL_mortar 16 = .ok (.lastore, 1) := by decide +kernel
theorem dL_mortar_17 : decode cL_mortar 17 = .ok (.goto 7, 3) := by decide +kernel
theorem dL_mortar_20 : decode cL_mortar 20 = .ok (.astore 4, 2) := by decide +kernel
theorem dL_mortar_22 : decode cL_mortar 22 = .ok (.iconst 1, 1) := by decide +kernel
theorem dL_mortar_23 : decode cL_mortar 23 = .ok (.ireturn, 1) := by decide +kernel
theorem dL_mortar_24 : decode cL_mortar 24 = .ok (.iconst 0, 1) := by decide +kernel
theorem dL_mortar_25 : decode cL_mortar 25 = .ok (.ireturn, 1) := by decide +kernel
theorem dL_weak_0 : decode cL_weak 0 = .ok (.aload 5, 2) := by decide +kernel
theorem dL_weak_2 : decode cL_weak 2 = .ok (.iconst 0, 1) := by decide +kernel
theorem dL_weak_3 : decode cL_weak 3 = .ok (.aload_n 0, 1) := by decide +kernel
theorem dL_weak_4 : decode cL_weak 4 = .ok (.iload_n 1, 1) := by decide +kernel
theorem dL_weak_5 : decode cL_weak 5 = .ok (.iload_n 2, 1) := by decide +kernel
theorem dL_weak_6 : decode cL_weak 6 = .ok (.iload_n 3, 1) := by decide +kernel
theorem dL_weak_7 : decode cL_weak 7 = .ok (.iload 4, 2) := by decide +kernel
theorem dL_weak_9 : decode cL_weak 9 = .ok (.invokevirtual 83, 3) := by decide +kernel
theorem dL_weak_12 : decode cL_weak 12 = .ok (.i2l, 1) := by decide +kernel
theorem dL_weak_13 : decode cL_weak 13 = .ok (.lastore, 1) := by decide +kernel
theorem dL_weak_14 : decode cL_weak 14 = .ok (.goto 11, 3) := by decide +kernel
theorem dL_weak_17 : decode cL_weak 17 = .ok (.astore 6, 2) := by decide +kernel
theorem dL_weak_19 : decode cL_weak 19 = .ok (.iconst 1, 1) := by decide +kernel
theorem dL_weak_20 : decode cL_weak 20 = .ok (.ireturn, 1) := by decide +kernel
theorem dL_weak_21 : decode cL_weak 21 = .ok (.astore 6, 2) := by decide +kernel
theorem dL_weak_23 : decode cL_weak 23 = .ok (.iconst 2, 1) := by decide +kernel
theorem dL_weak_24 : decode cL_weak 24 = .ok (.ireturn, 1) := by decide +kernel
theorem dL_weak_25 : decode cL_weak 25 = .ok (.iconst 0, 1) := by decide +kernel
theorem dL_weak_26 : decode cL_weak 26 = .ok (.ireturn, 1) := by decide +kernel
theorem dL_lasts_0 : decode cL_lasts 0 = .ok (.aload 4, 2) := by decide +kernel
theorem dL_lasts_2 : decode cL_lasts 2 = .ok (.iconst 0, 1) := by decide +kernel
theorem dL_lasts_3 : decode cL_lasts 3 = .ok (.aload_n 0, 1) := by decide +kernel
theorem dL_lasts_4 : decode cL_lasts 4 = .ok (.iload_n 1, 1) := by decide +kernel
theorem dL_lasts_5 : decode cL_lasts 5 = .ok (.iload_n 2, 1) := by decide +kernel
theorem dL_lasts_6 : decode cL_lasts 6 = .ok (.iload_n 3, 1) := by decide +kernel
theorem dL_lasts_7 : decode cL_lasts 7 = .ok (.invokevirtual 86, 3) := by decide +kernel
theorem dL_lasts_10 : decode cL_lasts 10 = .ok (.i2l, 1) := by decide +kernel
theorem dL_lasts_11 : decode cL_lasts 11 = .ok (.lastore, 1) := by decide +kernel
theorem dL_lasts_12 : decode cL_lasts 12 = .ok (.goto 11, 3) := by decide +kernel
theorem dL_lasts_15 : decode cL_lasts 15 = .ok (.astore 5, 2) := by decide +kernel
theorem dL_lasts_17 : decode cL_lasts 17 = .ok (.iconst 1, 1) := by decide +kernel
theorem dL_lasts_18 : decode cL_lasts 18 = .ok (.ireturn, 1) := by decide +kernel
theorem dL_lasts_19 : decode cL_lasts 19 = .ok (.astore 5, 2) := by decide +kernel
theorem dL_lasts_21 : decode cL_lasts 21 = .ok (.iconst 2, 1) := by decide +kernel
theorem dL_lasts_22 : decode cL_lasts 22 = .ok (.ireturn, 1) := by decide +kernel
theorem dL_lasts_23 : decode cL_lasts 23 = .ok (.iconst 0, 1) := by decide +kernel
theorem dL_lasts_24 : decode cL_lasts 24 = .ok (.ireturn, 1) := by decide +kernel
theorem dL_bands_0 : decode cL_bands 0 = .ok (.aload 5, 2) := by decide +kernel
theorem dL_bands_2 : decode cL_bands 2 = .ok (.iconst 0, 1) := by decide +kernel
theorem dL_bands_3 : decode cL_bands 3 = .ok (.aload_n 0, 1) := by decide +kernel
theorem dL_bands_4 : decode cL_bands 4 = .ok (.iload_n 1, 1) := by decide +kernel
theorem dL_bands_5 : decode cL_bands 5 = .ok (.iload_n 2, 1) := by decide +kernel
theorem dL_bands_6 : decode cL_bands 6 = .ok (.iload_n 3, 1) := by decide +kernel
theorem dL_bands_7 : decode cL_bands 7 = .ok (.iload 4, 2) := by decide +kernel
theorem dL_bands_9 : decode cL_bands 9 = .ok (.invokevirtual 89, 3) := by decide +kernel
theorem dL_bands_12 : decode cL_bands 12 = .ok (.i2l, 1) := by decide +kernel
theorem dL_bands_13 : decode cL_bands 13 = .ok (.lastore, 1) := by decide +kernel
theorem dL_bands_14 : decode cL_bands 14 = .ok (.goto 11, 3) := by decide +kernel
theorem dL_bands_17 : decode cL_bands 17 = .ok (.astore 6, 2) := by decide +kernel
theorem dL_bands_19 : decode cL_bands 19 = .ok (.iconst 1, 1) := by decide +kernel
theorem dL_bands_20 : decode cL_bands 20 = .ok (.ireturn, 1) := by decide +kernel
theorem dL_bands_21 : decode cL_bands 21 = .ok (.astore 6, 2) := by decide +kernel
theorem dL_bands_23 : decode cL_bands 23 = .ok (.iconst 2, 1) := by decide +kernel
theorem dL_bands_24 : decode cL_bands 24 = .ok (.ireturn, 1) := by decide +kernel
theorem dL_bands_25 : decode cL_bands 25 = .ok (.iconst 0, 1) := by decide +kernel
theorem dL_bands_26 : decode cL_bands 26 = .ok (.ireturn, 1) := by decide +kernel
theorem dL_risk_0 : decode cL_risk 0 = .ok (.aload 4, 2) := by decide +kernel
theorem dL_risk_2 : decode cL_risk 2 = .ok (.iconst 0, 1) := by decide +kernel
theorem dL_risk_3 : decode cL_risk 3 = .ok (.aload_n 0, 1) := by decide +kernel
theorem dL_risk_4 : decode cL_risk 4 = .ok (.iload_n 1, 1) := by decide +kernel
theorem dL_risk_5 : decode cL_risk 5 = .ok (.iload_n 2, 1) := by decide +kernel
theorem dL_risk_6 : decode cL_risk 6 = .ok (.iload_n 3, 1) := by decide +kernel
theorem dL_risk_7 : decode cL_risk 7 = .ok (.invokevirtual 92, 3) := by decide +kernel
theorem dL_risk_10 : decode cL_risk 10 = .ok (.ifCond .eq 7, 3) := by decide +kernel
theorem dL_risk_13 : decode cL_risk 13 = .ok (.lconst 1, 1) := by decide +kernel
theorem dL_risk_14 : decode cL_risk 14 = .ok (.goto 4, 3) := by decide +kernel
theorem dL_risk_17 : decode cL_risk 17 = .ok (.lconst 0, 1) := by decide +kernel
theorem dL_risk_18 : decode cL_risk 18 = .ok (.lastore, 1) := by decide +kernel
theorem dL_risk_19 : decode cL_risk 19 = .ok (.goto 7, 3) := by decide +kernel
theorem dL_risk_22 : decode cL_risk 22 = .ok (.astore 5, 2) := by decide +kernel
theorem dL_risk_24 : decode cL_risk 24 = .ok (.iconst 1, 1) := by decide +kernel
theorem dL_risk_25 : decode cL_risk 25 = .ok (.ireturn, 1) := by decide +kernel
theorem dL_risk_26 : decode cL_risk 26 = .ok (.iconst 0, 1) := by decide +kernel
theorem dL_risk_27 : decode cL_risk 27 = .ok (.ireturn, 1) := by decide +kernel
theorem dL_ordered_0 : decode cL_ordered 0 = .ok (.aload_n 2, 1) := by decide +kernel
theorem dL_ordered_1 : decode cL_ordered 1 = .ok (.iconst 0, 1) := by decide +kernel
theorem dL_ordered_2 : decode cL_ordered 2 = .ok (.aload_n 0, 1) := by decide +kernel
theorem dL_ordered_3 : decode cL_ordered 3 = .ok (.iload_n 1, 1) := by decide +kernel
theorem dL_ordered_4 : decode cL_ordered 4 = .ok (.invokevirtual 95, 3) := by decide +kernel
theorem dL_ordered_7 : decode cL_ordered 7 = .ok (.i2l, 1) := by decide +kernel
theorem dL_ordered_8 : decode cL_ordered 8 = .ok (.lastore, 1) := by decide +kernel
theorem dL_ordered_9 : decode cL_ordered 9 = .ok (.goto 6, 3) := by decide +kernel
theorem dL_ordered_12 : decode cL_ordered 12 = .ok (.astore_n 3, 1) := by decide +kernel
theorem dL_ordered_13 : decode cL_ordered 13 = .ok (.iconst 1, 1) := by decide +kernel
theorem dL_ordered_14 : decode cL_ordered 14 = .ok (.ireturn, 1) := by decide +kernel
theorem dL_ordered_15 : decode cL_ordered 15 = .ok (.iconst 0, 1) := by decide +kernel
theorem dL_ordered_16 : decode cL_ordered 16 = .ok (.ireturn, 1) := by decide +kernel
theorem dL_ladders_0 : decode cL_ladders 0 = .ok (.aload_n 3, 1) := by decide +kernel
theorem dL_ladders_1 : decode cL_ladders 1 = .ok (.iconst 0, 1) := by decide +kernel
theorem dL_ladders_2 : decode cL_ladders 2 = .ok (.aload_n 0, 1) := by decide +kernel
theorem dL_ladders_3 : decode cL_ladders 3 = .ok (.iload_n 1, 1) := by decide +kernel
theorem dL_ladders_4 : decode cL_ladders 4 = .ok (.iload_n 2, 1) := by decide +kernel
theorem dL_ladders_5 : decode cL_ladders 5 = .ok (.invokevirtual 98, 3) := by decide +kernel
theorem dL_ladders_8 : decode cL_ladders 8 = .ok (.i2l, 1) := by decide +kernel
theorem dL_ladders_9 : decode cL_ladders 9 = .ok (.lastore, 1) := by decide +kernel
theorem dL_ladders_10 : decode cL_ladders 10 = .ok (.goto 11, 3) := by decide +kernel
theorem dL_ladders_13 : decode cL_ladders 13 = .ok (.astore 4, 2) := by decide +kernel
theorem dL_ladders_15 : decode cL_ladders 15 = .ok (.iconst 1, 1) := by decide +kernel
theorem dL_ladders_16 : decode cL_ladders 16 = .ok (.ireturn, 1) := by decide +kernel
theorem dL_ladders_17 : decode cL_ladders 17 = .ok (.astore 4, 2) := by decide +kernel
theorem dL_ladders_19 : decode cL_ladders 19 = .ok (.iconst 2, 1) := by decide +kernel
theorem dL_ladders_20 : decode cL_ladders 20 = .ok (.ireturn, 1) := by decide +kernel
theorem dL_ladders_21 : decode cL_ladders 21 = .ok (.iconst 0, 1) := by decide +kernel
theorem dL_ladders_22 : decode cL_ladders 22 = .ok (.ireturn, 1) := by decide +kernel
theorem dL_out_0 : decode cL_out 0 = .ok (.aload_n 3, 1) := by decide +kernel
theorem dL_out_1 : decode cL_out 1 = .ok (.iconst 0, 1) := by decide +kernel
theorem dL_out_2 : decode cL_out 2 = .ok (.aload_n 0, 1) := by decide +kernel
theorem dL_out_3 : decode cL_out 3 = .ok (.iload_n 1, 1) := by decide +kernel
theorem dL_out_4 : decode cL_out 4 = .ok (.iload_n 2, 1) := by decide +kernel
theorem dL_out_5 : decode cL_out 5 = .ok (.invokevirtual 101, 3) := by decide +kernel
theorem dL_out_8 : decode cL_out 8 = .ok (.i2l, 1) := by decide +kernel
theorem dL_out_9 : decode cL_out 9 = .ok (.lastore, 1) := by decide +kernel
theorem dL_out_10 : decode cL_out 10 = .ok (.goto 7, 3) := by decide +kernel
theorem dL_out_13 : decode cL_out 13 = .ok (.astore 4, 2) := by decide +kernel
theorem dL_out_15 : decode cL_out 15 = .ok (.iconst 1, 1) := by decide +kernel
theorem dL_out_16 : decode cL_out 16 = .ok (.ireturn, 1) := by decide +kernel
theorem dL_out_17 : decode cL_out 17 = .ok (.iconst 0, 1) := by decide +kernel
theorem dL_out_18 : decode cL_out 18 = .ok (.ireturn, 1) := by decide +kernel
theorem dL_gang_0 : decode cL_gang 0 = .ok (.aload_n 2, 1) := by decide +kernel
theorem dL_gang_1 : decode cL_gang 1 = .ok (.iconst 0, 1) := by decide +kernel
theorem dL_gang_2 : decode cL_gang 2 = .ok (.aload_n 0, 1) := by decide +kernel
theorem dL_gang_3 : decode cL_gang 3 = .ok (.iload_n 1, 1) := by decide +kernel
theorem dL_gang_4 : decode cL_gang 4 = .ok (.invokevirtual 104, 3) := by decide +kernel
theorem dL_gang_7 : decode cL_gang 7 = .ok (.i2l, 1) := by decide +kernel
theorem dL_gang_8 : decode cL_gang 8 = .ok (.lastore, 1) := by decide +kernel
theorem dL_gang_9 : decode cL_gang 9 = .ok (.goto 6, 3) := by decide +kernel
theorem dL_gang_12 : decode cL_gang 12 = .ok (.astore_n 3, 1) := by decide +kernel
theorem dL_gang_13 : decode cL_gang 13 = .ok (.iconst 1, 1) := by decide +kernel
theorem dL_gang_14 : decode cL_gang 14 = .ok (.ireturn, 1) := by decide +kernel
theorem dL_gang_15 : decode cL_gang 15 = .ok (.iconst 0, 1) := by decide +kernel
theorem dL_gang_16 : decode cL_gang 16 = .ok (.ireturn, 1) := by decide +kernel
theorem dL_means_0 : decode cL_means 0 = .ok (.aload_n 3, 1) := by decide +kernel
theorem dL_means_1 : decode cL_means 1 = .ok (.iconst 0, 1) := by decide +kernel
theorem dL_means_2 : decode cL_means 2 = .ok (.aload_n 0, 1) := by decide +kernel
theorem dL_means_3 : decode cL_means 3 = .ok (.iload_n 1, 1) := by decide +kernel
theorem dL_means_4 : decode cL_means 4 = .ok (.iload_n 2, 1) := by decide +kernel
theorem dL_means_5 : decode cL_means 5 = .ok (.invokevirtual 107, 3) := by decide +kernel
theorem dL_means_8 : decode cL_means 8 = .ok (.ifCond .eq 7, 3) := by decide +kernel
theorem dL_means_11 : decode cL_means 11 = .ok (.lconst 1, 1) := by decide +kernel
theorem dL_means_12 : decode cL_means 12 = .ok (.goto 4, 3) := by decide +kernel
theorem dL_means_15 : decode cL_means 15 = .ok (.lconst 0, 1) := by decide +kernel
theorem dL_means_16 : decode cL_means 16 = .ok (.lastore, 1) := by decide +kernel
theorem dL_means_17 : decode cL_means 17 = .ok (.goto 7, 3) := by decide +kernel
theorem dL_means_20 : decode cL_means 20 = .ok (.astore 4, 2) := by decide +kernel
theorem dL_means_22 : decode cL_means 22 = .ok (.iconst 1, 1) := by decide +kernel
theorem dL_means_23 : decode cL_means 23 = .ok (.ireturn, 1) := by decide +kernel
theorem dL_means_24 : decode cL_means 24 = .ok (.iconst 0, 1) := by decide +kernel
theorem dL_means_25 : decode cL_means 25 = .ok (.ireturn, 1) := by decide +kernel
theorem dL_part_0 : decode cL_part 0 = .ok (.aload 4, 2) := by decide +kernel
theorem dL_part_2 : decode cL_part 2 = .ok (.iconst 0, 1) := by decide +kernel
theorem dL_part_3 : decode cL_part 3 = .ok (.aload_n 0, 1) := by decide +kernel
theorem dL_part_4 : decode cL_part 4 = .ok (.iload_n 1, 1) := by decide +kernel
theorem dL_part_5 : decode cL_part 5 = .ok (.iload_n 2, 1) := by decide +kernel
theorem dL_part_6 : decode cL_part 6 = .ok (.iload_n 3, 1) := by decide +kernel
theorem dL_part_7 : decode cL_part 7 = .ok (.invokevirtual 110, 3) := by decide +kernel
theorem dL_part_10 : decode cL_part 10 = .ok (.ifCond .eq 7, 3) := by decide +kernel
theorem dL_part_13 : decode cL_part 13 = .ok (.lconst 1, 1) := by decide +kernel
theorem dL_part_14 : decode cL_part 14 = .ok (.goto 4, 3) := by decide +kernel
theorem dL_part_17 : decode cL_part 17 = .ok (.lconst 0, 1) := by decide +kernel
theorem dL_part_18 : decode cL_part 18 = .ok (.lastore, 1) := by decide +kernel
theorem dL_part_19 : decode cL_part 19 = .ok (.goto 7, 3) := by decide +kernel
theorem dL_part_22 : decode cL_part 22 = .ok (.astore 5, 2) := by decide +kernel
theorem dL_part_24 : decode cL_part 24 = .ok (.iconst 1, 1) := by decide +kernel
theorem dL_part_25 : decode cL_part 25 = .ok (.ireturn, 1) := by decide +kernel
theorem dL_part_26 : decode cL_part 26 = .ok (.iconst 0, 1) := by decide +kernel
theorem dL_part_27 : decode cL_part 27 = .ok (.ireturn, 1) := by decide +kernel
theorem dL_bill_0 : decode cL_bill 0 = .ok (.aload_n 3, 1) := by decide +kernel
theorem dL_bill_1 : decode cL_bill 1 = .ok (.iconst 0, 1) := by decide +kernel
theorem dL_bill_2 : decode cL_bill 2 = .ok (.aload_n 0, 1) := by decide +kernel
theorem dL_bill_3 : decode cL_bill 3 = .ok (.iload_n 1, 1) := by decide +kernel
theorem dL_bill_4 : decode cL_bill 4 = .ok (.iload_n 2, 1) := by decide +kernel
theorem dL_bill_5 : decode cL_bill 5 = .ok (.invokevirtual 113, 3) := by decide +kernel
theorem dL_bill_8 : decode cL_bill 8 = .ok (.i2l, 1) := by decide +kernel
theorem dL_bill_9 : decode cL_bill 9 = .ok (.lastore, 1) := by decide +kernel
theorem dL_bill_10 : decode cL_bill 10 = .ok (.goto 11, 3) := by decide +kernel
theorem dL_bill_13 : decode cL_bill 13 = .ok (.astore 4, 2) := by decide +kernel
theorem dL_bill_15 : decode cL_bill 15 = .ok (.iconst 1, 1) := by decide +kernel
theorem dL_bill_16 : decode cL_bill 16 = .ok (.ireturn, 1) := by decide +kernel
theorem dL_bill_17 : decode cL_bill 17 = .ok (.astore 4, 2) := by decide +kernel
theorem dL_bill_19 : decode cL_bill 19 = .ok (.iconst 2, 1) := by decide +kernel
theorem dL_bill_20 : decode cL_bill 20 = .ok (.ireturn, 1) := by decide +kernel
theorem dL_bill_21 : decode cL_bill 21 = .ok (.iconst 0, 1) := by decide +kernel
theorem dL_bill_22 : decode cL_bill 22 = .ok (.ireturn, 1) := by decide +kernel
theorem dL_paid_0 : decode cL_paid 0 = .ok (.aload_n 3, 1) := by decide +kernel
theorem dL_paid_1 : decode cL_paid 1 = .ok (.iconst 0, 1) := by decide +kernel
theorem dL_paid_2 : decode cL_paid 2 = .ok (.aload_n 0, 1) := by decide +kernel
theorem dL_paid_3 : decode cL_paid 3 = .ok (.iload_n 1, 1) := by decide +kernel
theorem dL_paid_4 : decode cL_paid 4 = .ok (.iload_n 2, 1) := by decide +kernel
theorem dL_paid_5 : decode cL_paid 5 = .ok (.invokevirtual 116, 3) := by decide +kernel
theorem dL_paid_8 : decode cL_paid 8 = .ok (.i2l, 1) := by decide +kernel
theorem dL_paid_9 : decode cL_paid 9 = .ok (.lastore, 1) := by decide +kernel
theorem dL_paid_10 : decode cL_paid 10 = .ok (.goto 7, 3) := by decide +kernel
theorem dL_paid_13 : decode cL_paid 13 = .ok (.astore 4, 2) := by decide +kernel
theorem dL_paid_15 : decode cL_paid 15 = .ok (.iconst 1, 1) := by decide +kernel
theorem dL_paid_16 : decode cL_paid 16 = .ok (.ireturn, 1) := by decide +kernel
theorem dL_paid_17 : decode cL_paid 17 = .ok (.iconst 0, 1) := by decide +kernel
theorem dL_paid_18 : decode cL_paid 18 = .ok (.ireturn, 1) := by decide +kernel
theorem dL_odds_0 : decode cL_odds 0 = .ok (.aload_n 2, 1) := by decide +kernel
theorem dL_odds_1 : decode cL_odds 1 = .ok (.iconst 0, 1) := by decide +kernel
theorem dL_odds_2 : decode cL_odds 2 = .ok (.aload_n 0, 1) := by decide +kernel
theorem dL_odds_3 : decode cL_odds 3 = .ok (.iload_n 1, 1) := by decide +kernel
theorem dL_odds_4 : decode cL_odds 4 = .ok (.invokevirtual 119, 3) := by decide +kernel
theorem dL_odds_7 : decode cL_odds 7 = .ok (.i2l, 1) := by decide +kernel
theorem dL_odds_8 : decode cL_odds 8 = .ok (.lastore, 1) := by decide +kernel
theorem dL_odds_9 : decode cL_odds 9 = .ok (.goto 6, 3) := by decide +kernel
theorem dL_odds_12 : decode cL_odds 12 = .ok (.astore_n 3, 1) := by decide +kernel
theorem dL_odds_13 : decode cL_odds 13 = .ok (.iconst 1, 1) := by decide +kernel
theorem dL_odds_14 : decode cL_odds 14 = .ok (.ireturn, 1) := by decide +kernel
theorem dL_odds_15 : decode cL_odds 15 = .ok (.iconst 0, 1) := by decide +kernel
theorem dL_odds_16 : decode cL_odds 16 = .ok (.ireturn, 1) := by decide +kernel
