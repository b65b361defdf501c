theorem dX11_init_0 : decode cX11_init 0 = .ok (.aload_n 0, 1) := by decide +kernel
theorem dX11_init_1 : decode cX11_init 1 = .ok (.invokespecial 1, 3) := by decide +kernel
theorem dX11_init_4 : decode cX11_init 4 = .ok (.aload_n 0, 1) := by decide +kernel
theorem dX11_init_5 : decode cX11_init 5 = .ok (.sipush 600, 3) := by decide +kernel
theorem dX11_init_8 : decode cX11_init 8 = .ok (.newarray .int, 2) := by decide +kernel
theorem dX11_init_10 : decode cX11_init 10 = .ok (.putfield 9, 3) := by decide +kernel
theorem dX11_init_13 : decode cX11_init 13 = .ok (.aload_n 0, 1) := by decide +kernel
theorem dX11_init_14 : decode cX11_init 14 = .ok (.iconst 0, 1) := by decide +kernel
theorem dX11_init_15 : decode cX11_init 15 = .ok (.putfield 13, 3) := by decide +kernel
theorem dX11_init_18 : decode cX11_init 18 = .ok (.aload_n 0, 1) := by decide +kernel
theorem dX11_init_19 : decode cX11_init 19 = .ok (.iconst (-1), 1) := by decide +kernel
theorem dX11_init_20 : decode cX11_init 20 = .ok (.putfield 17, 3) := by decide +kernel
theorem dX11_init_23 : decode cX11_init 23 = .ok (.aload_n 0, 1) := by decide +kernel
theorem dX11_init_24 : decode cX11_init 24 = .ok (.new 20, 3) := by decide +kernel
theorem dX11_init_27 : decode cX11_init 27 = .ok (.dup, 1) := by decide +kernel
theorem dX11_init_28 : decode cX11_init 28 = .ok (.invokespecial 22, 3) := by decide +kernel
theorem dX11_init_31 : decode cX11_init 31 = .ok (.putfield 23, 3) := by decide +kernel
theorem dX11_init_34 : decode cX11_init 34 = .ok (.aload_n 0, 1) := by decide +kernel
theorem dX11_init_35 : decode cX11_init 35 = .ok (.new 27, 3) := by decide +kernel
theorem dX11_init_38 : decode cX11_init 38 = .ok (.dup, 1) := by decide +kernel
theorem dX11_init_39 : decode cX11_init 39 = .ok (.invokespecial 29, 3) := by decide +kernel
theorem dX11_init_42 : decode cX11_init 42 = .ok (.putfield 30, 3) := by decide +kernel
theorem dX11_init_45 : decode cX11_init 45 = .ok (.aload_n 0, 1) := by decide +kernel
theorem dX11_init_46 : decode cX11_init 46 = .ok (.new 27, 3) := by decide +kernel
theorem dX11_init_49 : decode cX11_init 49 = .ok (.dup, 1) := by decide +kernel
theorem dX11_init_50 : decode cX11_init 50 = .ok (.invokespecial 29, 3) := by decide +kernel
theorem dX11_init_53 : decode cX11_init 53 = .ok (.putfield 34, 3) := by decide +kernel
theorem dX11_init_56 : decode cX11_init 56 = .ok (.aload_n 0, 1) := by decide +kernel
theorem dX11_init_57 : decode cX11_init 57 = .ok (.new 37, 3) := by decide +kernel
theorem dX11_init_60 : decode cX11_init 60 = .ok (.dup, 1) := by decide +kernel
theorem dX11_init_61 : decode cX11_init 61 = .ok (.invokespecial 39, 3) := by decide +kernel
theorem dX11_init_64 : decode cX11_init 64 = .ok (.putfield 40, 3) := by decide +kernel
theorem dX11_init_67 : decode cX11_init 67 = .ok (.aload_n 0, 1) := by decide +kernel
theorem dX11_init_68 : decode cX11_init 68 = .ok (.bipush 30, 2) := by decide +kernel
theorem dX11_init_70 : decode cX11_init 70 = .ok (.newarray .int, 2) := by decide +kernel
theorem dX11_init_72 : decode cX11_init 72 = .ok (.putfield 44, 3) := by decide +kernel
theorem dX11_init_75 : decode cX11_init 75 = .ok (.aload_n 0, 1) := by decide +kernel
theorem dX11_init_76 : decode cX11_init 76 = .ok (.new 47, 3) := by decide +kernel
theorem dX11_init_79 : decode cX11_init 79 = .ok (.dup, 1) := by decide +kernel
theorem dX11_init_80 : decode cX11_init 80 = .ok (.invokespecial 49, 3) := by decide +kernel
theorem dX11_init_83 : decode cX11_init 83 = .ok (.putfield 50, 3) := by decide +kernel
theorem dX11_init_86 : decode cX11_init 86 = .ok (.aload_n 0, 1) := by decide +kernel
theorem dX11_init_87 : decode cX11_init 87 = .ok (.new 54, 3) := by decide +kernel
theorem dX11_init_90 : decode cX11_init 90 = .ok (.dup, 1) := by decide +kernel
theorem dX11_init_91 : decode cX11_init 91 = .ok (.invokespecial 56, 3) := by decide +kernel
theorem dX11_init_94 : decode cX11_init 94 = .ok (.putfield 57, 3) := by decide +kernel
theorem dX11_init_97 : decode cX11_init 97 = .ok (.aload_n 0, 1) := by decide +kernel
theorem dX11_init_98 : decode cX11_init 98 = .ok (.new 61, 3) := by decide +kernel
theorem dX11_init_101 : decode cX11_init 101 = .ok (.dup, 1) := by decide +kernel
theorem dX11_init_102 : decode cX11_init 102 = .ok (.invokespecial 63, 3) := by decide +kernel
theorem dX11_init_105 : decode cX11_init 105 = .ok (.putfield 64, 3) := by decide +kernel
theorem dX11_init_108 : decode cX11_init 108 = .ok (.aload_n 0, 1) := by decide +kernel
theorem dX11_init_109 : decode cX11_init 109 = .ok (.new 68, 3) := by decide +kernel
theorem dX11_init_112 : decode cX11_init 112 = .ok (.dup, 1) := by decide +kernel
theorem dX11_init_113 : decode cX11_init 113 = .ok (.invokespecial 70, 3) := by decide +kernel
theorem dX11_init_116 : decode cX11_init 116 = .ok (.putfield 71, 3) := by decide +kernel
theorem dX11_init_119 : decode cX11_init 119 = .ok (.aload_n 0, 1) := by decide +kernel
theorem dX11_init_120 : decode cX11_init 120 = .ok (.new 68, 3) := by decide +kernel
theorem dX11_init_123 : decode cX11_init 123 = .ok (.dup, 1) := by decide +kernel
theorem dX11_init_124 : decode cX11_init 124 = .ok (.invokespecial 70, 3) := by decide +kernel
theorem dX11_init_127 : decode cX11_init 127 = .ok (.putfield 75, 3) := by decide +kernel
theorem dX11_init_130 : decode cX11_init 130 = .ok (.aload_n 0, 1) := by decide +kernel
theorem dX11_init_131 : decode cX11_init 131 = .ok (.iconst 0, 1) := by decide +kernel
theorem dX11_init_132 : decode cX11_init 132 = .ok (.putfield 78, 3) := by decide +kernel
theorem dX11_init_135 : decode cX11_init 135 = .ok (.aload_n 0, 1) := by decide +kernel
theorem dX11_init_136 : decode cX11_init 136 = .ok (.new 82, 3) := by decide +kernel
theorem dX11_init_139 : decode cX11_init 139 = .ok (.dup, 1) := by decide +kernel
theorem dX11_init_140 : decode cX11_init 140 = .ok (.invokespecial 84, 3) := by decide +kernel
theorem dX11_init_143 : decode cX11_init 143 = .ok (.putfield 85, 3) := by decide +kernel
theorem dX11_init_146 : decode cX11_init 146 = .ok (.aload_n 0, 1) := by decide +kernel
theorem dX11_init_147 : decode cX11_init 147 = .ok (.new 89, 3) := by decide +kernel
theorem dX11_init_150 : decode cX11_init 150 = .ok (.dup, 1) := by decide +kernel
theorem dX11_init_151 : decode cX11_init 151 = .ok (.invokespecial 91, 3) := by decide +kernel
theorem dX11_init_154 : decode cX11_init 154 = .ok (.putfield 92, 3) := by decide +kernel
theorem dX11_init_157 : decode cX11_init 157 = .ok (.aload_n 0, 1) := by decide +kernel
theorem dX11_init_158 : decode cX11_init 158 = .ok (.new 96, 3) := by decide +kernel
theorem dX11_init_161 : decode cX11_init 161 = .ok (.dup, 1) := by decide +kernel
theorem dX11_init_162 : decode cX11_init 162 = .ok (.invokespecial 98, 3) := by decide +kernel
theorem dX11_init_165 : decode cX11_init 165 = .ok (.putfield 99, 3) := by decide +kernel
theorem dX11_init_168 : decode cX11_init 168 = .ok (.return_, 1) := by decide +kernel
theorem dX11_feed_0 : decode cX11_feed 0 = .ok (.aload_n 0, 1) := by decide +kernel
theorem dX11_feed_1 : decode cX11_feed 1 = .ok (.getfield 13, 3) := by decide +kernel
theorem dX11_feed_4 : decode cX11_feed 4 = .ok (.bipush 20, 2) := by decide +kernel
theorem dX11_feed_6 : decode cX11_feed 6 = .ok (.iadd, 1) := by decide +kernel
theorem dX11_feed_7 : decode cX11_feed 7 = .ok (.sipush 600, 3) := by decide +kernel
theorem dX11_feed_10 : decode cX11_feed 10 = .ok (.if_icmp .le 5, 3) := by decide +kernel
theorem dX11_feed_13 : decode cX11_feed 13 = .ok (.iconst (-1), 1) := by decide +kernel
theorem dX11_feed_14 : decode cX11_feed 14 = .ok (.ireturn, 1) := by decide +kernel
theorem dX11_feed_15 : decode cX11_feed 15 = .ok (.aload_n 0, 1) := by decide +kernel
theorem dX11_feed_16 : decode cX11_feed 16 = .ok (.iload_n 1, 1) := by decide +kernel
theorem dX11_feed_17 : decode cX11_feed 17 = .ok (.invokevirtual 103, 3) := by decide +kernel
theorem dX11_feed_20 : decode cX11_feed 20 = .ok (.aload_n 0, 1) := by decide +kernel
theorem dX11_feed_21 : decode cX11_feed 21 = .ok (.iload_n 2, 1) := by decide +kernel
theorem dX11_feed_22 : decode cX11_feed 22 = .ok (.invokevirtual 103, 3) := by decide +kernel
theorem dX11_feed_25 : decode cX11_feed 25 = .ok (.aload_n 0, 1) := by decide +kernel
theorem dX11_feed_26 : decode cX11_feed 26 = .ok (.iload_n 3, 1) := by decide +kernel
theorem dX11_feed_27 : decode cX11_feed 27 = .ok (.invokevirtual 103, 3) := by decide +kernel
theorem dX11_feed_30 : decode cX11_feed 30 = .ok (.aload_n 0, 1) := by decide +kernel
theorem dX11_feed_31 : decode cX11_feed 31 = .ok (.iload 4, 2) := by decide +kernel
theorem dX11_feed_33 : decode cX11_feed 33 = .ok (.invokevirtual 103, 3) := by decide +kernel
theorem dX11_feed_36 : decode cX11_feed 36 = .ok (.aload_n 0, 1) := by decide +kernel
theorem dX11_feed_37 : decode cX11_feed 37 = .ok (.iload 5, 2) := by decide +kernel
theorem dX11_feed_39 : decode cX11_feed 39 = .ok (.invokevirtual 103, 3) := by decide +kernel
theorem dX11_feed_42 : decode cX11_feed 42 = .ok (.aload_n 0, 1) := by decide +kernel
theorem dX11_feed_43 : decode cX11_feed 43 = .ok (.getfield 13, 3) := by decide +kernel
theorem dX11_feed_46 : decode cX11_feed 46 = .ok (.ireturn, 1) := by decide +kernel
theorem dX11_putBytes_0 : decode cX11_putBytes 0 = .ok (.bipush 24, 2) := by decide +kernel
theorem dX11_putBytes_2 : decode cX11_putBytes 2 = .ok (.istore_n 2, 1) := by decide +kernel
theorem dX11_putBytes_3 : decode cX11_putBytes 3 = .ok (.iload_n 2, 1) := by decide +kernel
theorem dX11_putBytes_4 : decode cX11_putBytes 4 = .ok (.ifCond .lt 45, 3) := by decide +kernel
theorem dX11_putBytes_7 : decode cX11_putBytes 7 = .ok (.aload_n 0, 1) := by decide +kernel
theorem dX11_putBytes_8 : decode cX11_putBytes 8 = .ok (.getfield 13, 3) := by decide +kernel
theorem dX11_putBytes_11 : decode cX11_putBytes 11 = .ok (.sipush 600, 3) := by decide +kernel
theorem dX11_putBytes_14 : decode cX11_putBytes 14 = .ok (.if_icmp .ge 35, 3) := by decide +kernel
theorem dX11_putBytes_17 : decode cX11_putBytes 17 = .ok (.aload_n 0, 1) := by decide +kernel
theorem dX11_putBytes_18 : decode cX11_putBytes 18 = .ok (.getfield 9, 3) := by decide +kernel
theorem dX11_putBytes_21 : decode cX11_putBytes 21 = .ok (.aload_n 0, 1) := by decide +kernel
theorem dX11_putBytes_22 : decode cX11_putBytes 22 = .ok (.getfield 13, 3) := by decide +kernel
theorem dX11_putBytes_25 : decode cX11_putBytes 25 = .ok (.iload_n 1, 1) := by decide +kernel
theorem dX11_putBytes_26 : decode cX11_putBytes 26 = .ok (.iload_n 2, 1) := by decide +kernel
theorem dX11_putBytes_27 : decode cX11_putBytes 27 = .ok (.ishr, 1) := by decide +kernel
theorem dX11_putBytes_28 : decode cX11_putBytes 28 = .ok (.sipush 255, 3) := by decide +kernel
theorem dX11_putBytes_31 : decode cX11_putBytes 31 = .ok (.iand, 1) := by decide +kernel
theorem dX11_putBytes_32 : decode cX11_putBytes 32 = .ok (.iastore, 1) := by decide +kernel
theorem dX11_putBytes_33 : decode cX11_putBytes 33 = .ok (.aload_n 0, 1) := by decide +kernel
theorem dX11_putBytes_34 : decode cX11_putBytes 34 = .ok (.dup, 1) := by decide +kernel
theorem dX11_putBytes_35 : decode cX11_putBytes 35 = .ok (.getfield 13, 3) := by decide +kernel
theorem dX11_putBytes_38 : decode cX11_putBytes 38 = .ok (.iconst 1, 1) := by decide +kernel
theorem dX11_putBytes_39 : decode cX11_putBytes 39 = .ok (.iadd, 1) := by decide +kernel
theorem dX11_putBytes_40 : decode cX11_putBytes 40 = .ok (.putfield 13, 3) := by decide +kernel
theorem dX11_putBytes_43 : decode cX11_putBytes 43 = .ok (.iinc 2 (-8), 3) := by decide +kernel
theorem dX11_putBytes_46 : decode cX11_putBytes 46 = .ok (.goto (-43), 3) := by decide +kernel
theorem dX11_putBytes_49 : decode cX11_putBytes 49 = .ok (.return_, 1) := by decide +kernel
theorem dX11_yard_0 : decode cX11_yard 0 = .ok (.iload_n 1, 1) := by decide +kernel
theorem dX11_yard_1 : decode cX11_yard 1 = .ok (.ifCond .lt 11, 3) := by decide +kernel
theorem dX11_yard_4 : decode cX11_yard 4 = .ok (.iload_n 1, 1) := by decide +kernel
theorem dX11_yard_5 : decode cX11_yard 5 = .ok (.aload_n 0, 1) := by decide +kernel
theorem dX11_yard_6 : decode cX11_yard 6 = .ok (.getfield 13, 3) := by decide +kernel
theorem dX11_yard_9 : decode cX11_yard 9 = .ok (.if_icmp .le 13, 3) := by decide +kernel
theorem dX11_yard_12 : decode cX11_yard 12 = .ok (.new 107, 3) := by decide +kernel
theorem dX11_yard_15 : decode cX11_yard 15 = .ok (.dup, 1) := by decide +kernel
theorem dX11_yard_16 : decode cX11_yard 16 = .ok (.ldc 109, 2) := by decide +kernel
theorem dX11_yard_18 : decode cX11_yard 18 = .ok (.invokespecial 111, 3) := by decide +kernel
theorem dX11_yard_21 : decode cX11_yard 21 = .ok (.athrow, 1) := by decide +kernel
theorem dX11_yard_22 : decode cX11_yard 22 = .ok (.aload_n 0, 1) := by decide +kernel
theorem dX11_yard_23 : decode cX11_yard 23 = .ok (.getfield 23, 3) := by decide +kernel
theorem dX11_yard_26 : decode cX11_yard 26 = .ok (.aload_n 0, 1) := by decide +kernel
theorem dX11_yard_27 : decode cX11_yard 27 = .ok (.getfield 9, 3) := by decide +kernel
theorem dX11_yard_30 : decode cX11_yard 30 = .ok (.iload_n 1, 1) := by decide +kernel
theorem dX11_yard_31 : decode cX11_yard 31 = .ok (.aload_n 0, 1) := by decide +kernel
theorem dX11_yard_32 : decode cX11_yard 32 = .ok (.getfield 34, 3) := by decide +kernel
theorem dX11_yard_35 : decode cX11_yard 35 = .ok (.invokevirtual 114, 3) := by decide +kernel
theorem dX11_yard_38 : decode cX11_yard 38 = .ok (.istore_n 2, 1) := by decide +kernel
theorem dX11_yard_39 : decode cX11_yard 39 = .ok (.aload_n 0, 1) := by decide +kernel
theorem dX11_yard_40 : decode cX11_yard 40 = .ok (.iconst 0, 1) := by decide +kernel
theorem dX11_yard_41 : decode cX11_yard 41 = .ok (.putfield 13, 3) := by decide +kernel
theorem dX11_yard_44 : decode cX11_yard 44 = .ok (.aload_n 0, 1) := by decide +kernel
theorem dX11_yard_45 : decode cX11_yard 45 = .ok (.aload_n 0, 1) := by decide +kernel
theorem dX11_yard_46 : decode cX11_yard 46 = .ok (.getfield 23, 3) := by decide +kernel
theorem dX11_yard_49 : decode cX11_yard 49 = .ok (.getfield 118, 3) := by decide +kernel
theorem dX11_yard_52 : decode cX11_yard 52 = .ok (.putfield 17, 3) := by decide +kernel
theorem dX11_yard_55 : decode cX11_yard 55 = .ok (.iload_n 2, 1) := by decide +kernel
theorem dX11_yard_56 : decode cX11_yard 56 = .ok (.ifCond .ne 7, 3) := by decide +kernel
theorem dX11_yard_59 : decode cX11_yard 59 = .ok (.aload_n 0, 1) := by decide +kernel
theorem dX11_yard_60 : decode cX11_yard 60 = .ok (.invokevirtual 121, 3) := by decide +kernel
theorem dX11_yard_63 : decode cX11_yard 63 = .ok (.iload_n 2, 1) := by decide +kernel
theorem dX11_yard_64 : decode cX11_yard 64 = .ok (.ireturn, 1) := by decide +kernel
theorem dX11_takeDraft_0 : decode cX11_takeDraft 0 = .ok (.aload_n 0, 1) := by decide +kernel
theorem dX11_takeDraft_1 : decode cX11_takeDraft 1 = .ok (.getfield 30, 3) := by decide +kernel
theorem dX11_takeDraft_4 : decode cX11_takeDraft 4 = .ok (.astore_n 1, 1) := by decide +kernel
theorem dX11_takeDraft_5 : decode cX11_takeDraft 5 = .ok (.aload_n 0, 1) := by decide +kernel
theorem dX11_takeDraft_6 : decode cX11_takeDraft 6 = .ok (.aload_n 0, 1) := by decide +kernel
theorem dX11_takeDraft_7 : decode cX11_takeDraft 7 = .ok (.getfield 34, 3) := by decide +kernel
theorem dX11_takeDraft_10 : decode cX11_takeDraft 10 = .ok (.putfield 30, 3) := by decide +kernel
theorem dX11_takeDraft_13 : decode cX11_takeDraft 13 = .ok (.aload_n 0, 1) := by decide +kernel
theorem dX11_takeDraft_14 : decode cX11_takeDraft 14 = .ok (.aload_n 1, 1) := by decide +kernel
theorem dX11_takeDraft_15 : decode cX11_takeDraft 15 = .ok (.putfield 34, 3) := by decide +kernel
theorem dX11_takeDraft_18 : decode cX11_takeDraft 18 = .ok (.aload_n 0, 1) := by decide +kernel
theorem dX11_takeDraft_19 : decode cX11_takeDraft 19 = .ok (.getfield 40, 3) := by decide +kernel
theorem dX11_takeDraft_22 : decode cX11_takeDraft 22 = .ok (.invokevirtual 124, 3) := by decide +kernel
theorem dX11_takeDraft_25 : decode cX11_takeDraft 25 = .ok (.aload_n 0, 1) := by decide +kernel
theorem dX11_takeDraft_26 : decode cX11_takeDraft 26 = .ok (.getfield 50, 3) := by decide +kernel
theorem dX11_takeDraft_29 : decode cX11_takeDraft 29 = .ok (.invokevirtual 127, 3) := by decide +kernel
theorem dX11_takeDraft_32 : decode cX11_takeDraft 32 = .ok (.aload_n 0, 1) := by decide +kernel
theorem dX11_takeDraft_33 : decode cX11_takeDraft 33 = .ok (.getfield 85, 3) := by decide +kernel
theorem dX11_takeDraft_36 : decode cX11_takeDraft 36 = .ok (.invokevirtual 130, 3) := by decide +kernel
theorem dX11_takeDraft_39 : decode cX11_takeDraft 39 = .ok (.aload_n 0, 1) := by decide +kernel
theorem dX11_takeDraft_40 : decode cX11_takeDraft 40 = .ok (.getfield 92, 3) := by decide +kernel
theorem dX11_takeDraft_43 : decode cX11_takeDraft 43 = .ok (.invokevirtual 131, 3) := by decide +kernel
theorem dX11_takeDraft_46 : decode cX11_takeDraft 46 = .ok (.aload_n 0, 1) := by decide +kernel
theorem dX11_takeDraft_47 : decode cX11_takeDraft 47 = .ok (.getfield 71, 3) := by decide +kernel
theorem dX11_takeDraft_50 : decode cX11_takeDraft 50 = .ok (.invokevirtual 132, 3) := by decide +kernel
theorem dX11_takeDraft_53 : decode cX11_takeDraft 53 = .ok (.aload_n 0, 1) := by decide +kernel
theorem dX11_takeDraft_54 : decode cX11_takeDraft 54 = .ok (.iconst 0, 1) := by decide +kernel
theorem dX11_takeDraft_55 : decode cX11_takeDraft 55 = .ok (.putfield 78, 3) := by decide +kernel
theorem dX11_takeDraft_58 : decode cX11_takeDraft 58 = .ok (.aload_n 0, 1) := by decide +kernel
theorem dX11_takeDraft_59 : decode cX11_takeDraft 59 = .ok (.getfield 99, 3) := by decide +kernel
theorem dX11_takeDraft_62 : decode cX11_takeDraft 62 = .ok (.invokevirtual 133, 3) := by decide +kernel
theorem dX11_takeDraft_65 : decode cX11_takeDraft 65 = .ok (.return_, 1) := by decide +kernel
theorem dX11_fault_0 : decode cX11_fault 0 = .ok (.aload_n 0, 1) := by decide +kernel
theorem dX11_fault_1 : decode cX11_fault 1 = .ok (.getfield 17, 3) := by decide +kernel
theorem dX11_fault_4 : decode cX11_fault 4 = .ok (.ireturn, 1) := by decide +kernel
theorem dX11_count_0 : decode cX11_count 0 = .ok (.iload_n 1, 1) := by decide +kernel
theorem dX11_count_1 : decode cX11_count 1 = .ok (.tableswitch 108 0 7 #[47, 55, 63, 71, 79, 87, 92, 100], 47) := by decide +kernel
theorem dX11_count_48 : decode cX11_count 48 = .ok (.aload_n 0, 1) := by decide +kernel
theorem dX11_count_49 : decode cX11_count 49 = .ok (.getfield 30, 3) := by decide +kernel
theorem dX11_count_52 : decode cX11_count 52 = .ok (.getfield 136, 3) := by decide +kernel
theorem dX11_count_55 : decode cX11_count 55 = .ok (.ireturn, 1) := by decide +kernel
theorem dX11_count_56 : decode cX11_count 56 = .ok (.aload_n 0, 1) := by decide +kernel
theorem dX11_count_57 : decode cX11_count 57 = .ok (.getfield 30, 3) := by decide +kernel
theorem dX11_count_60 : decode cX11_count 60 = .ok (.getfield 139, 3) := by decide +kernel
theorem dX11_count_63 : decode cX11_count 63 = .ok (.ireturn, 1) := by decide +kernel
theorem dX11_count_64 : decode cX11_count 64 = .ok (.aload_n 0, 1) := by decide +kernel
theorem dX11_count_65 : decode cX11_count 65 = .ok (.getfield 30, 3) := by decide +kernel
theorem dX11_count_68 : decode cX11_count 68 = .ok (.getfield 142, 3) := by decide +kernel
theorem dX11_count_71 : decode cX11_count 71 = .ok (.ireturn, 1) := by decide +kernel
theorem dX11_count_72 : decode cX11_count 72 = .ok (.aload_n 0, 1) := by decide +kernel
theorem dX11_count_73 : decode cX11_count 73 = .ok (.getfield 30, 3) := by decide +kernel
theorem dX11_count_76 : decode cX11_count 76 = .ok (.getfield 145, 3) := by decide +kernel
theorem dX11_count_79 : decode cX11_count 79 = .ok (.ireturn, 1) := by decide +kernel
theorem dX11_count_80 : decode cX11_count 80 = .ok (.aload_n 0, 1) := by decide +kernel
theorem dX11_count_81 : decode cX11_count 81 = .ok (.getfield 71, 3) := by decide +kernel
theorem dX11_count_84 : decode cX11_count 84 = .ok (.getfield 148, 3) := by decide +kernel
theorem dX11_count_87 : decode cX11_count 87 = .ok (.ireturn, 1) := by decide +kernel
theorem dX11_count_88 : decode cX11_count 88 = .ok (.aload_n 0, 1) := by decide +kernel
theorem dX11_count_89 : decode cX11_count 89 = .ok (.getfield 13, 3) := by decide +kernel
theorem dX11_count_92 : decode cX11_count 92 = .ok (.ireturn, 1) := by decide +kernel
theorem dX11_count_93 : decode cX11_count 93 = .ok (.aload_n 0, 1) := by decide +kernel
theorem dX11_count_94 : decode cX11_count 94 = .ok (.getfield 64, 3) := by decide +kernel
theorem dX11_count_97 : decode cX11_count 97 = .ok (.getfield 151, 3) := by decide +kernel
theorem dX11_count_100 : decode cX11_count 100 = .ok (.ireturn, 1) := by decide +kernel
theorem dX11_count_101 : decode cX11_count 101 = .ok (.aload_n 0, 1) := by decide +kernel
theorem dX11_count_102 : decode cX11_count 102 = .ok (.getfield 71, 3) := by decide +kernel
theorem dX11_count_105 : decode cX11_count 105 = .ok (.getfield 154, 3) := by decide +kernel
theorem dX11_count_108 : decode cX11_count 108 = .ok (.ireturn, 1) := by decide +kernel
theorem dX11_count_109 : decode cX11_count 109 = .ok (.new 157, 3) := by decide +kernel
theorem dX11_count_112 : decode cX11_count 112 = .ok (.dup, 1) := by decide +kernel
theorem dX11_count_113 : decode cX11_count 113 = .ok (.ldc 159, 2) := by decide +kernel
theorem dX11_count_115 : decode cX11_count 115 = .ok (.invokespecial 161, 3) := by decide +kernel
theorem dX11_count_118 : decode cX11_count 118 = .ok (.athrow, 1) := by decide +kernel
theorem dX11_letter_0 : decode cX11_letter 0 = .ok (.aload_n 0, 1) := by decide +kernel
theorem dX11_letter_1 : decode cX11_letter 1 = .ok (.iload_n 1, 1) := by decide +kernel
theorem dX11_letter_2 : decode cX11_letter 2 = .ok (.invokevirtual 162, 3) := by decide +kernel
theorem dX11_letter_5 : decode cX11_letter 5 = .ok (.iload_n 2, 1) := by decide +kernel
theorem dX11_letter_6 : decode cX11_letter 6 = .ok (.bipush 6, 2) := by decide +kernel
theorem dX11_letter_8 : decode cX11_letter 8 = .ok (.invokestatic 165, 3) := by decide +kernel
theorem dX11_letter_11 : decode cX11_letter 11 = .ok (.aload_n 0, 1) := by decide +kernel
theorem dX11_letter_12 : decode cX11_letter 12 = .ok (.getfield 30, 3) := by decide +kernel
theorem dX11_letter_15 : decode cX11_letter 15 = .ok (.iload_n 1, 1) := by decide +kernel
theorem dX11_letter_16 : decode cX11_letter 16 = .ok (.iload_n 2, 1) := by decide +kernel
theorem dX11_letter_17 : decode cX11_letter 17 = .ok (.invokevirtual 169, 3) := by decide +kernel
theorem dX11_letter_20 : decode cX11_letter 20 = .ok (.ireturn, 1) := by decide +kernel
theorem dX11_road_0 : decode cX11_road 0 = .ok (.aload_n 0, 1) := by decide +kernel
theorem dX11_road_1 : decode cX11_road 1 = .ok (.iload_n 1, 1) := by decide +kernel
theorem dX11_road_2 : decode cX11_road 2 = .ok (.invokevirtual 173, 3) := by decide +kernel
theorem dX11_road_5 : decode cX11_road 5 = .ok (.aload_n 0, 1) := by decide +kernel
theorem dX11_road_6 : decode cX11_road 6 = .ok (.iload_n 2, 1) := by decide +kernel
theorem dX11_road_7 : decode cX11_road 7 = .ok (.invokevirtual 173, 3) := by decide +kernel
theorem dX11_road_10 : decode cX11_road 10 = .ok (.aload_n 0, 1) := by decide +kernel
theorem dX11_road_11 : decode cX11_road 11 = .ok (.getfield 30, 3) := by decide +kernel
theorem dX11_road_14 : decode cX11_road 14 = .ok (.iload_n 1, 1) := by decide +kernel
theorem dX11_road_15 : decode cX11_road 15 = .ok (.iload_n 2, 1) := by decide +kernel
theorem dX11_road_16 : decode cX11_road 16 = .ok (.invokevirtual 176, 3) := by decide +kernel
theorem dX11_road_19 : decode cX11_road 19 = .ok (.ireturn, 1) := by decide +kernel
theorem dX11_begins_0 : decode cX11_begins 0 = .ok (.aload_n 0, 1) := by decide +kernel
theorem dX11_begins_1 : decode cX11_begins 1 = .ok (.iload_n 1, 1) := by decide +kernel
theorem dX11_begins_2 : decode cX11_begins 2 = .ok (.invokevirtual 162, 3) := by decide +kernel
theorem dX11_begins_5 : decode cX11_begins 5 = .ok (.iload_n 2, 1) := by decide +kernel
theorem dX11_begins_6 : decode cX11_begins 6 = .ok (.ifCond .ge 13, 3) := by decide +kernel
theorem dX11_begins_9 : decode cX11_begins 9 = .ok (.new 107, 3) := by decide +kernel
theorem dX11_begins_12 : decode cX11_begins 12 = .ok (.dup, 1) := by decide +kernel
theorem dX11_begins_13 : decode cX11_begins 13 = .ok (.ldc 179, 2) := by decide +kernel
theorem dX11_begins_15 : decode cX11_begins 15 = .ok (.invokespecial 111, 3) := by decide +kernel
theorem dX11_begins_18 : decode cX11_begins 18 = .ok (.athrow, 1) := by decide +kernel
theorem dX11_begins_19 : decode cX11_begins 19 = .ok (.aload_n 0, 1) := by decide +kernel
theorem dX11_begins_20 : decode cX11_begins 20 = .ok (.getfield 30, 3) := by decide +kernel
theorem dX11_begins_23 : decode cX11_begins 23 = .ok (.iload_n 1, 1) := by decide +kernel
theorem dX11_begins_24 : decode cX11_begins 24 = .ok (.iload_n 2, 1) := by decide +kernel
theorem dX11_begins_25 : decode cX11_begins 25 = .ok (.invokevirtual 181, 3) := by decide +kernel
theorem dX11_begins_28 : decode cX11_begins 28 = .ok (.ireturn, 1) := by decide +kernel
theorem dX11_askChimney_0 : decode cX11_askChimney 0 = .ok (.iload_n 1, 1) := by decide +kernel
theorem dX11_askChimney_1 : decode cX11_askChimney 1 = .ok (.ifCond .lt 14, 3) := by decide +kernel
theorem dX11_askChimney_4 : decode cX11_askChimney 4 = .ok (.iload_n 1, 1) := by decide +kernel
theorem dX11_askChimney_5 : decode cX11_askChimney 5 = .ok (.aload_n 0, 1) := by decide +kernel
theorem dX11_askChimney_6 : decode cX11_askChimney 6 = .ok (.getfield 30, 3) := by decide +kernel
theorem dX11_askChimney_9 : decode cX11_askChimney 9 = .ok (.getfield 136, 3) := by decide +kernel
theorem dX11_askChimney_12 : decode cX11_askChimney 12 = .ok (.if_icmp .lt 13, 3) := by decide +kernel
theorem dX11_askChimney_15 : decode cX11_askChimney 15 = .ok (.new 157, 3) := by decide +kernel
theorem dX11_askChimney_18 : decode cX11_askChimney 18 = .ok (.dup, 1) := by decide +kernel
theorem dX11_askChimney_19 : decode cX11_askChimney 19 = .ok (.ldc 184, 2) := by decide +kernel
theorem dX11_askChimney_21 : decode cX11_askChimney 21 = .ok (.invokespecial 161, 3) := by decide +kernel
theorem dX11_askChimney_24 : decode cX11_askChimney 24 = .ok (.athrow, 1) := by decide +kernel
theorem dX11_askChimney_25 : decode cX11_askChimney 25 = .ok (.return_, 1) := by decide +kernel
theorem dX11_askLetter_0 : decode cX11_askLetter 0 = .ok (.iload_n 1, 1) := by decide +kernel
theorem dX11_askLetter_1 : decode cX11_askLetter 1 = .ok (.ifCond .lt 14, 3) := by decide +kernel
theorem dX11_askLetter_4 : decode cX11_askLetter 4 = .ok (.iload_n 1, 1) := by decide +kernel
theorem dX11_askLetter_5 : decode cX11_askLetter 5 = .ok (.aload_n 0, 1) := by decide +kernel
theorem dX11_askLetter_6 : decode cX11_askLetter 6 = .ok (.getfield 30, 3) := by decide +kernel
theorem dX11_askLetter_9 : decode cX11_askLetter 9 = .ok (.getfield 139, 3) := by decide +kernel
theorem dX11_askLetter_12 : decode cX11_askLetter 12 = .ok (.if_icmp .lt 13, 3) := by decide +kernel
theorem dX11_askLetter_15 : decode cX11_askLetter 15 = .ok (.new 157, 3) := by decide +kernel
theorem dX11_askLetter_18 : decode cX11_askLetter 18 = .ok (.dup, 1) := by decide +kernel
theorem dX11_askLetter_19 : decode cX11_askLetter 19 = .ok (.ldc 186, 2) := by decide +kernel
theorem dX11_askLetter_21 : decode cX11_askLetter 21 = .ok (.invokespecial 161, 3) := by decide +kernel
theorem dX11_askLetter_24 : decode cX11_askLetter 24 = .ok (.athrow, 1) := by decide +kernel
theorem dX11_askLetter_25 : decode cX11_askLetter 25 = .ok (.return_, 1) := by decide +kernel
theorem dX11_askWhat_0 : decode cX11_askWhat 0 = .ok (.iload_n 0, 1) := by decide +kernel
theorem dX11_askWhat_1 : decode cX11_askWhat 1 = .ok (.ifCond .lt 8, 3) := by decide +kernel
theorem dX11_askWhat_4 : decode cX11_askWhat 4 = .ok (.iload_n 0, 1) := by decide +kernel
theorem dX11_askWhat_5 : decode cX11_askWhat 5 = .ok (.iload_n 1, 1) := by decide +kernel
theorem dX11_askWhat_6 : decode cX11_askWhat 6 = .ok (.if_icmp .lt 13, 3) := by decide +kernel
theorem dX11_askWhat_9 : decode cX11_askWhat 9 = .ok (.new 157, 3) := by decide +kernel
theorem dX11_askWhat_12 : decode cX11_askWhat 12 = .ok (.dup, 1) := by decide +kernel
theorem dX11_askWhat_13 : decode cX11_askWhat 13 = .ok (.ldc 188, 2) := by decide +kernel
theorem dX11_askWhat_15 : decode cX11_askWhat 15 = .ok (.invokespecial 161, 3) := by decide +kernel
theorem dX11_askWhat_18 : decode cX11_askWhat 18 = .ok (.athrow, 1) := by decide +kernel
theorem dX11_askWhat_19 : decode cX11_askWhat 19 = .ok (.return_, 1) := by decide +kernel
theorem dX11_askOwner_0 : decode cX11_askOwner 0 = .ok (.iload_n 0, 1) := by decide +kernel
theorem dX11_askOwner_1 : decode cX11_askOwner 1 = .ok (.ifCond .lt 9, 3) := by decide +kernel
theorem dX11_askOwner_4 : decode cX11_askOwner 4 = .ok (.iload_n 0, 1) := by decide +kernel
theorem dX11_askOwner_5 : decode cX11_askOwner 5 = .ok (.bipush 6, 2) := by decide +kernel
theorem dX11_askOwner_7 : decode cX11_askOwner 7 = .ok (.if_icmp .lt 13, 3) := by decide +kernel
theorem dX11_askOwner_10 : decode cX11_askOwner 10 = .ok (.new 157, 3) := by decide +kernel
theorem dX11_askOwner_13 : decode cX11_askOwner 13 = .ok (.dup, 1) := by decide +kernel
theorem dX11_askOwner_14 : decode cX11_askOwner 14 = .ok (.ldc 190, 2) := by decide +kernel
theorem dX11_askOwner_16 : decode cX11_askOwner 16 = .ok (.invokespecial 161, 3) := by decide +kernel
theorem dX11_askOwner_19 : decode cX11_askOwner 19 = .ok (.athrow, 1) := by decide +kernel
theorem dX11_askOwner_20 : decode cX11_askOwner 20 = .ok (.return_, 1) := by decide +kernel
theorem dX11_between_0 : decode cX11_between 0 = .ok (.iload_n 1, 1) := by decide +kernel
theorem dX11_between_1 : decode cX11_between 1 = .ok (.iload_n 0, 1) := by decide +kernel
theorem dX11_between_2 : decode cX11_between 2 = .ok (.if_icmp .lt 12, 3) := by decide +kernel
theorem dX11_between_5 : decode cX11_between 5 = .ok (.iload_n 1, 1) := by decide +kernel
theorem dX11_between_6 : decode cX11_between 6 = .ok (.iload_n 2, 1) := by decide +kernel
theorem dX11_between_7 : decode cX11_between 7 = .ok (.if_icmp .gt 7, 3) := by decide +kernel
theorem dX11_between_10 : decode cX11_between 10 = .ok (.iconst 1, 1) := by decide +kernel
theorem dX11_between_11 : decode cX11_between 11 = .ok (.goto 4, 3) := by decide +kernel
theorem dX11_between_14 : decode cX11_between 14 = .ok (.iconst 0, 1) := by decide +kernel
theorem dX11_between_15 : decode cX11_between 15 = .ok (.ireturn, 1) := by decide +kernel
theorem dX11_plan_0 : decode cX11_plan 0 = .ok (.aload_n 0, 1) := by decide +kernel
theorem dX11_plan_1 : decode cX11_plan 1 = .ok (.getfield 40, 3) := by decide +kernel
theorem dX11_plan_4 : decode cX11_plan 4 = .ok (.aload_n 0, 1) := by decide +kernel
theorem dX11_plan_5 : decode cX11_plan 5 = .ok (.getfield 30, 3) := by decide +kernel
theorem dX11_plan_8 : decode cX11_plan 8 = .ok (.invokevirtual 192, 3) := by decide +kernel
theorem dX11_plan_11 : decode cX11_plan 11 = .ok (.ireturn, 1) := by decide +kernel
theorem dX11_planned_0 : decode cX11_planned 0 = .ok (.iload_n 2, 1) := by decide +kernel
theorem dX11_planned_1 : decode cX11_planned 1 = .ok (.iconst 2, 1) := by decide +kernel
theorem dX11_planned_2 : decode cX11_planned 2 = .ok (.invokestatic 165, 3) := by decide +kernel
theorem dX11_planned_5 : decode cX11_planned 5 = .ok (.aload_n 0, 1) := by decide +kernel
theorem dX11_planned_6 : decode cX11_planned 6 = .ok (.getfield 40, 3) := by decide +kernel
theorem dX11_planned_9 : decode cX11_planned 9 = .ok (.getfield 196, 3) := by decide +kernel
theorem dX11_planned_12 : decode cX11_planned 12 = .ok (.ifCond .eq 19, 3) := by decide +kernel
theorem dX11_planned_15 : decode cX11_planned 15 = .ok (.iload_n 1, 1) := by decide +kernel
theorem dX11_planned_16 : decode cX11_planned 16 = .ok (.iconst (-1), 1) := by decide +kernel
theorem dX11_planned_17 : decode cX11_planned 17 = .ok (.if_icmp .lt 14, 3) := by decide +kernel
theorem dX11_planned_20 : decode cX11_planned 20 = .ok (.iload_n 1, 1) := by decide +kernel
theorem dX11_planned_21 : decode cX11_planned 21 = .ok (.aload_n 0, 1) := by decide +kernel
theorem dX11_planned_22 : decode cX11_planned 22 = .ok (.getfield 40, 3) := by decide +kernel
theorem dX11_planned_25 : decode cX11_planned 25 = .ok (.getfield 199, 3) := by decide +kernel
theorem dX11_planned_28 : decode cX11_planned 28 = .ok (.if_icmp .lt 13, 3) := by decide +kernel
theorem dX11_planned_31 : decode cX11_planned 31 = .ok (.new 157, 3) := by decide +kernel
theorem dX11_planned_34 : decode cX11_planned 34 = .ok (.dup, 1) := by decide +kernel
theorem dX11_planned_35 : decode cX11_planned 35 = .ok (.ldc 202, 2) := by decide +kernel
theorem dX11_planned_37 : decode cX11_planned 37 = .ok (.invokespecial 161, 3) := by decide +kernel
theorem dX11_planned_40 : decode cX11_planned 40 = .ok (.athrow, 1) := by decide +kernel
theorem dX11_planned_41 : decode cX11_planned 41 = .ok (.iload_n 1, 1) := by decide +kernel
theorem dX11_planned_42 : decode cX11_planned 42 = .ok (.iconst (-1), 1) := by decide +kernel
theorem dX11_planned_43 : decode cX11_planned 43 = .ok (.if_icmp .ne 25, 3) := by decide +kernel
theorem dX11_planned_46 : decode cX11_planned 46 = .ok (.iload_n 2, 1) := by decide +kernel
theorem dX11_planned_47 : decode cX11_planned 47 = .ok (.ifCond .ne 13, 3) := by decide +kernel
theorem dX11_planned_50 : decode cX11_planned 50 = .ok (.aload_n 0, 1) := by decide +kernel
theorem dX11_planned_51 : decode cX11_planned 51 = .ok (.getfield 40, 3) := by decide +kernel
theorem dX11_planned_54 : decode cX11_planned 54 = .ok (.getfield 199, 3) := by decide +kernel
theorem dX11_planned_57 : decode cX11_planned 57 = .ok (.goto 10, 3) := by decide +kernel
theorem dX11_planned_60 : decode cX11_planned 60 = .ok (.aload_n 0, 1) := by decide +kernel
theorem dX11_planned_61 : decode cX11_planned 61 = .ok (.getfield 40, 3) := by decide +kernel
theorem dX11_planned_64 : decode cX11_planned 64 = .ok (.getfield 204, 3) := by decide +kernel
theorem dX11_planned_67 : decode cX11_planned 67 = .ok (.ireturn, 1) := by decide +kernel
theorem dX11_planned_68 : decode cX11_planned 68 = .ok (.iload_n 2, 1) := by decide +kernel
theorem dX11_planned_69 : decode cX11_planned 69 = .ok (.ifCond .ne 15, 3) := by decide +kernel
theorem dX11_planned_72 : decode cX11_planned 72 = .ok (.aload_n 0, 1) := by decide +kernel
theorem dX11_planned_73 : decode cX11_planned 73 = .ok (.getfield 40, 3) := by decide +kernel
theorem dX11_planned_76 : decode cX11_planned 76 = .ok (.getfield 207, 3) := by decide +kernel
theorem dX11_planned_79 : decode cX11_planned 79 = .ok (.iload_n 1, 1) := by decide +kernel
theorem dX11_planned_80 : decode cX11_planned 80 = .ok (.iaload, 1) := by decide +kernel
theorem dX11_planned_81 : decode cX11_planned 81 = .ok (.goto 12, 3) := by decide +kernel
theorem dX11_planned_84 : decode cX11_planned 84 = .ok (.aload_n 0, 1) := by decide +kernel
theorem dX11_planned_85 : decode cX11_planned 85 = .ok (.getfield 40, 3) := by decide +kernel
theorem dX11_planned_88 : decode cX11_planned 88 = .ok (.getfield 210, 3) := by decide +kernel
theorem dX11_planned_91 : decode cX11_planned 91 = .ok (.iload_n 1, 1) := by decide +kernel
theorem dX11_planned_92 : decode cX11_planned 92 = .ok (.iaload, 1) := by decide +kernel
theorem dX11_planned_93 : decode cX11_planned 93 = .ok (.ireturn, 1) := by decide +kernel
theorem dX11_even_0 : decode cX11_even 0 = .ok (.aload_n 0, 1) := by decide +kernel
theorem dX11_even_1 : decode cX11_even 1 = .ok (.getfield 40, 3) := by decide +kernel
theorem dX11_even_4 : decode cX11_even 4 = .ok (.getfield 196, 3) := by decide +kernel
theorem dX11_even_7 : decode cX11_even 7 = .ok (.ifCond .eq 12, 3) := by decide +kernel
theorem dX11_even_10 : decode cX11_even 10 = .ok (.iconst 2, 1) := by decide +kernel
theorem dX11_even_11 : decode cX11_even 11 = .ok (.iload_n 1, 1) := by decide +kernel
theorem dX11_even_12 : decode cX11_even 12 = .ok (.iconst 4, 1) := by decide +kernel
theorem dX11_even_13 : decode cX11_even 13 = .ok (.invokestatic 213, 3) := by decide +kernel
theorem dX11_even_16 : decode cX11_even 16 = .ok (.ifCond .ne 5, 3) := by decide +kernel
theorem dX11_even_19 : decode cX11_even 19 = .ok (.iconst (-1), 1) := by decide +kernel
theorem dX11_even_20 : decode cX11_even 20 = .ok (.ireturn, 1) := by decide +kernel
theorem dX11_even_21 : decode cX11_even 21 = .ok (.aload_n 0, 1) := by decide +kernel
theorem dX11_even_22 : decode cX11_even 22 = .ok (.getfield 40, 3) := by decide +kernel
theorem dX11_even_25 : decode cX11_even 25 = .ok (.aload_n 0, 1) := by decide +kernel
theorem dX11_even_26 : decode cX11_even 26 = .ok (.getfield 30, 3) := by decide +kernel
theorem dX11_even_29 : decode cX11_even 29 = .ok (.iload_n 1, 1) := by decide +kernel
theorem dX11_even_30 : decode cX11_even 30 = .ok (.invokevirtual 217, 3) := by decide +kernel
theorem dX11_even_33 : decode cX11_even 33 = .ok (.ireturn, 1) := by decide +kernel
theorem dX11_gang_0 : decode cX11_gang 0 = .ok (.aload_n 0, 1) := by decide +kernel
theorem dX11_gang_1 : decode cX11_gang 1 = .ok (.getfield 40, 3) := by decide +kernel
theorem dX11_gang_4 : decode cX11_gang 4 = .ok (.getfield 221, 3) := by decide +kernel
theorem dX11_gang_7 : decode cX11_gang 7 = .ok (.ifCond .eq 18, 3) := by decide +kernel
theorem dX11_gang_10 : decode cX11_gang 10 = .ok (.iload_n 1, 1) := by decide +kernel
theorem dX11_gang_11 : decode cX11_gang 11 = .ok (.ifCond .lt 14, 3) := by decide +kernel
theorem dX11_gang_14 : decode cX11_gang 14 = .ok (.iload_n 1, 1) := by decide +kernel
theorem dX11_gang_15 : decode cX11_gang 15 = .ok (.aload_n 0, 1) := by decide +kernel
theorem dX11_gang_16 : decode cX11_gang 16 = .ok (.getfield 40, 3) := by decide +kernel
theorem dX11_gang_19 : decode cX11_gang 19 = .ok (.getfield 199, 3) := by decide +kernel
theorem dX11_gang_22 : decode cX11_gang 22 = .ok (.if_icmp .lt 13, 3) := by decide +kernel
theorem dX11_gang_25 : decode cX11_gang 25 = .ok (.new 157, 3) := by decide +kernel
theorem dX11_gang_28 : decode cX11_gang 28 = .ok (.dup, 1) := by decide +kernel
theorem dX11_gang_29 : decode cX11_gang 29 = .ok (.ldc 224, 2) := by decide +kernel
theorem dX11_gang_31 : decode cX11_gang 31 = .ok (.invokespecial 161, 3) := by decide +kernel
theorem dX11_gang_34 : decode cX11_gang 34 = .ok (.athrow, 1) := by decide +kernel
theorem dX11_gang_35 : decode cX11_gang 35 = .ok (.aload_n 0, 1) := by decide +kernel
theorem dX11_gang_36 : decode cX11_gang 36 = .ok (.getfield 40, 3) := by decide +kernel
theorem dX11_gang_39 : decode cX11_gang 39 = .ok (.getfield 226, 3) := by decide +kernel
theorem dX11_gang_42 : decode cX11_gang 42 = .ok (.iload_n 1, 1) := by decide +kernel
theorem dX11_gang_43 : decode cX11_gang 43 = .ok (.iaload, 1) := by decide +kernel
theorem dX11_gang_44 : decode cX11_gang 44 = .ok (.ireturn, 1) := by decide +kernel
theorem dX11_storm_0 : decode cX11_storm 0 = .ok (.iconst 0, 1) := by decide +kernel
theorem dX11_storm_1 : decode cX11_storm 1 = .ok (.iload_n 1, 1) := by decide +kernel
theorem dX11_storm_2 : decode cX11_storm 2 = .ok (.bipush 29, 2) := by decide +kernel
theorem dX11_storm_4 : decode cX11_storm 4 = .ok (.invokestatic 213, 3) := by decide +kernel
theorem dX11_storm_7 : decode cX11_storm 7 = .ok (.ifCond .eq 13, 3) := by decide +kernel
theorem dX11_storm_10 : decode cX11_storm 10 = .ok (.iconst 0, 1) := by decide +kernel
theorem dX11_storm_11 : decode cX11_storm 11 = .ok (.iload_n 2, 1) := by decide +kernel
theorem dX11_storm_12 : decode cX11_storm 12 = .ok (.bipush 100, 2) := by decide +kernel
theorem dX11_storm_14 : decode cX11_storm 14 = .ok (.invokestatic 213, 3) := by decide +kernel
theorem dX11_storm_17 : decode cX11_storm 17 = .ok (.ifCond .ne 5, 3) := by decide +kernel
theorem dX11_storm_20 : decode cX11_storm 20 = .ok (.iconst 0, 1) := by decide +kernel
theorem dX11_storm_21 : decode cX11_storm 21 = .ok (.ireturn, 1) := by decide +kernel
theorem dX11_storm_22 : decode cX11_storm 22 = .ok (.aload_n 0, 1) := by decide +kernel
theorem dX11_storm_23 : decode cX11_storm 23 = .ok (.getfield 44, 3) := by decide +kernel
theorem dX11_storm_26 : decode cX11_storm 26 = .ok (.iload_n 1, 1) := by decide +kernel
theorem dX11_storm_27 : decode cX11_storm 27 = .ok (.iload_n 2, 1) := by decide +kernel
theorem dX11_storm_28 : decode cX11_storm 28 = .ok (.iastore, 1) := by decide +kernel
theorem dX11_storm_29 : decode cX11_storm 29 = .ok (.iconst 1, 1) := by decide +kernel
theorem dX11_storm_30 : decode cX11_storm 30 = .ok (.ireturn, 1) := by decide +kernel
theorem dX11_odds_0 : decode cX11_odds 0 = .ok (.iload_n 1, 1) := by decide +kernel
theorem dX11_odds_1 : decode cX11_odds 1 = .ok (.bipush 102, 2) := by decide +kernel
theorem dX11_odds_3 : decode cX11_odds 3 = .ok (.invokestatic 165, 3) := by decide +kernel
theorem dX11_odds_6 : decode cX11_odds 6 = .ok (.aload_n 0, 1) := by decide +kernel
theorem dX11_odds_7 : decode cX11_odds 7 = .ok (.getfield 40, 3) := by decide +kernel
theorem dX11_odds_10 : decode cX11_odds 10 = .ok (.getfield 196, 3) := by decide +kernel
theorem dX11_odds_13 : decode cX11_odds 13 = .ok (.ifCond .ne 5, 3) := by decide +kernel
theorem dX11_odds_16 : decode cX11_odds 16 = .ok (.iconst (-1), 1) := by decide +kernel
theorem dX11_odds_17 : decode cX11_odds 17 = .ok (.ireturn, 1) := by decide +kernel
theorem dX11_odds_18 : decode cX11_odds 18 = .ok (.iload_n 1, 1) := by decide +kernel
theorem dX11_odds_19 : decode cX11_odds 19 = .ok (.ifCond .ne 21, 3) := by decide +kernel
theorem dX11_odds_22 : decode cX11_odds 22 = .ok (.aload_n 0, 1) := by decide +kernel
theorem dX11_odds_23 : decode cX11_odds 23 = .ok (.getfield 40, 3) := by decide +kernel
theorem dX11_odds_26 : decode cX11_odds 26 = .ok (.aload_n 0, 1) := by decide +kernel
theorem dX11_odds_27 : decode cX11_odds 27 = .ok (.getfield 30, 3) := by decide +kernel
theorem dX11_odds_30 : decode cX11_odds 30 = .ok (.aload_n 0, 1) := by decide +kernel
theorem dX11_odds_31 : decode cX11_odds 31 = .ok (.getfield 44, 3) := by decide +kernel
theorem dX11_odds_34 : decode cX11_odds 34 = .ok (.invokevirtual 229, 3) := by decide +kernel
theorem dX11_odds_37 : decode cX11_odds 37 = .ok (.goto 21, 3) := by decide +kernel
theorem dX11_odds_40 : decode cX11_odds 40 = .ok (.aload_n 0, 1) := by decide +kernel
theorem dX11_odds_41 : decode cX11_odds 41 = .ok (.getfield 40, 3) := by decide +kernel
theorem dX11_odds_44 : decode cX11_odds 44 = .ok (.aload_n 0, 1) := by decide +kernel
theorem dX11_odds_45 : decode cX11_odds 45 = .ok (.getfield 30, 3) := by decide +kernel
theorem dX11_odds_48 : decode cX11_odds 48 = .ok (.aload_n 0, 1) := by decide +kernel
theorem dX11_odds_49 : decode cX11_odds 49 = .ok (.iload_n 1, 1) := by decide +kernel
theorem dX11_odds_50 : decode cX11_odds 50 = .ok (.iconst 1, 1) := by decide +kernel
theorem dX11_odds_51 : decode cX11_odds 51 = .ok (.isub, 1) := by decide +kernel
theorem dX11_odds_52 : decode cX11_odds 52 = .ok (.invokevirtual 233, 3) := by decide +kernel
theorem dX11_odds_55 : decode cX11_odds 55 = .ok (.invokevirtual 237, 3) := by decide +kernel
theorem dX11_odds_58 : decode cX11_odds 58 = .ok (.ireturn, 1) := by decide +kernel
theorem dX11_firstStorm_0 : decode cX11_firstStorm 0 = .ok (.iconst 0, 1) := by decide +kernel
theorem dX11_firstStorm_1 : decode cX11_firstStorm 1 = .ok (.istore_n 2, 1) := by decide +kernel
theorem dX11_firstStorm_2 : decode cX11_firstStorm 2 = .ok (.iload_n 2, 1) := by decide +kernel
theorem dX11_firstStorm_3 : decode cX11_firstStorm 3 = .ok (.bipush 30, 2) := by decide +kernel
theorem dX11_firstStorm_5 : decode cX11_firstStorm 5 = .ok (.if_icmp .ge 21, 3) := by decide +kernel
theorem dX11_firstStorm_8 : decode cX11_firstStorm 8 = .ok (.aload_n 0, 1) := by decide +kernel
theorem dX11_firstStorm_9 : decode cX11_firstStorm 9 = .ok (.getfield 44, 3) := by decide +kernel
theorem dX11_firstStorm_12 : decode cX11_firstStorm 12 = .ok (.iload_n 2, 1) := by decide +kernel
theorem dX11_firstStorm_13 : decode cX11_firstStorm 13 = .ok (.iaload, 1) := by decide +kernel
theorem dX11_firstStorm_14 : decode cX11_firstStorm 14 = .ok (.iload_n 1, 1) := by decide +kernel
theorem dX11_firstStorm_15 : decode cX11_firstStorm 15 = .ok (.if_icmp .le 5, 3) := by decide +kernel
theorem dX11_firstStorm_18 : decode cX11_firstStorm 18 = .ok (.iload_n 2, 1) := by decide +kernel
theorem dX11_firstStorm_19 : decode cX11_firstStorm 19 = .ok (.ireturn, 1) := by decide +kernel
theorem dX11_firstStorm_20 : decode cX11_firstStorm 20 = .ok (.iinc 2 1, 3) := by decide +kernel
theorem dX11_firstStorm_23 : decode cX11_firstStorm 23 = .ok (.goto (-21), 3) := by decide +kernel
theorem dX11_firstStorm_26 : decode cX11_firstStorm 26 = .ok (.bipush 30, 2) := by decide +kernel
theorem dX11_firstStorm_28 : decode cX11_firstStorm 28 = .ok (.ireturn, 1) := by decide +kernel
theorem dX11_plumb_0 : decode cX11_plumb 0 = .ok (.aload_n 0, 1) := by decide +kernel
theorem dX11_plumb_1 : decode cX11_plumb 1 = .ok (.iload_n 1, 1) := by decide +kernel
theorem dX11_plumb_2 : decode cX11_plumb 2 = .ok (.invokevirtual 173, 3) := by decide +kernel
theorem dX11_plumb_5 : decode cX11_plumb 5 = .ok (.iconst 0, 1) := by decide +kernel
theorem dX11_plumb_6 : decode cX11_plumb 6 = .ok (.iload_n 2, 1) := by decide +kernel
theorem dX11_plumb_7 : decode cX11_plumb 7 = .ok (.sipush 300, 3) := by decide +kernel
theorem dX11_plumb_10 : decode cX11_plumb 10 = .ok (.invokestatic 213, 3) := by decide +kernel
theorem dX11_plumb_13 : decode cX11_plumb 13 = .ok (.ifCond .eq 16, 3) := by decide +kernel
theorem dX11_plumb_16 : decode cX11_plumb 16 = .ok (.sipush (-3000), 3) := by decide +kernel
theorem dX11_plumb_19 : decode cX11_plumb 19 = .ok (.iload_n 3, 1) := by decide +kernel
theorem dX11_plumb_20 : decode cX11_plumb 20 = .ok (.sipush 3000, 3) := by decide +kernel
theorem dX11_plumb_23 : decode cX11_plumb 23 = .ok (.invokestatic 213, 3) := by decide +kernel
theorem dX11_plumb_26 : decode cX11_plumb 26 = .ok (.ifCond .ne 5, 3) := by decide +kernel
theorem dX11_plumb_29 : decode cX11_plumb 29 = .ok (.iconst 0, 1) := by decide +kernel
theorem dX11_plumb_30 : decode cX11_plumb 30 = .ok (.ireturn, 1) := by decide +kernel
theorem dX11_plumb_31 : decode cX11_plumb 31 = .ok (.aload_n 0, 1) := by decide +kernel
theorem dX11_plumb_32 : decode cX11_plumb 32 = .ok (.getfield 50, 3) := by decide +kernel
theorem dX11_plumb_35 : decode cX11_plumb 35 = .ok (.iload_n 1, 1) := by decide +kernel
theorem dX11_plumb_36 : decode cX11_plumb 36 = .ok (.iload_n 2, 1) := by decide +kernel
theorem dX11_plumb_37 : decode cX11_plumb 37 = .ok (.iload_n 3, 1) := by decide +kernel
theorem dX11_plumb_38 : decode cX11_plumb 38 = .ok (.invokevirtual 240, 3) := by decide +kernel
theorem dX11_plumb_41 : decode cX11_plumb 41 = .ok (.ireturn, 1) := by decide +kernel
theorem dX11_doubt_0 : decode cX11_doubt 0 = .ok (.aload_n 0, 1) := by decide +kernel
theorem dX11_doubt_1 : decode cX11_doubt 1 = .ok (.iload_n 1, 1) := by decide +kernel
theorem dX11_doubt_2 : decode cX11_doubt 2 = .ok (.invokevirtual 173, 3) := by decide +kernel
theorem dX11_doubt_5 : decode cX11_doubt 5 = .ok (.iconst 0, 1) := by decide +kernel
theorem dX11_doubt_6 : decode cX11_doubt 6 = .ok (.iload_n 2, 1) := by decide +kernel
theorem dX11_doubt_7 : decode cX11_doubt 7 = .ok (.sipush 500, 3) := by decide +kernel
theorem dX11_doubt_10 : decode cX11_doubt 10 = .ok (.invokestatic 213, 3) := by decide +kernel
theorem dX11_doubt_13 : decode cX11_doubt 13 = .ok (.ifCond .ne 5, 3) := by decide +kernel
theorem dX11_doubt_16 : decode cX11_doubt 16 = .ok (.iconst 0, 1) := by decide +kernel
theorem dX11_doubt_17 : decode cX11_doubt 17 = .ok (.ireturn, 1) := by decide +kernel
theorem dX11_doubt_18 : decode cX11_doubt 18 = .ok (.aload_n 0, 1) := by decide +kernel
theorem dX11_doubt_19 : decode cX11_doubt 19 = .ok (.getfield 50, 3) := by decide +kernel
theorem dX11_doubt_22 : decode cX11_doubt 22 = .ok (.getfield 243, 3) := by decide +kernel
theorem dX11_doubt_25 : decode cX11_doubt 25 = .ok (.iload_n 1, 1) := by decide +kernel
theorem dX11_doubt_26 : decode cX11_doubt 26 = .ok (.iload_n 2, 1) := by decide +kernel
theorem dX11_doubt_27 : decode cX11_doubt 27 = .ok (.iastore, 1) := by decide +kernel
theorem dX11_doubt_28 : decode cX11_doubt 28 = .ok (.iconst 1, 1) := by decide +kernel
theorem dX11_doubt_29 : decode cX11_doubt 29 = .ok (.ireturn, 1) := by decide +kernel
theorem dX11_lean_0 : decode cX11_lean 0 = .ok (.aload_n 0, 1) := by decide +kernel
theorem dX11_lean_1 : decode cX11_lean 1 = .ok (.iload_n 1, 1) := by decide +kernel
theorem dX11_lean_2 : decode cX11_lean 2 = .ok (.invokevirtual 173, 3) := by decide +kernel
theorem dX11_lean_5 : decode cX11_lean 5 = .ok (.iload_n 3, 1) := by decide +kernel
theorem dX11_lean_6 : decode cX11_lean 6 = .ok (.iconst 2, 1) := by decide +kernel
theorem dX11_lean_7 : decode cX11_lean 7 = .ok (.invokestatic 165, 3) := by decide +kernel
theorem dX11_lean_10 : decode cX11_lean 10 = .ok (.iconst 0, 1) := by decide +kernel
theorem dX11_lean_11 : decode cX11_lean 11 = .ok (.iload_n 2, 1) := by decide +kernel
theorem dX11_lean_12 : decode cX11_lean 12 = .ok (.sipush 500, 3) := by decide +kernel
theorem dX11_lean_15 : decode cX11_lean 15 = .ok (.invokestatic 213, 3) := by decide +kernel
theorem dX11_lean_18 : decode cX11_lean 18 = .ok (.ifCond .eq 14, 3) := by decide +kernel
theorem dX11_lean_21 : decode cX11_lean 21 = .ok (.aload_n 0, 1) := by decide +kernel
theorem dX11_lean_22 : decode cX11_lean 22 = .ok (.getfield 50, 3) := by decide +kernel
theorem dX11_lean_25 : decode cX11_lean 25 = .ok (.iload_n 1, 1) := by decide +kernel
theorem dX11_lean_26 : decode cX11_lean 26 = .ok (.invokevirtual 246, 3) := by decide +kernel
theorem dX11_lean_29 : decode cX11_lean 29 = .ok (.ifCond .ne 13, 3) := by decide +kernel
theorem dX11_lean_32 : decode cX11_lean 32 = .ok (.new 107, 3) := by decide +kernel
theorem dX11_lean_35 : decode cX11_lean 35 = .ok (.dup, 1) := by decide +kernel
theorem dX11_lean_36 : decode cX11_lean 36 = .ok (.ldc 250, 2) := by decide +kernel
theorem dX11_lean_38 : decode cX11_lean 38 = .ok (.invokespecial 111, 3) := by decide +kernel
theorem dX11_lean_41 : decode cX11_lean 41 = .ok (.athrow, 1) := by decide +kernel
theorem dX11_lean_42 : decode cX11_lean 42 = .ok (.iload_n 3, 1) := by decide +kernel
theorem dX11_lean_43 : decode cX11_lean 43 = .ok (.ifCond .ne 15, 3) := by decide +kernel
theorem dX11_lean_46 : decode cX11_lean 46 = .ok (.aload_n 0, 1) := by decide +kernel
theorem dX11_lean_47 : decode cX11_lean 47 = .ok (.getfield 50, 3) := by decide +kernel
theorem dX11_lean_50 : decode cX11_lean 50 = .ok (.iload_n 1, 1) := by decide +kernel
theorem dX11_lean_51 : decode cX11_lean 51 = .ok (.iload_n 2, 1) := by decide +kernel
theorem dX11_lean_52 : decode cX11_lean 52 = .ok (.invokevirtual 252, 3) := by decide +kernel
theorem dX11_lean_55 : decode cX11_lean 55 = .ok (.goto 12, 3) := by decide +kernel
theorem dX11_lean_58 : decode cX11_lean 58 = .ok (.aload_n 0, 1) := by decide +kernel
theorem dX11_lean_59 : decode cX11_lean 59 = .ok (.getfield 50, 3) := by decide +kernel
theorem dX11_lean_62 : decode cX11_lean 62 = .ok (.iload_n 1, 1) := by decide +kernel
theorem dX11_lean_63 : decode cX11_lean 63 = .ok (.iload_n 2, 1) := by decide +kernel
theorem dX11_lean_64 : decode cX11_lean 64 = .ok (.invokevirtual 255, 3) := by decide +kernel
theorem dX11_lean_67 : decode cX11_lean 67 = .ok (.ireturn, 1) := by decide +kernel
theorem dX11_limit_0 : decode cX11_limit 0 = .ok (.aload_n 0, 1) := by decide +kernel
theorem dX11_limit_1 : decode cX11_limit 1 = .ok (.iload_n 1, 1) := by decide +kernel
theorem dX11_limit_2 : decode cX11_limit 2 = .ok (.invokevirtual 173, 3) := by decide +kernel
theorem dX11_limit_5 : decode cX11_limit 5 = .ok (.iload_n 3, 1) := by decide +kernel
theorem dX11_limit_6 : decode cX11_limit 6 = .ok (.iconst 2, 1) := by decide +kernel
theorem dX11_limit_7 : decode cX11_limit 7 = .ok (.invokestatic 165, 3) := by decide +kernel
theorem dX11_limit_10 : decode cX11_limit 10 = .ok (.aload_n 0, 1) := by decide +kernel
theorem dX11_limit_11 : decode cX11_limit 11 = .ok (.getfield 50, 3) := by decide +kernel
theorem dX11_limit_14 : decode cX11_limit 14 = .ok (.iload_n 1, 1) := by decide +kernel
theorem dX11_limit_15 : decode cX11_limit 15 = .ok (.invokevirtual 246, 3) := by decide +kernel
theorem dX11_limit_18 : decode cX11_limit 18 = .ok (.ifCond .ne 5, 3) := by decide +kernel
theorem dX11_limit_21 : decode cX11_limit 21 = .ok (.iconst (-1), 1) := by decide +kernel
theorem dX11_limit_22 : decode cX11_limit 22 = .ok (.ireturn, 1) := by decide +kernel
theorem dX11_limit_23 : decode cX11_limit 23 = .ok (.aload_n 0, 1) := by decide +kernel
theorem dX11_limit_24 : decode cX11_limit 24 = .ok (.getfield 50, 3) := by decide +kernel
theorem dX11_limit_27 : decode cX11_limit 27 = .ok (.iload_n 1, 1) := by decide +kernel
theorem dX11_limit_28 : decode cX11_limit 28 = .ok (.invokevirtual 258, 3) := by decide +kernel
theorem dX11_limit_31 : decode cX11_limit 31 = .ok (.istore 4, 2) := by decide +kernel
theorem dX11_limit_33 : decode cX11_limit 33 = .ok (.iload 4, 2) := by decide +kernel
theorem dX11_limit_35 : decode cX11_limit 35 = .ok (.sipush 500, 3) := by decide +kernel
theorem dX11_limit_38 : decode cX11_limit 38 = .ok (.if_icmp .gt 47, 3) := by decide +kernel
theorem dX11_limit_41 : decode cX11_limit 41 = .ok (.iload_n 3, 1) := by decide +kernel
theorem dX11_limit_42 : decode cX11_limit 42 = .ok (.ifCond .ne 16, 3) := by decide +kernel
theorem dX11_limit_45 : decode cX11_limit 45 = .ok (.aload_n 0, 1) := by decide +kernel
theorem dX11_limit_46 : decode cX11_limit 46 = .ok (.getfield 50, 3) := by decide +kernel
theorem dX11_limit_49 : decode cX11_limit 49 = .ok (.iload_n 1, 1) := by decide +kernel
theorem dX11_limit_50 : decode cX11_limit 50 = .ok (.iload 4, 2) := by decide +kernel
theorem dX11_limit_52 : decode cX11_limit 52 = .ok (.invokevirtual 255, 3) := by decide +kernel
theorem dX11_limit_55 : decode cX11_limit 55 = .ok (.goto 13, 3) := by decide +kernel
theorem dX11_limit_58 : decode cX11_limit 58 = .ok (.aload_n 0, 1) := by decide +kernel
theorem dX11_limit_59 : decode cX11_limit 59 = .ok (.getfield 50, 3) := by decide +kernel
theorem dX11_limit_62 : decode cX11_limit 62 = .ok (.iload_n 1, 1) := by decide +kernel
theorem dX11_limit_63 : decode cX11_limit 63 = .ok (.iload 4, 2) := by decide +kernel
theorem dX11_limit_65 : decode cX11_limit 65 = .ok (.invokevirtual 252, 3) := by decide +kernel
theorem dX11_limit_68 : decode cX11_limit 68 = .ok (.istore 5, 2) := by decide +kernel
theorem dX11_limit_70 : decode cX11_limit 70 = .ok (.iload 5, 2) := by decide +kernel
theorem dX11_limit_72 : decode cX11_limit 72 = .ok (.iload_n 2, 1) := by decide +kernel
theorem dX11_limit_73 : decode cX11_limit 73 = .ok (.if_icmp .lt 6, 3) := by decide +kernel
theorem dX11_limit_76 : decode cX11_limit 76 = .ok (.iload 4, 2) := by decide +kernel
theorem dX11_limit_78 : decode cX11_limit 78 = .ok (.ireturn, 1) := by decide +kernel
theorem dX11_limit_79 : decode cX11_limit 79 = .ok (.iinc 4 1, 3) := by decide +kernel
theorem dX11_limit_82 : decode cX11_limit 82 = .ok (.goto (-49), 3) := by decide +kernel
theorem dX11_limit_85 : decode cX11_limit 85 = .ok (.iconst (-1), 1) := by decide +kernel
theorem dX11_limit_86 : decode cX11_limit 86 = .ok (.ireturn, 1) := by decide +kernel
theorem dX11_rod_0 : decode cX11_rod 0 = .ok (.iconst 2, 1) := by decide +kernel
theorem dX11_rod_1 : decode cX11_rod 1 = .ok (.iload_n 1, 1) := by decide +kernel
theorem dX11_rod_2 : decode cX11_rod 2 = .ok (.bipush 14, 2) := by decide +kernel
theorem dX11_rod_4 : decode cX11_rod 4 = .ok (.invokestatic 213, 3) := by decide +kernel
theorem dX11_rod_7 : decode cX11_rod 7 = .ok (.ifCond .eq 28, 3) := by decide +kernel
theorem dX11_rod_10 : decode cX11_rod 10 = .ok (.iconst 0, 1) := by decide +kernel
theorem dX11_rod_11 : decode cX11_rod 11 = .ok (.iload_n 2, 1) := by decide +kernel
theorem dX11_rod_12 : decode cX11_rod 12 = .ok (.bipush 99, 2) := by decide +kernel
theorem dX11_rod_14 : decode cX11_rod 14 = .ok (.invokestatic 213, 3) := by decide +kernel
theorem dX11_rod_17 : decode cX11_rod 17 = .ok (.ifCond .eq 18, 3) := by decide +kernel
theorem dX11_rod_20 : decode cX11_rod 20 = .ok (.iconst 0, 1) := by decide +kernel
theorem dX11_rod_21 : decode cX11_rod 21 = .ok (.iload_n 3, 1) := by decide +kernel
theorem dX11_rod_22 : decode cX11_rod 22 = .ok (.bipush 99, 2) := by decide +kernel
theorem dX11_rod_24 : decode cX11_rod 24 = .ok (.invokestatic 213, 3) := by decide +kernel
theorem dX11_rod_27 : decode cX11_rod 27 = .ok (.ifCond .eq 8, 3) := by decide +kernel
theorem dX11_rod_30 : decode cX11_rod 30 = .ok (.iload_n 2, 1) := by decide +kernel
theorem dX11_rod_31 : decode cX11_rod 31 = .ok (.iload_n 3, 1) := by decide +kernel
theorem dX11_rod_32 : decode cX11_rod 32 = .ok (.if_icmp .ne 5, 3) := by decide +kernel
theorem dX11_rod_35 : decode cX11_rod 35 = .ok (.iconst 0, 1) := by decide +kernel
theorem dX11_rod_36 : decode cX11_rod 36 = .ok (.ireturn, 1) := by decide +kernel
theorem dX11_rod_37 : decode cX11_rod 37 = .ok (.aload_n 0, 1) := by decide +kernel
theorem dX11_rod_38 : decode cX11_rod 38 = .ok (.getfield 57, 3) := by decide +kernel
theorem dX11_rod_41 : decode cX11_rod 41 = .ok (.iconst 1, 1) := by decide +kernel
theorem dX11_rod_42 : decode cX11_rod 42 = .ok (.iload_n 1, 1) := by decide +kernel
theorem dX11_rod_43 : decode cX11_rod 43 = .ok (.iload_n 2, 1) := by decide +kernel
theorem dX11_rod_44 : decode cX11_rod 44 = .ok (.iload_n 3, 1) := by decide +kernel
theorem dX11_rod_45 : decode cX11_rod 45 = .ok (.invokevirtual 261, 3) := by decide +kernel
theorem dX11_rod_48 : decode cX11_rod 48 = .ok (.iconst 1, 1) := by decide +kernel
theorem dX11_rod_49 : decode cX11_rod 49 = .ok (.ireturn, 1) := by decide +kernel
theorem dX11_wall_0 : decode cX11_wall 0 = .ok (.iconst 2, 1) := by decide +kernel
theorem dX11_wall_1 : decode cX11_wall 1 = .ok (.iload_n 1, 1) := by decide +kernel
theorem dX11_wall_2 : decode cX11_wall 2 = .ok (.bipush 14, 2) := by decide +kernel
theorem dX11_wall_4 : decode cX11_wall 4 = .ok (.invokestatic 213, 3) := by decide +kernel
theorem dX11_wall_7 : decode cX11_wall 7 = .ok (.ifCond .ne 5, 3) := by decide +kernel
theorem dX11_wall_10 : decode cX11_wall 10 = .ok (.iconst 0, 1) := by decide +kernel
theorem dX11_wall_11 : decode cX11_wall 11 = .ok (.ireturn, 1) := by decide +kernel
theorem dX11_wall_12 : decode cX11_wall 12 = .ok (.aload_n 0, 1) := by decide +kernel
theorem dX11_wall_13 : decode cX11_wall 13 = .ok (.getfield 57, 3) := by decide +kernel
theorem dX11_wall_16 : decode cX11_wall 16 = .ok (.iconst 2, 1) := by decide +kernel
theorem dX11_wall_17 : decode cX11_wall 17 = .ok (.iload_n 1, 1) := by decide +kernel
theorem dX11_wall_18 : decode cX11_wall 18 = .ok (.iconst 0, 1) := by decide +kernel
theorem dX11_wall_19 : decode cX11_wall 19 = .ok (.iconst 1, 1) := by decide +kernel
theorem dX11_wall_20 : decode cX11_wall 20 = .ok (.invokevirtual 261, 3) := by decide +kernel
theorem dX11_wall_23 : decode cX11_wall 23 = .ok (.iconst 1, 1) := by decide +kernel
theorem dX11_wall_24 : decode cX11_wall 24 = .ok (.ireturn, 1) := by decide +kernel
theorem dX11_tell_0 : decode cX11_tell 0 = .ok (.aload_n 0, 1) := by decide +kernel
theorem dX11_tell_1 : decode cX11_tell 1 = .ok (.getfield 57, 3) := by decide +kernel
theorem dX11_tell_4 : decode cX11_tell 4 = .ok (.getfield 264, 3) := by decide +kernel
theorem dX11_tell_7 : decode cX11_tell 7 = .ok (.ifCond .ne 5, 3) := by decide +kernel
theorem dX11_tell_10 : decode cX11_tell 10 = .ok (.iconst (-1), 1) := by decide +kernel
theorem dX11_tell_11 : decode cX11_tell 11 = .ok (.ireturn, 1) := by decide +kernel
theorem dX11_tell_12 : decode cX11_tell 12 = .ok (.aload_n 0, 1) := by decide +kernel
theorem dX11_tell_13 : decode cX11_tell 13 = .ok (.getfield 57, 3) := by decide +kernel
theorem dX11_tell_16 : decode cX11_tell 16 = .ok (.iload_n 1, 1) := by decide +kernel
theorem dX11_tell_17 : decode cX11_tell 17 = .ok (.iload_n 2, 1) := by decide +kernel
theorem dX11_tell_18 : decode cX11_tell 18 = .ok (.invokevirtual 267, 3) := by decide +kernel
theorem dX11_tell_21 : decode cX11_tell 21 = .ok (.ifCond .ne 14, 3) := by decide +kernel
theorem dX11_tell_24 : decode cX11_tell 24 = .ok (.new 107, 3) := by decide +kernel
theorem dX11_tell_27 : decode cX11_tell 27 = .ok (.dup, 1) := by decide +kernel
theorem dX11_tell_28 : decode cX11_tell 28 = .ok (.ldc_w 271, 3) := by decide +kernel
theorem dX11_tell_31 : decode cX11_tell 31 = .ok (.invokespecial 111, 3) := by decide +kernel
theorem dX11_tell_34 : decode cX11_tell 34 = .ok (.athrow, 1) := by decide +kernel
theorem dX11_tell_35 : decode cX11_tell 35 = .ok (.aload_n 0, 1) := by decide +kernel
theorem dX11_tell_36 : decode cX11_tell 36 = .ok (.getfield 57, 3) := by decide +kernel
theorem dX11_tell_39 : decode cX11_tell 39 = .ok (.iload_n 1, 1) := by decide +kernel
theorem dX11_tell_40 : decode cX11_tell 40 = .ok (.iload_n 2, 1) := by decide +kernel
theorem dX11_tell_41 : decode cX11_tell 41 = .ok (.iload_n 3, 1) := by decide +kernel
theorem dX11_tell_42 : decode cX11_tell 42 = .ok (.invokevirtual 273, 3) := by decide +kernel
theorem dX11_tell_45 : decode cX11_tell 45 = .ok (.aload_n 0, 1) := by decide +kernel
theorem dX11_tell_46 : decode cX11_tell 46 = .ok (.getfield 57, 3) := by decide +kernel
theorem dX11_tell_49 : decode cX11_tell 49 = .ok (.getfield 277, 3) := by decide +kernel
theorem dX11_tell_52 : decode cX11_tell 52 = .ok (.ireturn, 1) := by decide +kernel
theorem dX11_sure_0 : decode cX11_sure 0 = .ok (.iload_n 1, 1) := by decide +kernel
theorem dX11_sure_1 : decode cX11_sure 1 = .ok (.iconst 3, 1) := by decide +kernel
theorem dX11_sure_2 : decode cX11_sure 2 = .ok (.invokestatic 165, 3) := by decide +kernel
theorem dX11_sure_5 : decode cX11_sure 5 = .ok (.aload_n 0, 1) := by decide +kernel
theorem dX11_sure_6 : decode cX11_sure 6 = .ok (.getfield 57, 3) := by decide +kernel
theorem dX11_sure_9 : decode cX11_sure 9 = .ok (.getfield 264, 3) := by decide +kernel
theorem dX11_sure_12 : decode cX11_sure 12 = .ok (.ifCond .ne 14, 3) := by decide +kernel
theorem dX11_sure_15 : decode cX11_sure 15 = .ok (.new 107, 3) := by decide +kernel
theorem dX11_sure_18 : decode cX11_sure 18 = .ok (.dup, 1) := by decide +kernel
theorem dX11_sure_19 : decode cX11_sure 19 = .ok (.ldc_w 280, 3) := by decide +kernel
theorem dX11_sure_22 : decode cX11_sure 22 = .ok (.invokespecial 111, 3) := by decide +kernel
theorem dX11_sure_25 : decode cX11_sure 25 = .ok (.athrow, 1) := by decide +kernel
theorem dX11_sure_26 : decode cX11_sure 26 = .ok (.iload_n 1, 1) := by decide +kernel
theorem dX11_sure_27 : decode cX11_sure 27 = .ok (.iconst 2, 1) := by decide +kernel
theorem dX11_sure_28 : decode cX11_sure 28 = .ok (.if_icmp .ne 11, 3) := by decide +kernel
theorem dX11_sure_31 : decode cX11_sure 31 = .ok (.aload_n 0, 1) := by decide +kernel
theorem dX11_sure_32 : decode cX11_sure 32 = .ok (.getfield 57, 3) := by decide +kernel
theorem dX11_sure_35 : decode cX11_sure 35 = .ok (.getfield 277, 3) := by decide +kernel
theorem dX11_sure_38 : decode cX11_sure 38 = .ok (.ireturn, 1) := by decide +kernel
theorem dX11_sure_39 : decode cX11_sure 39 = .ok (.aload_n 0, 1) := by decide +kernel
theorem dX11_sure_40 : decode cX11_sure 40 = .ok (.getfield 57, 3) := by decide +kernel
theorem dX11_sure_43 : decode cX11_sure 43 = .ok (.iload_n 1, 1) := by decide +kernel
theorem dX11_sure_44 : decode cX11_sure 44 = .ok (.iconst 1, 1) := by decide +kernel
theorem dX11_sure_45 : decode cX11_sure 45 = .ok (.if_icmp .ne 7, 3) := by decide +kernel
theorem dX11_sure_48 : decode cX11_sure 48 = .ok (.iconst 1, 1) := by decide +kernel
theorem dX11_sure_49 : decode cX11_sure 49 = .ok (.goto 4, 3) := by decide +kernel
theorem dX11_sure_52 : decode cX11_sure 52 = .ok (.iconst 0, 1) := by decide +kernel
theorem dX11_sure_53 : decode cX11_sure 53 = .ok (.invokevirtual 282, 3) := by decide +kernel
theorem dX11_sure_56 : decode cX11_sure 56 = .ok (.ireturn, 1) := by decide +kernel
theorem dX11_next_0 : decode cX11_next 0 = .ok (.iload_n 1, 1) := by decide +kernel
theorem dX11_next_1 : decode cX11_next 1 = .ok (.iconst 3, 1) := by decide +kernel
theorem dX11_next_2 : decode cX11_next 2 = .ok (.invokestatic 165, 3) := by decide +kernel
theorem dX11_next_5 : decode cX11_next 5 = .ok (.aload_n 0, 1) := by decide +kernel
theorem dX11_next_6 : decode cX11_next 6 = .ok (.getfield 57, 3) := by decide +kernel
theorem dX11_next_9 : decode cX11_next 9 = .ok (.getfield 264, 3) := by decide +kernel
theorem dX11_next_12 : decode cX11_next 12 = .ok (.ifCond .eq 13, 3) := by decide +kernel
theorem dX11_next_15 : decode cX11_next 15 = .ok (.aload_n 0, 1) := by decide +kernel
theorem dX11_next_16 : decode cX11_next 16 = .ok (.getfield 57, 3) := by decide +kernel
theorem dX11_next_19 : decode cX11_next 19 = .ok (.getfield 277, 3) := by decide +kernel
theorem dX11_next_22 : decode cX11_next 22 = .ok (.ifCond .ne 14, 3) := by decide +kernel
theorem dX11_next_25 : decode cX11_next 25 = .ok (.new 107, 3) := by decide +kernel
theorem dX11_next_28 : decode cX11_next 28 = .ok (.dup, 1) := by decide +kernel
theorem dX11_next_29 : decode cX11_next 29 = .ok (.ldc_w 286, 3) := by decide +kernel
theorem dX11_next_32 : decode cX11_next 32 = .ok (.invokespecial 111, 3) := by decide +kernel
theorem dX11_next_35 : decode cX11_next 35 = .ok (.athrow, 1) := by decide +kernel
theorem dX11_next_36 : decode cX11_next 36 = .ok (.aload_n 0, 1) := by decide +kernel
theorem dX11_next_37 : decode cX11_next 37 = .ok (.getfield 57, 3) := by decide +kernel
theorem dX11_next_40 : decode cX11_next 40 = .ok (.invokevirtual 288, 3) := by decide +kernel
theorem dX11_next_43 : decode cX11_next 43 = .ok (.iload_n 1, 1) := by decide +kernel
theorem dX11_next_44 : decode cX11_next 44 = .ok (.iconst 2, 1) := by decide +kernel
theorem dX11_next_45 : decode cX11_next 45 = .ok (.if_icmp .ne 11, 3) := by decide +kernel
theorem dX11_next_48 : decode cX11_next 48 = .ok (.aload_n 0, 1) := by decide +kernel
theorem dX11_next_49 : decode cX11_next 49 = .ok (.getfield 57, 3) := by decide +kernel
theorem dX11_next_52 : decode cX11_next 52 = .ok (.getfield 291, 3) := by decide +kernel
theorem dX11_next_55 : decode cX11_next 55 = .ok (.ireturn, 1) := by decide +kernel
theorem dX11_next_56 : decode cX11_next 56 = .ok (.iload_n 1, 1) := by decide +kernel
theorem dX11_next_57 : decode cX11_next 57 = .ok (.ifCond .ne 13, 3) := by decide +kernel
theorem dX11_next_60 : decode cX11_next 60 = .ok (.aload_n 0, 1) := by decide +kernel
theorem dX11_next_61 : decode cX11_next 61 = .ok (.getfield 57, 3) := by decide +kernel
theorem dX11_next_64 : decode cX11_next 64 = .ok (.getfield 294, 3) := by decide +kernel
theorem dX11_next_67 : decode cX11_next 67 = .ok (.goto 10, 3) := by decide +kernel
theorem dX11_next_70 : decode cX11_next 70 = .ok (.aload_n 0, 1) := by decide +kernel
theorem dX11_next_71 : decode cX11_next 71 = .ok (.getfield 57, 3) := by decide +kernel
theorem dX11_next_74 : decode cX11_next 74 = .ok (.getfield 297, 3) := by decide +kernel
theorem dX11_next_77 : decode cX11_next 77 = .ok (.ireturn, 1) := by decide +kernel
theorem dX11_stands_0 : decode cX11_stands 0 = .ok (.iload_n 2, 1) := by decide +kernel
theorem dX11_stands_1 : decode cX11_stands 1 = .ok (.iload_n 3, 1) := by decide +kernel
theorem dX11_stands_2 : decode cX11_stands 2 = .ok (.invokestatic 300, 3) := by decide +kernel
theorem dX11_stands_5 : decode cX11_stands 5 = .ok (.iload_n 1, 1) := by decide +kernel
theorem dX11_stands_6 : decode cX11_stands 6 = .ok (.ldc_w 305, 3) := by decide +kernel
theorem dX11_stands_9 : decode cX11_stands 9 = .ok (.iand, 1) := by decide +kernel
theorem dX11_stands_10 : decode cX11_stands 10 = .ok (.iload_n 2, 1) := by decide +kernel
theorem dX11_stands_11 : decode cX11_stands 11 = .ok (.iload_n 3, 1) := by decide +kernel
theorem dX11_stands_12 : decode cX11_stands 12 = .ok (.invokestatic 306, 3) := by decide +kernel
theorem dX11_stands_15 : decode cX11_stands 15 = .ok (.ireturn, 1) := by decide +kernel
theorem dX11_cut_0 : decode cX11_cut 0 = .ok (.iconst 0, 1) := by decide +kernel
theorem dX11_cut_1 : decode cX11_cut 1 = .ok (.iload_n 1, 1) := by decide +kernel
theorem dX11_cut_2 : decode cX11_cut 2 = .ok (.bipush 15, 2) := by decide +kernel
theorem dX11_cut_4 : decode cX11_cut 4 = .ok (.invokestatic 213, 3) := by decide +kernel
theorem dX11_cut_7 : decode cX11_cut 7 = .ok (.ifCond .eq 13, 3) := by decide +kernel
theorem dX11_cut_10 : decode cX11_cut 10 = .ok (.iconst 1, 1) := by decide +kernel
theorem dX11_cut_11 : decode cX11_cut 11 = .ok (.iload_n 2, 1) := by decide +kernel
theorem dX11_cut_12 : decode cX11_cut 12 = .ok (.bipush 12, 2) := by decide +kernel
theorem dX11_cut_14 : decode cX11_cut 14 = .ok (.invokestatic 213, 3) := by decide +kernel
theorem dX11_cut_17 : decode cX11_cut 17 = .ok (.ifCond .ne 14, 3) := by decide +kernel
theorem dX11_cut_20 : decode cX11_cut 20 = .ok (.new 107, 3) := by decide +kernel
theorem dX11_cut_23 : decode cX11_cut 23 = .ok (.dup, 1) := by decide +kernel
theorem dX11_cut_24 : decode cX11_cut 24 = .ok (.ldc_w 309, 3) := by decide +kernel
theorem dX11_cut_27 : decode cX11_cut 27 = .ok (.invokespecial 111, 3) := by decide +kernel
theorem dX11_cut_30 : decode cX11_cut 30 = .ok (.athrow, 1) := by decide +kernel
theorem dX11_cut_31 : decode cX11_cut 31 = .ok (.iload_n 3, 1) := by decide +kernel
theorem dX11_cut_32 : decode cX11_cut 32 = .ok (.iload 4, 2) := by decide +kernel
theorem dX11_cut_34 : decode cX11_cut 34 = .ok (.invokestatic 300, 3) := by decide +kernel
theorem dX11_cut_37 : decode cX11_cut 37 = .ok (.iload_n 1, 1) := by decide +kernel
theorem dX11_cut_38 : decode cX11_cut 38 = .ok (.iload_n 2, 1) := by decide +kernel
theorem dX11_cut_39 : decode cX11_cut 39 = .ok (.iload_n 3, 1) := by decide +kernel
theorem dX11_cut_40 : decode cX11_cut 40 = .ok (.iload 4, 2) := by decide +kernel
theorem dX11_cut_42 : decode cX11_cut 42 = .ok (.iload_n 3, 1) := by decide +kernel
theorem dX11_cut_43 : decode cX11_cut 43 = .ok (.iload 4, 2) := by decide +kernel
theorem dX11_cut_45 : decode cX11_cut 45 = .ok (.invokestatic 311, 3) := by decide +kernel
theorem dX11_cut_48 : decode cX11_cut 48 = .ok (.invokestatic 314, 3) := by decide +kernel
theorem dX11_cut_51 : decode cX11_cut 51 = .ok (.ireturn, 1) := by decide +kernel
theorem dX11_fell_0 : decode cX11_fell 0 = .ok (.iconst 0, 1) := by decide +kernel
theorem dX11_fell_1 : decode cX11_fell 1 = .ok (.iload_n 1, 1) := by decide +kernel
theorem dX11_fell_2 : decode cX11_fell 2 = .ok (.bipush 15, 2) := by decide +kernel
theorem dX11_fell_4 : decode cX11_fell 4 = .ok (.invokestatic 213, 3) := by decide +kernel
theorem dX11_fell_7 : decode cX11_fell 7 = .ok (.ifCond .eq 13, 3) := by decide +kernel
theorem dX11_fell_10 : decode cX11_fell 10 = .ok (.iconst 0, 1) := by decide +kernel
theorem dX11_fell_11 : decode cX11_fell 11 = .ok (.iload_n 2, 1) := by decide +kernel
theorem dX11_fell_12 : decode cX11_fell 12 = .ok (.bipush 15, 2) := by decide +kernel
theorem dX11_fell_14 : decode cX11_fell 14 = .ok (.invokestatic 213, 3) := by decide +kernel
theorem dX11_fell_17 : decode cX11_fell 17 = .ok (.ifCond .ne 14, 3) := by decide +kernel
theorem dX11_fell_20 : decode cX11_fell 20 = .ok (.new 107, 3) := by decide +kernel
theorem dX11_fell_23 : decode cX11_fell 23 = .ok (.dup, 1) := by decide +kernel
theorem dX11_fell_24 : decode cX11_fell 24 = .ok (.ldc_w 318, 3) := by decide +kernel
theorem dX11_fell_27 : decode cX11_fell 27 = .ok (.invokespecial 111, 3) := by decide +kernel
theorem dX11_fell_30 : decode cX11_fell 30 = .ok (.athrow, 1) := by decide +kernel
theorem dX11_fell_31 : decode cX11_fell 31 = .ok (.iload_n 3, 1) := by decide +kernel
theorem dX11_fell_32 : decode cX11_fell 32 = .ok (.iload 4, 2) := by decide +kernel
theorem dX11_fell_34 : decode cX11_fell 34 = .ok (.invokestatic 300, 3) := by decide +kernel
theorem dX11_fell_37 : decode cX11_fell 37 = .ok (.iload_n 1, 1) := by decide +kernel
theorem dX11_fell_38 : decode cX11_fell 38 = .ok (.iload_n 2, 1) := by decide +kernel
theorem dX11_fell_39 : decode cX11_fell 39 = .ok (.iload_n 3, 1) := by decide +kernel
theorem dX11_fell_40 : decode cX11_fell 40 = .ok (.iload 4, 2) := by decide +kernel
theorem dX11_fell_42 : decode cX11_fell 42 = .ok (.invokestatic 320, 3) := by decide +kernel
theorem dX11_fell_45 : decode cX11_fell 45 = .ok (.ireturn, 1) := by decide +kernel
theorem dX11_askCentre_0 : decode cX11_askCentre 0 = .ok (.bipush (-95), 2) := by decide +kernel
theorem dX11_askCentre_2 : decode cX11_askCentre 2 = .ok (.iload_n 0, 1) := by decide +kernel
theorem dX11_askCentre_3 : decode cX11_askCentre 3 = .ok (.bipush 95, 2) := by decide +kernel
theorem dX11_askCentre_5 : decode cX11_askCentre 5 = .ok (.invokestatic 213, 3) := by decide +kernel
theorem dX11_askCentre_8 : decode cX11_askCentre 8 = .ok (.ifCond .eq 14, 3) := by decide +kernel
theorem dX11_askCentre_11 : decode cX11_askCentre 11 = .ok (.bipush (-95), 2) := by decide +kernel
theorem dX11_askCentre_13 : decode cX11_askCentre 13 = .ok (.iload_n 1, 1) := by decide +kernel
theorem dX11_askCentre_14 : decode cX11_askCentre 14 = .ok (.bipush 95, 2) := by decide +kernel
theorem dX11_askCentre_16 : decode cX11_askCentre 16 = .ok (.invokestatic 213, 3) := by decide +kernel
theorem dX11_askCentre_19 : decode cX11_askCentre 19 = .ok (.ifCond .ne 14, 3) := by decide +kernel
theorem dX11_askCentre_22 : decode cX11_askCentre 22 = .ok (.new 107, 3) := by decide +kernel
theorem dX11_askCentre_25 : decode cX11_askCentre 25 = .ok (.dup, 1) := by decide +kernel
theorem dX11_askCentre_26 : decode cX11_askCentre 26 = .ok (.ldc_w 324, 3) := by decide +kernel
theorem dX11_askCentre_29 : decode cX11_askCentre 29 = .ok (.invokespecial 111, 3) := by decide +kernel
theorem dX11_askCentre_32 : decode cX11_askCentre 32 = .ok (.athrow, 1) := by decide +kernel
theorem dX11_askCentre_33 : decode cX11_askCentre 33 = .ok (.return_, 1) := by decide +kernel
theorem dX11_rope_0 : decode cX11_rope 0 = .ok (.iconst 1, 1) := by decide +kernel
theorem dX11_rope_1 : decode cX11_rope 1 = .ok (.iload_n 1, 1) := by decide +kernel
theorem dX11_rope_2 : decode cX11_rope 2 = .ok (.sipush 9999, 3) := by decide +kernel
theorem dX11_rope_5 : decode cX11_rope 5 = .ok (.invokestatic 213, 3) := by decide +kernel
theorem dX11_rope_8 : decode cX11_rope 8 = .ok (.ifCond .ne 5, 3) := by decide +kernel
theorem dX11_rope_11 : decode cX11_rope 11 = .ok (.iconst (-1), 1) := by decide +kernel
theorem dX11_rope_12 : decode cX11_rope 12 = .ok (.ireturn, 1) := by decide +kernel
theorem dX11_rope_13 : decode cX11_rope 13 = .ok (.aload_n 0, 1) := by decide +kernel
theorem dX11_rope_14 : decode cX11_rope 14 = .ok (.getfield 71, 3) := by decide +kernel
theorem dX11_rope_17 : decode cX11_rope 17 = .ok (.iload_n 1, 1) := by decide +kernel
theorem dX11_rope_18 : decode cX11_rope 18 = .ok (.invokevirtual 326, 3) := by decide +kernel
theorem dX11_rope_21 : decode cX11_rope 21 = .ok (.ireturn, 1) := by decide +kernel
theorem dX11_life_0 : decode cX11_life 0 = .ok (.iload_n 1, 1) := by decide +kernel
theorem dX11_life_1 : decode cX11_life 1 = .ok (.ifCond .lt 14, 3) := by decide +kernel
theorem dX11_life_4 : decode cX11_life 4 = .ok (.iload_n 1, 1) := by decide +kernel
theorem dX11_life_5 : decode cX11_life 5 = .ok (.aload_n 0, 1) := by decide +kernel
theorem dX11_life_6 : decode cX11_life 6 = .ok (.getfield 71, 3) := by decide +kernel
theorem dX11_life_9 : decode cX11_life 9 = .ok (.getfield 148, 3) := by decide +kernel
theorem dX11_life_12 : decode cX11_life 12 = .ok (.if_icmp .lt 14, 3) := by decide +kernel
theorem dX11_life_15 : decode cX11_life 15 = .ok (.new 157, 3) := by decide +kernel
theorem dX11_life_18 : decode cX11_life 18 = .ok (.dup, 1) := by decide +kernel
theorem dX11_life_19 : decode cX11_life 19 = .ok (.ldc_w 329, 3) := by decide +kernel
theorem dX11_life_22 : decode cX11_life 22 = .ok (.invokespecial 161, 3) := by decide +kernel
theorem dX11_life_25 : decode cX11_life 25 = .ok (.athrow, 1) := by decide +kernel
theorem dX11_life_26 : decode cX11_life 26 = .ok (.aload_n 0, 1) := by decide +kernel
theorem dX11_life_27 : decode cX11_life 27 = .ok (.getfield 71, 3) := by decide +kernel
theorem dX11_life_30 : decode cX11_life 30 = .ok (.getfield 331, 3) := by decide +kernel
theorem dX11_life_33 : decode cX11_life 33 = .ok (.iload_n 1, 1) := by decide +kernel
theorem dX11_life_34 : decode cX11_life 34 = .ok (.iaload, 1) := by decide +kernel
theorem dX11_life_35 : decode cX11_life 35 = .ok (.ireturn, 1) := by decide +kernel
theorem dX11_need_0 : decode cX11_need 0 = .ok (.iconst 1, 1) := by decide +kernel
theorem dX11_need_1 : decode cX11_need 1 = .ok (.iload_n 1, 1) := by decide +kernel
theorem dX11_need_2 : decode cX11_need 2 = .ok (.sipush 9999, 3) := by decide +kernel
theorem dX11_need_5 : decode cX11_need 5 = .ok (.invokestatic 213, 3) := by decide +kernel
theorem dX11_need_8 : decode cX11_need 8 = .ok (.ifCond .ne 5, 3) := by decide +kernel
theorem dX11_need_11 : decode cX11_need 11 = .ok (.iconst (-1), 1) := by decide +kernel
theorem dX11_need_12 : decode cX11_need 12 = .ok (.ireturn, 1) := by decide +kernel
theorem dX11_need_13 : decode cX11_need 13 = .ok (.aload_n 0, 1) := by decide +kernel
theorem dX11_need_14 : decode cX11_need 14 = .ok (.getfield 64, 3) := by decide +kernel
theorem dX11_need_17 : decode cX11_need 17 = .ok (.iload_n 1, 1) := by decide +kernel
theorem dX11_need_18 : decode cX11_need 18 = .ok (.invokevirtual 334, 3) := by decide +kernel
theorem dX11_need_21 : decode cX11_need 21 = .ok (.ireturn, 1) := by decide +kernel
theorem dX11_ropes_0 : decode cX11_ropes 0 = .ok (.aload_n 0, 1) := by decide +kernel
theorem dX11_ropes_1 : decode cX11_ropes 1 = .ok (.getfield 64, 3) := by decide +kernel
theorem dX11_ropes_4 : decode cX11_ropes 4 = .ok (.iload_n 1, 1) := by decide +kernel
theorem dX11_ropes_5 : decode cX11_ropes 5 = .ok (.invokevirtual 337, 3) := by decide +kernel
theorem dX11_ropes_8 : decode cX11_ropes 8 = .ok (.istore_n 2, 1) := by decide +kernel
theorem dX11_ropes_9 : decode cX11_ropes 9 = .ok (.aload_n 0, 1) := by decide +kernel
theorem dX11_ropes_10 : decode cX11_ropes 10 = .ok (.getfield 64, 3) := by decide +kernel
theorem dX11_ropes_13 : decode cX11_ropes 13 = .ok (.iconst 0, 1) := by decide +kernel
theorem dX11_ropes_14 : decode cX11_ropes 14 = .ok (.putfield 151, 3) := by decide +kernel
theorem dX11_ropes_17 : decode cX11_ropes 17 = .ok (.iload_n 2, 1) := by decide +kernel
theorem dX11_ropes_18 : decode cX11_ropes 18 = .ok (.ireturn, 1) := by decide +kernel
theorem dX11_rule_0 : decode cX11_rule 0 = .ok (.iconst 0, 1) := by decide +kernel
theorem dX11_rule_1 : decode cX11_rule 1 = .ok (.iload_n 1, 1) := by decide +kernel
theorem dX11_rule_2 : decode cX11_rule 2 = .ok (.bipush 13, 2) := by decide +kernel
theorem dX11_rule_4 : decode cX11_rule 4 = .ok (.invokestatic 213, 3) := by decide +kernel
theorem dX11_rule_7 : decode cX11_rule 7 = .ok (.ifCond .ne 5, 3) := by decide +kernel
theorem dX11_rule_10 : decode cX11_rule 10 = .ok (.iconst 0, 1) := by decide +kernel
theorem dX11_rule_11 : decode cX11_rule 11 = .ok (.ireturn, 1) := by decide +kernel
theorem dX11_rule_12 : decode cX11_rule 12 = .ok (.aload_n 0, 1) := by decide +kernel
theorem dX11_rule_13 : decode cX11_rule 13 = .ok (.getfield 71, 3) := by decide +kernel
theorem dX11_rule_16 : decode cX11_rule 16 = .ok (.iload_n 1, 1) := by decide +kernel
theorem dX11_rule_17 : decode cX11_rule 17 = .ok (.putfield 154, 3) := by decide +kernel
theorem dX11_rule_20 : decode cX11_rule 20 = .ok (.iconst 1, 1) := by decide +kernel
theorem dX11_rule_21 : decode cX11_rule 21 = .ok (.ireturn, 1) := by decide +kernel
theorem dX11_climb_0 : decode cX11_climb 0 = .ok (.aload_n 0, 1) := by decide +kernel
theorem dX11_climb_1 : decode cX11_climb 1 = .ok (.iload_n 1, 1) := by decide +kernel
theorem dX11_climb_2 : decode cX11_climb 2 = .ok (.iload_n 2, 1) := by decide +kernel
theorem dX11_climb_3 : decode cX11_climb 3 = .ok (.iload_n 3, 1) := by decide +kernel
theorem dX11_climb_4 : decode cX11_climb 4 = .ok (.iload 4, 2) := by decide +kernel
theorem dX11_climb_6 : decode cX11_climb 6 = .ok (.invokevirtual 340, 3) := by decide +kernel
theorem dX11_climb_9 : decode cX11_climb 9 = .ok (.istore 5, 2) := by decide +kernel
theorem dX11_climb_11 : decode cX11_climb 11 = .ok (.aload_n 0, 1) := by decide +kernel
theorem dX11_climb_12 : decode cX11_climb 12 = .ok (.getfield 71, 3) := by decide +kernel
theorem dX11_climb_15 : decode cX11_climb 15 = .ok (.getfield 343, 3) := by decide +kernel
theorem dX11_climb_18 : decode cX11_climb 18 = .ok (.iload 5, 2) := by decide +kernel
theorem dX11_climb_20 : decode cX11_climb 20 = .ok (.dup2, 1) := by decide +kernel
theorem dX11_climb_21 : decode cX11_climb 21 = .ok (.iaload, 1) := by decide +kernel
theorem dX11_climb_22 : decode cX11_climb 22 = .ok (.iconst 1, 1) := by decide +kernel
theorem dX11_climb_23 : decode cX11_climb 23 = .ok (.iadd, 1) := by decide +kernel
theorem dX11_climb_24 : decode cX11_climb 24 = .ok (.iastore, 1) := by decide +kernel
theorem dX11_climb_25 : decode cX11_climb 25 = .ok (.iload 5, 2) := by decide +kernel
theorem dX11_climb_27 : decode cX11_climb 27 = .ok (.ifCond .ne 24, 3) := by decide +kernel
theorem dX11_climb_30 : decode cX11_climb 30 = .ok (.aload_n 0, 1) := by decide +kernel
theorem dX11_climb_31 : decode cX11_climb 31 = .ok (.getfield 71, 3) := by decide +kernel
theorem dX11_climb_34 : decode cX11_climb 34 = .ok (.iload_n 1, 1) := by decide +kernel
theorem dX11_climb_35 : decode cX11_climb 35 = .ok (.iload_n 2, 1) := by decide +kernel
theorem dX11_climb_36 : decode cX11_climb 36 = .ok (.iload_n 3, 1) := by decide +kernel
theorem dX11_climb_37 : decode cX11_climb 37 = .ok (.iload 4, 2) := by decide +kernel
theorem dX11_climb_39 : decode cX11_climb 39 = .ok (.aload_n 0, 1) := by decide +kernel
theorem dX11_climb_40 : decode cX11_climb 40 = .ok (.getfield 30, 3) := by decide +kernel
theorem dX11_climb_43 : decode cX11_climb 43 = .ok (.getfield 346, 3) := by decide +kernel
theorem dX11_climb_46 : decode cX11_climb 46 = .ok (.iload_n 2, 1) := by decide +kernel
theorem dX11_climb_47 : decode cX11_climb 47 = .ok (.iaload, 1) := by decide +kernel
theorem dX11_climb_48 : decode cX11_climb 48 = .ok (.invokevirtual 349, 3) := by decide +kernel
theorem dX11_climb_51 : decode cX11_climb 51 = .ok (.iload 5, 2) := by decide +kernel
theorem dX11_climb_53 : decode cX11_climb 53 = .ok (.ireturn, 1) := by decide +kernel
theorem dX11_refusal_0 : decode cX11_refusal 0 = .ok (.iconst 0, 1) := by decide +kernel
theorem dX11_refusal_1 : decode cX11_refusal 1 = .ok (.iload_n 1, 1) := by decide +kernel
theorem dX11_refusal_2 : decode cX11_refusal 2 = .ok (.bipush 9, 2) := by decide +kernel
theorem dX11_refusal_4 : decode cX11_refusal 4 = .ok (.invokestatic 213, 3) := by decide +kernel
theorem dX11_refusal_7 : decode cX11_refusal 7 = .ok (.ifCond .eq 48, 3) := by decide +kernel
theorem dX11_refusal_10 : decode cX11_refusal 10 = .ok (.iconst 0, 1) := by decide +kernel
theorem dX11_refusal_11 : decode cX11_refusal 11 = .ok (.iload_n 2, 1) := by decide +kernel
theorem dX11_refusal_12 : decode cX11_refusal 12 = .ok (.aload_n 0, 1) := by decide +kernel
theorem dX11_refusal_13 : decode cX11_refusal 13 = .ok (.getfield 30, 3) := by decide +kernel
theorem dX11_refusal_16 : decode cX11_refusal 16 = .ok (.getfield 136, 3) := by decide +kernel
theorem dX11_refusal_19 : decode cX11_refusal 19 = .ok (.iconst 1, 1) := by decide +kernel
theorem dX11_refusal_20 : decode cX11_refusal 20 = .ok (.isub, 1) := by decide +kernel
theorem dX11_refusal_21 : decode cX11_refusal 21 = .ok (.invokestatic 213, 3) := by decide +kernel
theorem dX11_refusal_24 : decode cX11_refusal 24 = .ok (.ifCond .eq 31, 3) := by decide +kernel
theorem dX11_refusal_27 : decode cX11_refusal 27 = .ok (.iconst 0, 1) := by decide +kernel
theorem dX11_refusal_28 : decode cX11_refusal 28 = .ok (.iload_n 3, 1) := by decide +kernel
theorem dX11_refusal_29 : decode cX11_refusal 29 = .ok (.aload_n 0, 1) := by decide +kernel
theorem dX11_refusal_30 : decode cX11_refusal 30 = .ok (.getfield 71, 3) := by decide +kernel
theorem dX11_refusal_33 : decode cX11_refusal 33 = .ok (.getfield 148, 3) := by decide +kernel
theorem dX11_refusal_36 : decode cX11_refusal 36 = .ok (.iconst 1, 1) := by decide +kernel
theorem dX11_refusal_37 : decode cX11_refusal 37 = .ok (.isub, 1) := by decide +kernel
theorem dX11_refusal_38 : decode cX11_refusal 38 = .ok (.invokestatic 213, 3) := by decide +kernel
theorem dX11_refusal_41 : decode cX11_refusal 41 = .ok (.ifCond .eq 14, 3) := by decide +kernel
theorem dX11_refusal_44 : decode cX11_refusal 44 = .ok (.iconst 0, 1) := by decide +kernel
theorem dX11_refusal_45 : decode cX11_refusal 45 = .ok (.iload 4, 2) := by decide +kernel
theorem dX11_refusal_47 : decode cX11_refusal 47 = .ok (.bipush 29, 2) := by decide +kernel
theorem dX11_refusal_49 : decode cX11_refusal 49 = .ok (.invokestatic 213, 3) := by decide +kernel
theorem dX11_refusal_52 : decode cX11_refusal 52 = .ok (.ifCond .ne 5, 3) := by decide +kernel
theorem dX11_refusal_55 : decode cX11_refusal 55 = .ok (.iconst 1, 1) := by decide +kernel
theorem dX11_refusal_56 : decode cX11_refusal 56 = .ok (.ireturn, 1) := by decide +kernel
theorem dX11_refusal_57 : decode cX11_refusal 57 = .ok (.aload_n 0, 1) := by decide +kernel
theorem dX11_refusal_58 : decode cX11_refusal 58 = .ok (.getfield 30, 3) := by decide +kernel
theorem dX11_refusal_61 : decode cX11_refusal 61 = .ok (.getfield 353, 3) := by decide +kernel
theorem dX11_refusal_64 : decode cX11_refusal 64 = .ok (.iload 4, 2) := by decide +kernel
theorem dX11_refusal_66 : decode cX11_refusal 66 = .ok (.iaload, 1) := by decide +kernel
theorem dX11_refusal_67 : decode cX11_refusal 67 = .ok (.aload_n 0, 1) := by decide +kernel
theorem dX11_refusal_68 : decode cX11_refusal 68 = .ok (.getfield 71, 3) := by decide +kernel
theorem dX11_refusal_71 : decode cX11_refusal 71 = .ok (.getfield 154, 3) := by decide +kernel
theorem dX11_refusal_74 : decode cX11_refusal 74 = .ok (.if_icmp .le 5, 3) := by decide +kernel
theorem dX11_refusal_77 : decode cX11_refusal 77 = .ok (.iconst 2, 1) := by decide +kernel
theorem dX11_refusal_78 : decode cX11_refusal 78 = .ok (.ireturn, 1) := by decide +kernel
theorem dX11_refusal_79 : decode cX11_refusal 79 = .ok (.aload_n 0, 1) := by decide +kernel
theorem dX11_refusal_80 : decode cX11_refusal 80 = .ok (.getfield 30, 3) := by decide +kernel
theorem dX11_refusal_83 : decode cX11_refusal 83 = .ok (.iload_n 2, 1) := by decide +kernel
theorem dX11_refusal_84 : decode cX11_refusal 84 = .ok (.iload 4, 2) := by decide +kernel
theorem dX11_refusal_86 : decode cX11_refusal 86 = .ok (.invokevirtual 356, 3) := by decide +kernel
theorem dX11_refusal_89 : decode cX11_refusal 89 = .ok (.ifCond .eq 5, 3) := by decide +kernel
theorem dX11_refusal_92 : decode cX11_refusal 92 = .ok (.iconst 3, 1) := by decide +kernel
theorem dX11_refusal_93 : decode cX11_refusal 93 = .ok (.ireturn, 1) := by decide +kernel
theorem dX11_refusal_94 : decode cX11_refusal 94 = .ok (.aload_n 0, 1) := by decide +kernel
theorem dX11_refusal_95 : decode cX11_refusal 95 = .ok (.getfield 71, 3) := by decide +kernel
theorem dX11_refusal_98 : decode cX11_refusal 98 = .ok (.iload_n 1, 1) := by decide +kernel
theorem dX11_refusal_99 : decode cX11_refusal 99 = .ok (.iload 4, 2) := by decide +kernel
theorem dX11_refusal_101 : decode cX11_refusal 101 = .ok (.invokevirtual 359, 3) := by decide +kernel
theorem dX11_refusal_104 : decode cX11_refusal 104 = .ok (.ifCond .eq 5, 3) := by decide +kernel
theorem dX11_refusal_107 : decode cX11_refusal 107 = .ok (.iconst 4, 1) := by decide +kernel
theorem dX11_refusal_108 : decode cX11_refusal 108 = .ok (.ireturn, 1) := by decide +kernel
theorem dX11_refusal_109 : decode cX11_refusal 109 = .ok (.iload_n 1, 1) := by decide +kernel
theorem dX11_refusal_110 : decode cX11_refusal 110 = .ok (.iconst 5, 1) := by decide +kernel
theorem dX11_refusal_111 : decode cX11_refusal 111 = .ok (.if_icmp .lt 18, 3) := by decide +kernel
theorem dX11_refusal_114 : decode cX11_refusal 114 = .ok (.aload_n 0, 1) := by decide +kernel
theorem dX11_refusal_115 : decode cX11_refusal 115 = .ok (.getfield 71, 3) := by decide +kernel
theorem dX11_refusal_118 : decode cX11_refusal 118 = .ok (.iload_n 2, 1) := by decide +kernel
theorem dX11_refusal_119 : decode cX11_refusal 119 = .ok (.iload 4, 2) := by decide +kernel
theorem dX11_refusal_121 : decode cX11_refusal 121 = .ok (.invokevirtual 362, 3) := by decide +kernel
theorem dX11_refusal_124 : decode cX11_refusal 124 = .ok (.ifCond .ne 5, 3) := by decide +kernel
theorem dX11_refusal_127 : decode cX11_refusal 127 = .ok (.iconst 5, 1) := by decide +kernel
theorem dX11_refusal_128 : decode cX11_refusal 128 = .ok (.ireturn, 1) := by decide +kernel
theorem dX11_refusal_129 : decode cX11_refusal 129 = .ok (.aload_n 0, 1) := by decide +kernel
theorem dX11_refusal_130 : decode cX11_refusal 130 = .ok (.getfield 71, 3) := by decide +kernel
theorem dX11_refusal_133 : decode cX11_refusal 133 = .ok (.getfield 331, 3) := by decide +kernel
theorem dX11_refusal_136 : decode cX11_refusal 136 = .ok (.iload_n 3, 1) := by decide +kernel
theorem dX11_refusal_137 : decode cX11_refusal 137 = .ok (.iaload, 1) := by decide +kernel
theorem dX11_refusal_138 : decode cX11_refusal 138 = .ok (.aload_n 0, 1) := by decide +kernel
theorem dX11_refusal_139 : decode cX11_refusal 139 = .ok (.getfield 30, 3) := by decide +kernel
theorem dX11_refusal_142 : decode cX11_refusal 142 = .ok (.getfield 346, 3) := by decide +kernel
theorem dX11_refusal_145 : decode cX11_refusal 145 = .ok (.iload_n 2, 1) := by decide +kernel
theorem dX11_refusal_146 : decode cX11_refusal 146 = .ok (.iaload, 1) := by decide +kernel
theorem dX11_refusal_147 : decode cX11_refusal 147 = .ok (.if_icmp .ge 8, 3) := by decide +kernel
theorem dX11_refusal_150 : decode cX11_refusal 150 = .ok (.bipush 6, 2) := by decide +kernel
theorem dX11_refusal_152 : decode cX11_refusal 152 = .ok (.goto 4, 3) := by decide +kernel
theorem dX11_refusal_155 : decode cX11_refusal 155 = .ok (.iconst 0, 1) := by decide +kernel
theorem dX11_refusal_156 : decode cX11_refusal 156 = .ok (.ireturn, 1) := by decide +kernel
theorem dX11_climbs_0 : decode cX11_climbs 0 = .ok (.iload_n 1, 1) := by decide +kernel
theorem dX11_climbs_1 : decode cX11_climbs 1 = .ok (.bipush 7, 2) := by decide +kernel
theorem dX11_climbs_3 : decode cX11_climbs 3 = .ok (.invokestatic 165, 3) := by decide +kernel
theorem dX11_climbs_6 : decode cX11_climbs 6 = .ok (.aload_n 0, 1) := by decide +kernel
theorem dX11_climbs_7 : decode cX11_climbs 7 = .ok (.getfield 71, 3) := by decide +kernel
theorem dX11_climbs_10 : decode cX11_climbs 10 = .ok (.getfield 343, 3) := by decide +kernel
theorem dX11_climbs_13 : decode cX11_climbs 13 = .ok (.iload_n 1, 1) := by decide +kernel
theorem dX11_climbs_14 : decode cX11_climbs 14 = .ok (.iaload, 1) := by decide +kernel
theorem dX11_climbs_15 : decode cX11_climbs 15 = .ok (.ireturn, 1) := by decide +kernel
theorem dX11_up_0 : decode cX11_up 0 = .ok (.aload_n 0, 1) := by decide +kernel
theorem dX11_up_1 : decode cX11_up 1 = .ok (.iload_n 1, 1) := by decide +kernel
theorem dX11_up_2 : decode cX11_up 2 = .ok (.invokevirtual 173, 3) := by decide +kernel
theorem dX11_up_5 : decode cX11_up 5 = .ok (.iconst 0, 1) := by decide +kernel
theorem dX11_up_6 : decode cX11_up 6 = .ok (.iload_n 2, 1) := by decide +kernel
theorem dX11_up_7 : decode cX11_up 7 = .ok (.bipush 29, 2) := by decide +kernel
theorem dX11_up_9 : decode cX11_up 9 = .ok (.invokestatic 213, 3) := by decide +kernel
theorem dX11_up_12 : decode cX11_up 12 = .ok (.ifCond .ne 14, 3) := by decide +kernel
theorem dX11_up_15 : decode cX11_up 15 = .ok (.new 157, 3) := by decide +kernel
theorem dX11_up_18 : decode cX11_up 18 = .ok (.dup, 1) := by decide +kernel
theorem dX11_up_19 : decode cX11_up 19 = .ok (.ldc_w 365, 3) := by decide +kernel
theorem dX11_up_22 : decode cX11_up 22 = .ok (.invokespecial 161, 3) := by decide +kernel
theorem dX11_up_25 : decode cX11_up 25 = .ok (.athrow, 1) := by decide +kernel
theorem dX11_up_26 : decode cX11_up 26 = .ok (.aload_n 0, 1) := by decide +kernel
theorem dX11_up_27 : decode cX11_up 27 = .ok (.getfield 71, 3) := by decide +kernel
theorem dX11_up_30 : decode cX11_up 30 = .ok (.getfield 367, 3) := by decide +kernel
theorem dX11_up_33 : decode cX11_up 33 = .ok (.iload_n 1, 1) := by decide +kernel
theorem dX11_up_34 : decode cX11_up 34 = .ok (.bipush 30, 2) := by decide +kernel
theorem dX11_up_36 : decode cX11_up 36 = .ok (.imul, 1) := by decide +kernel
theorem dX11_up_37 : decode cX11_up 37 = .ok (.iload_n 2, 1) := by decide +kernel
theorem dX11_up_38 : decode cX11_up 38 = .ok (.iadd, 1) := by decide +kernel
theorem dX11_up_39 : decode cX11_up 39 = .ok (.iaload, 1) := by decide +kernel
theorem dX11_up_40 : decode cX11_up 40 = .ok (.ireturn, 1) := by decide +kernel
theorem dX11_back_0 : decode cX11_back 0 = .ok (.aload_n 0, 1) := by decide +kernel
theorem dX11_back_1 : decode cX11_back 1 = .ok (.getfield 71, 3) := by decide +kernel
theorem dX11_back_4 : decode cX11_back 4 = .ok (.aload_n 0, 1) := by decide +kernel
theorem dX11_back_5 : decode cX11_back 5 = .ok (.getfield 30, 3) := by decide +kernel
theorem dX11_back_8 : decode cX11_back 8 = .ok (.invokevirtual 370, 3) := by decide +kernel
theorem dX11_back_11 : decode cX11_back 11 = .ok (.ireturn, 1) := by decide +kernel
theorem dX11_image_0 : decode cX11_image 0 = .ok (.aload_n 0, 1) := by decide +kernel
theorem dX11_image_1 : decode cX11_image 1 = .ok (.getfield 75, 3) := by decide +kernel
theorem dX11_image_4 : decode cX11_image 4 = .ok (.aload_n 0, 1) := by decide +kernel
theorem dX11_image_5 : decode cX11_image 5 = .ok (.getfield 71, 3) := by decide +kernel
theorem dX11_image_8 : decode cX11_image 8 = .ok (.invokevirtual 373, 3) := by decide +kernel
theorem dX11_image_11 : decode cX11_image 11 = .ok (.aload_n 0, 1) := by decide +kernel
theorem dX11_image_12 : decode cX11_image 12 = .ok (.iconst 1, 1) := by decide +kernel
theorem dX11_image_13 : decode cX11_image 13 = .ok (.putfield 78, 3) := by decide +kernel
theorem dX11_image_16 : decode cX11_image 16 = .ok (.return_, 1) := by decide +kernel
theorem dX11_restore_0 : decode cX11_restore 0 = .ok (.aload_n 0, 1) := by decide +kernel
theorem dX11_restore_1 : decode cX11_restore 1 = .ok (.getfield 78, 3) := by decide +kernel
theorem dX11_restore_4 : decode cX11_restore 4 = .ok (.ifCond .ne 5, 3) := by decide +kernel
theorem dX11_restore_7 : decode cX11_restore 7 = .ok (.iconst 0, 1) := by decide +kernel
theorem dX11_restore_8 : decode cX11_restore 8 = .ok (.ireturn, 1) := by decide +kernel
theorem dX11_restore_9 : decode cX11_restore 9 = .ok (.aload_n 0, 1) := by decide +kernel
theorem dX11_restore_10 : decode cX11_restore 10 = .ok (.getfield 71, 3) := by decide +kernel
theorem dX11_restore_13 : decode cX11_restore 13 = .ok (.aload_n 0, 1) := by decide +kernel
theorem dX11_restore_14 : decode cX11_restore 14 = .ok (.getfield 75, 3) := by decide +kernel
theorem dX11_restore_17 : decode cX11_restore 17 = .ok (.invokevirtual 373, 3) := by decide +kernel
theorem dX11_restore_20 : decode cX11_restore 20 = .ok (.iconst 1, 1) := by decide +kernel
theorem dX11_restore_21 : decode cX11_restore 21 = .ok (.ireturn, 1) := by decide +kernel
theorem dX11_band_0 : decode cX11_band 0 = .ok (.aload_n 0, 1) := by decide +kernel
theorem dX11_band_1 : decode cX11_band 1 = .ok (.iload_n 1, 1) := by decide +kernel
theorem dX11_band_2 : decode cX11_band 2 = .ok (.invokevirtual 173, 3) := by decide +kernel
theorem dX11_band_5 : decode cX11_band 5 = .ok (.iconst 0, 1) := by decide +kernel
theorem dX11_band_6 : decode cX11_band 6 = .ok (.iload_n 2, 1) := by decide +kernel
theorem dX11_band_7 : decode cX11_band 7 = .ok (.aload_n 0, 1) := by decide +kernel
theorem dX11_band_8 : decode cX11_band 8 = .ok (.getfield 30, 3) := by decide +kernel
theorem dX11_band_11 : decode cX11_band 11 = .ok (.getfield 346, 3) := by decide +kernel
theorem dX11_band_14 : decode cX11_band 14 = .ok (.iload_n 1, 1) := by decide +kernel
theorem dX11_band_15 : decode cX11_band 15 = .ok (.iaload, 1) := by decide +kernel
theorem dX11_band_16 : decode cX11_band 16 = .ok (.iconst 1, 1) := by decide +kernel
theorem dX11_band_17 : decode cX11_band 17 = .ok (.isub, 1) := by decide +kernel
theorem dX11_band_18 : decode cX11_band 18 = .ok (.invokestatic 213, 3) := by decide +kernel
theorem dX11_band_21 : decode cX11_band 21 = .ok (.ifCond .eq 38, 3) := by decide +kernel
theorem dX11_band_24 : decode cX11_band 24 = .ok (.iconst 0, 1) := by decide +kernel
theorem dX11_band_25 : decode cX11_band 25 = .ok (.iload_n 3, 1) := by decide +kernel
theorem dX11_band_26 : decode cX11_band 26 = .ok (.sipush 300, 3) := by decide +kernel
theorem dX11_band_29 : decode cX11_band 29 = .ok (.invokestatic 213, 3) := by decide +kernel
theorem dX11_band_32 : decode cX11_band 32 = .ok (.ifCond .eq 27, 3) := by decide +kernel
theorem dX11_band_35 : decode cX11_band 35 = .ok (.iconst 1, 1) := by decide +kernel
theorem dX11_band_36 : decode cX11_band 36 = .ok (.iload 4, 2) := by decide +kernel
theorem dX11_band_38 : decode cX11_band 38 = .ok (.sipush 9999, 3) := by decide +kernel
theorem dX11_band_41 : decode cX11_band 41 = .ok (.invokestatic 213, 3) := by decide +kernel
theorem dX11_band_44 : decode cX11_band 44 = .ok (.ifCond .eq 15, 3) := by decide +kernel
theorem dX11_band_47 : decode cX11_band 47 = .ok (.iconst 0, 1) := by decide +kernel
theorem dX11_band_48 : decode cX11_band 48 = .ok (.iload 5, 2) := by decide +kernel
theorem dX11_band_50 : decode cX11_band 50 = .ok (.sipush 999, 3) := by decide +kernel
theorem dX11_band_53 : decode cX11_band 53 = .ok (.invokestatic 213, 3) := by decide +kernel
theorem dX11_band_56 : decode cX11_band 56 = .ok (.ifCond .ne 5, 3) := by decide +kernel
theorem dX11_band_59 : decode cX11_band 59 = .ok (.iconst (-1), 1) := by decide +kernel
theorem dX11_band_60 : decode cX11_band 60 = .ok (.ireturn, 1) := by decide +kernel
theorem dX11_band_61 : decode cX11_band 61 = .ok (.aload_n 0, 1) := by decide +kernel
theorem dX11_band_62 : decode cX11_band 62 = .ok (.getfield 85, 3) := by decide +kernel
theorem dX11_band_65 : decode cX11_band 65 = .ok (.iload_n 1, 1) := by decide +kernel
theorem dX11_band_66 : decode cX11_band 66 = .ok (.iload_n 2, 1) := by decide +kernel
theorem dX11_band_67 : decode cX11_band 67 = .ok (.iload_n 3, 1) := by decide +kernel
theorem dX11_band_68 : decode cX11_band 68 = .ok (.iload 4, 2) := by decide +kernel
theorem dX11_band_70 : decode cX11_band 70 = .ok (.iload 5, 2) := by decide +kernel
theorem dX11_band_72 : decode cX11_band 72 = .ok (.invokevirtual 377, 3) := by decide +kernel
theorem dX11_band_75 : decode cX11_band 75 = .ok (.ireturn, 1) := by decide +kernel
theorem dX11_mortar_0 : decode cX11_mortar 0 = .ok (.aload_n 0, 1) := by decide +kernel
theorem dX11_mortar_1 : decode cX11_mortar 1 = .ok (.iload_n 1, 1) := by decide +kernel
theorem dX11_mortar_2 : decode cX11_mortar 2 = .ok (.invokevirtual 173, 3) := by decide +kernel
theorem dX11_mortar_5 : decode cX11_mortar 5 = .ok (.iconst 0, 1) := by decide +kernel
theorem dX11_mortar_6 : decode cX11_mortar 6 = .ok (.iload_n 2, 1) := by decide +kernel
theorem dX11_mortar_7 : decode cX11_mortar 7 = .ok (.sipush 9999, 3) := by decide +kernel
theorem dX11_mortar_10 : decode cX11_mortar 10 = .ok (.invokestatic 213, 3) := by decide +kernel
theorem dX11_mortar_13 : decode cX11_mortar 13 = .ok (.ifCond .ne 5, 3) := by decide +kernel
theorem dX11_mortar_16 : decode cX11_mortar 16 = .ok (.iconst 0, 1) := by decide +kernel
theorem dX11_mortar_17 : decode cX11_mortar 17 = .ok (.ireturn, 1) := by decide +kernel
theorem dX11_mortar_18 : decode cX11_mortar 18 = .ok (.aload_n 0, 1) := by decide +kernel
theorem dX11_mortar_19 : decode cX11_mortar 19 = .ok (.getfield 85, 3) := by decide +kernel
theorem dX11_mortar_22 : decode cX11_mortar 22 = .ok (.getfield 379, 3) := by decide +kernel
theorem dX11_mortar_25 : decode cX11_mortar 25 = .ok (.iload_n 1, 1) := by decide +kernel
theorem dX11_mortar_26 : decode cX11_mortar 26 = .ok (.iload_n 2, 1) := by decide +kernel
theorem dX11_mortar_27 : decode cX11_mortar 27 = .ok (.iastore, 1) := by decide +kernel
theorem dX11_mortar_28 : decode cX11_mortar 28 = .ok (.iconst 1, 1) := by decide +kernel
theorem dX11_mortar_29 : decode cX11_mortar 29 = .ok (.ireturn, 1) := by decide +kernel
theorem dX11_weak_0 : decode cX11_weak 0 = .ok (.aload_n 0, 1) := by decide +kernel
theorem dX11_weak_1 : decode cX11_weak 1 = .ok (.iload_n 1, 1) := by decide +kernel
theorem dX11_weak_2 : decode cX11_weak 2 = .ok (.invokevirtual 173, 3) := by decide +kernel
theorem dX11_weak_5 : decode cX11_weak 5 = .ok (.iload 4, 2) := by decide +kernel
theorem dX11_weak_7 : decode cX11_weak 7 = .ok (.iconst 3, 1) := by decide +kernel
theorem dX11_weak_8 : decode cX11_weak 8 = .ok (.invokestatic 165, 3) := by decide +kernel
theorem dX11_weak_11 : decode cX11_weak 11 = .ok (.iload_n 2, 1) := by decide +kernel
theorem dX11_weak_12 : decode cX11_weak 12 = .ok (.iload_n 3, 1) := by decide +kernel
theorem dX11_weak_13 : decode cX11_weak 13 = .ok (.invokestatic 382, 3) := by decide +kernel
theorem dX11_weak_16 : decode cX11_weak 16 = .ok (.aload_n 0, 1) := by decide +kernel
theorem dX11_weak_17 : decode cX11_weak 17 = .ok (.getfield 30, 3) := by decide +kernel
theorem dX11_weak_20 : decode cX11_weak 20 = .ok (.getfield 346, 3) := by decide +kernel
theorem dX11_weak_23 : decode cX11_weak 23 = .ok (.iload_n 1, 1) := by decide +kernel
theorem dX11_weak_24 : decode cX11_weak 24 = .ok (.iaload, 1) := by decide +kernel
theorem dX11_weak_25 : decode cX11_weak 25 = .ok (.istore 5, 2) := by decide +kernel
theorem dX11_weak_27 : decode cX11_weak 27 = .ok (.aload_n 0, 1) := by decide +kernel
theorem dX11_weak_28 : decode cX11_weak 28 = .ok (.getfield 85, 3) := by decide +kernel
theorem dX11_weak_31 : decode cX11_weak 31 = .ok (.iload_n 1, 1) := by decide +kernel
theorem dX11_weak_32 : decode cX11_weak 32 = .ok (.iload_n 2, 1) := by decide +kernel
theorem dX11_weak_33 : decode cX11_weak 33 = .ok (.iload 5, 2) := by decide +kernel
theorem dX11_weak_35 : decode cX11_weak 35 = .ok (.invokevirtual 385, 3) := by decide +kernel
theorem dX11_weak_38 : decode cX11_weak 38 = .ok (.iload 4, 2) := by decide +kernel
theorem dX11_weak_40 : decode cX11_weak 40 = .ok (.ifCond .ne 14, 3) := by decide +kernel
theorem dX11_weak_43 : decode cX11_weak 43 = .ok (.aload_n 0, 1) := by decide +kernel
theorem dX11_weak_44 : decode cX11_weak 44 = .ok (.getfield 85, 3) := by decide +kernel
theorem dX11_weak_47 : decode cX11_weak 47 = .ok (.iload 5, 2) := by decide +kernel
theorem dX11_weak_49 : decode cX11_weak 49 = .ok (.iload_n 3, 1) := by decide +kernel
theorem dX11_weak_50 : decode cX11_weak 50 = .ok (.invokevirtual 388, 3) := by decide +kernel
theorem dX11_weak_53 : decode cX11_weak 53 = .ok (.ireturn, 1) := by decide +kernel
theorem dX11_weak_54 : decode cX11_weak 54 = .ok (.iload 4, 2) := by decide +kernel
theorem dX11_weak_56 : decode cX11_weak 56 = .ok (.iconst 1, 1) := by decide +kernel
theorem dX11_weak_57 : decode cX11_weak 57 = .ok (.if_icmp .ne 16, 3) := by decide +kernel
theorem dX11_weak_60 : decode cX11_weak 60 = .ok (.aload_n 0, 1) := by decide +kernel
theorem dX11_weak_61 : decode cX11_weak 61 = .ok (.getfield 85, 3) := by decide +kernel
theorem dX11_weak_64 : decode cX11_weak 64 = .ok (.iload 5, 2) := by decide +kernel
theorem dX11_weak_66 : decode cX11_weak 66 = .ok (.iload_n 3, 1) := by decide +kernel
theorem dX11_weak_67 : decode cX11_weak 67 = .ok (.invokevirtual 391, 3) := by decide +kernel
theorem dX11_weak_70 : decode cX11_weak 70 = .ok (.goto 13, 3) := by decide +kernel
theorem dX11_weak_73 : decode cX11_weak 73 = .ok (.aload_n 0, 1) := by decide +kernel
theorem dX11_weak_74 : decode cX11_weak 74 = .ok (.getfield 85, 3) := by decide +kernel
theorem dX11_weak_77 : decode cX11_weak 77 = .ok (.iload 5, 2) := by decide +kernel
theorem dX11_weak_79 : decode cX11_weak 79 = .ok (.iload_n 3, 1) := by decide +kernel
theorem dX11_weak_80 : decode cX11_weak 80 = .ok (.invokevirtual 394, 3) := by decide +kernel
theorem dX11_weak_83 : decode cX11_weak 83 = .ok (.ireturn, 1) := by decide +kernel
theorem dX11_lasts_0 : decode cX11_lasts 0 = .ok (.aload_n 0, 1) := by decide +kernel
theorem dX11_lasts_1 : decode cX11_lasts 1 = .ok (.iload_n 1, 1) := by decide +kernel
theorem dX11_lasts_2 : decode cX11_lasts 2 = .ok (.invokevirtual 173, 3) := by decide +kernel
theorem dX11_lasts_5 : decode cX11_lasts 5 = .ok (.iload_n 2, 1) := by decide +kernel
theorem dX11_lasts_6 : decode cX11_lasts 6 = .ok (.iload_n 3, 1) := by decide +kernel
theorem dX11_lasts_7 : decode cX11_lasts 7 = .ok (.invokestatic 382, 3) := by decide +kernel
theorem dX11_lasts_10 : decode cX11_lasts 10 = .ok (.aload_n 0, 1) := by decide +kernel
theorem dX11_lasts_11 : decode cX11_lasts 11 = .ok (.getfield 30, 3) := by decide +kernel
theorem dX11_lasts_14 : decode cX11_lasts 14 = .ok (.getfield 346, 3) := by decide +kernel
theorem dX11_lasts_17 : decode cX11_lasts 17 = .ok (.iload_n 1, 1) := by decide +kernel
theorem dX11_lasts_18 : decode cX11_lasts 18 = .ok (.iaload, 1) := by decide +kernel
theorem dX11_lasts_19 : decode cX11_lasts 19 = .ok (.istore 4, 2) := by decide +kernel
theorem dX11_lasts_21 : decode cX11_lasts 21 = .ok (.iconst 0, 1) := by decide +kernel
theorem dX11_lasts_22 : decode cX11_lasts 22 = .ok (.istore 5, 2) := by decide +kernel
theorem dX11_lasts_24 : decode cX11_lasts 24 = .ok (.iload 5, 2) := by decide +kernel
theorem dX11_lasts_26 : decode cX11_lasts 26 = .ok (.bipush 100, 2) := by decide +kernel
theorem dX11_lasts_28 : decode cX11_lasts 28 = .ok (.if_icmp .gt 42, 3) := by decide +kernel
theorem dX11_lasts_31 : decode cX11_lasts 31 = .ok (.aload_n 0, 1) := by decide +kernel
theorem dX11_lasts_32 : decode cX11_lasts 32 = .ok (.getfield 85, 3) := by decide +kernel
theorem dX11_lasts_35 : decode cX11_lasts 35 = .ok (.iload_n 1, 1) := by decide +kernel
theorem dX11_lasts_36 : decode cX11_lasts 36 = .ok (.iload_n 2, 1) := by decide +kernel
theorem dX11_lasts_37 : decode cX11_lasts 37 = .ok (.iload 5, 2) := by decide +kernel
theorem dX11_lasts_39 : decode cX11_lasts 39 = .ok (.iadd, 1) := by decide +kernel
theorem dX11_lasts_40 : decode cX11_lasts 40 = .ok (.iload 4, 2) := by decide +kernel
theorem dX11_lasts_42 : decode cX11_lasts 42 = .ok (.invokevirtual 385, 3) := by decide +kernel
theorem dX11_lasts_45 : decode cX11_lasts 45 = .ok (.aload_n 0, 1) := by decide +kernel
theorem dX11_lasts_46 : decode cX11_lasts 46 = .ok (.getfield 85, 3) := by decide +kernel
theorem dX11_lasts_49 : decode cX11_lasts 49 = .ok (.iload 4, 2) := by decide +kernel
theorem dX11_lasts_51 : decode cX11_lasts 51 = .ok (.iload_n 3, 1) := by decide +kernel
theorem dX11_lasts_52 : decode cX11_lasts 52 = .ok (.invokevirtual 391, 3) := by decide +kernel
theorem dX11_lasts_55 : decode cX11_lasts 55 = .ok (.iconst (-1), 1) := by decide +kernel
theorem dX11_lasts_56 : decode cX11_lasts 56 = .ok (.if_icmp .eq 8, 3) := by decide +kernel
theorem dX11_lasts_59 : decode cX11_lasts 59 = .ok (.iload_n 2, 1) := by decide +kernel
theorem dX11_lasts_60 : decode cX11_lasts 60 = .ok (.iload 5, 2) := by decide +kernel
theorem dX11_lasts_62 : decode cX11_lasts 62 = .ok (.iadd, 1) := by decide +kernel
theorem dX11_lasts_63 : decode cX11_lasts 63 = .ok (.ireturn, 1) := by decide +kernel
theorem dX11_lasts_64 : decode cX11_lasts 64 = .ok (.iinc 5 1, 3) := by decide +kernel
theorem dX11_lasts_67 : decode cX11_lasts 67 = .ok (.goto (-43), 3) := by decide +kernel
theorem dX11_lasts_70 : decode cX11_lasts 70 = .ok (.iconst (-1), 1) := by decide +kernel
theorem dX11_lasts_71 : decode cX11_lasts 71 = .ok (.ireturn, 1) := by decide +kernel
theorem dX11_bands_0 : decode cX11_bands 0 = .ok (.aload_n 0, 1) := by decide +kernel
theorem dX11_bands_1 : decode cX11_bands 1 = .ok (.iload_n 1, 1) := by decide +kernel
theorem dX11_bands_2 : decode cX11_bands 2 = .ok (.invokevirtual 173, 3) := by decide +kernel
theorem dX11_bands_5 : decode cX11_bands 5 = .ok (.iload_n 2, 1) := by decide +kernel
theorem dX11_bands_6 : decode cX11_bands 6 = .ok (.iload_n 3, 1) := by decide +kernel
theorem dX11_bands_7 : decode cX11_bands 7 = .ok (.invokestatic 382, 3) := by decide +kernel
theorem dX11_bands_10 : decode cX11_bands 10 = .ok (.iconst 1, 1) := by decide +kernel
theorem dX11_bands_11 : decode cX11_bands 11 = .ok (.iload 4, 2) := by decide +kernel
theorem dX11_bands_13 : decode cX11_bands 13 = .ok (.sipush 9999, 3) := by decide +kernel
theorem dX11_bands_16 : decode cX11_bands 16 = .ok (.invokestatic 213, 3) := by decide +kernel
theorem dX11_bands_19 : decode cX11_bands 19 = .ok (.ifCond .ne 14, 3) := by decide +kernel
theorem dX11_bands_22 : decode cX11_bands 22 = .ok (.new 107, 3) := by decide +kernel
theorem dX11_bands_25 : decode cX11_bands 25 = .ok (.dup, 1) := by decide +kernel
theorem dX11_bands_26 : decode cX11_bands 26 = .ok (.ldc_w 397, 3) := by decide +kernel
theorem dX11_bands_29 : decode cX11_bands 29 = .ok (.invokespecial 111, 3) := by decide +kernel
theorem dX11_bands_32 : decode cX11_bands 32 = .ok (.athrow, 1) := by decide +kernel
theorem dX11_bands_33 : decode cX11_bands 33 = .ok (.aload_n 0, 1) := by decide +kernel
theorem dX11_bands_34 : decode cX11_bands 34 = .ok (.getfield 30, 3) := by decide +kernel
theorem dX11_bands_37 : decode cX11_bands 37 = .ok (.getfield 346, 3) := by decide +kernel
theorem dX11_bands_40 : decode cX11_bands 40 = .ok (.iload_n 1, 1) := by decide +kernel
theorem dX11_bands_41 : decode cX11_bands 41 = .ok (.iaload, 1) := by decide +kernel
theorem dX11_bands_42 : decode cX11_bands 42 = .ok (.istore 5, 2) := by decide +kernel
theorem dX11_bands_44 : decode cX11_bands 44 = .ok (.aload_n 0, 1) := by decide +kernel
theorem dX11_bands_45 : decode cX11_bands 45 = .ok (.getfield 85, 3) := by decide +kernel
theorem dX11_bands_48 : decode cX11_bands 48 = .ok (.iload_n 1, 1) := by decide +kernel
theorem dX11_bands_49 : decode cX11_bands 49 = .ok (.iload_n 2, 1) := by decide +kernel
theorem dX11_bands_50 : decode cX11_bands 50 = .ok (.iload 5, 2) := by decide +kernel
theorem dX11_bands_52 : decode cX11_bands 52 = .ok (.invokevirtual 385, 3) := by decide +kernel
theorem dX11_bands_55 : decode cX11_bands 55 = .ok (.aload_n 0, 1) := by decide +kernel
theorem dX11_bands_56 : decode cX11_bands 56 = .ok (.getfield 85, 3) := by decide +kernel
theorem dX11_bands_59 : decode cX11_bands 59 = .ok (.iload 5, 2) := by decide +kernel
theorem dX11_bands_61 : decode cX11_bands 61 = .ok (.iload_n 3, 1) := by decide +kernel
theorem dX11_bands_62 : decode cX11_bands 62 = .ok (.iload 4, 2) := by decide +kernel
theorem dX11_bands_64 : decode cX11_bands 64 = .ok (.invokevirtual 399, 3) := by decide +kernel
theorem dX11_bands_67 : decode cX11_bands 67 = .ok (.ireturn, 1) := by decide +kernel
theorem dX11_askYearAndWind_0 : decode cX11_askYearAndWind 0 = .ok (.iconst 0, 1) := by decide +kernel
theorem dX11_askYearAndWind_1 : decode cX11_askYearAndWind 1 = .ok (.iload_n 0, 1) := by decide +kernel
theorem dX11_askYearAndWind_2 : decode cX11_askYearAndWind 2 = .ok (.sipush 500, 3) := by decide +kernel
theorem dX11_askYearAndWind_5 : decode cX11_askYearAndWind 5 = .ok (.invokestatic 213, 3) := by decide +kernel
theorem dX11_askYearAndWind_8 : decode cX11_askYearAndWind 8 = .ok (.ifCond .eq 13, 3) := by decide +kernel
theorem dX11_askYearAndWind_11 : decode cX11_askYearAndWind 11 = .ok (.iconst 0, 1) := by decide +kernel
theorem dX11_askYearAndWind_12 : decode cX11_askYearAndWind 12 = .ok (.iload_n 1, 1) := by decide +kernel
theorem dX11_askYearAndWind_13 : decode cX11_askYearAndWind 13 = .ok (.bipush 13, 2) := by decide +kernel
theorem dX11_askYearAndWind_15 : decode cX11_askYearAndWind 15 = .ok (.invokestatic 213, 3) := by decide +kernel
theorem dX11_askYearAndWind_18 : decode cX11_askYearAndWind 18 = .ok (.ifCond .ne 14, 3) := by decide +kernel
theorem dX11_askYearAndWind_21 : decode cX11_askYearAndWind 21 = .ok (.new 107, 3) := by decide +kernel
theorem dX11_askYearAndWind_24 : decode cX11_askYearAndWind 24 = .ok (.dup, 1) := by decide +kernel
theorem dX11_askYearAndWind_25 : decode cX11_askYearAndWind 25 = .ok (.ldc_w 403, 3) := by decide +kernel
theorem dX11_askYearAndWind_28 : decode cX11_askYearAndWind 28 = .ok (.invokespecial 111, 3) := by decide +kernel
theorem dX11_askYearAndWind_31 : decode cX11_askYearAndWind 31 = .ok (.athrow, 1) := by decide +kernel
theorem dX11_askYearAndWind_32 : decode cX11_askYearAndWind 32 = .ok (.return_, 1) := by decide +kernel
theorem dX11_risk_0 : decode cX11_risk 0 = .ok (.aload_n 0, 1) := by decide +kernel
theorem dX11_risk_1 : decode cX11_risk 1 = .ok (.iload_n 1, 1) := by decide +kernel
theorem dX11_risk_2 : decode cX11_risk 2 = .ok (.invokevirtual 173, 3) := by decide +kernel
theorem dX11_risk_5 : decode cX11_risk 5 = .ok (.iconst 0, 1) := by decide +kernel
theorem dX11_risk_6 : decode cX11_risk 6 = .ok (.iload_n 2, 1) := by decide +kernel
theorem dX11_risk_7 : decode cX11_risk 7 = .ok (.sipush 999, 3) := by decide +kernel
theorem dX11_risk_10 : decode cX11_risk 10 = .ok (.invokestatic 213, 3) := by decide +kernel
theorem dX11_risk_13 : decode cX11_risk 13 = .ok (.ifCond .eq 13, 3) := by decide +kernel
theorem dX11_risk_16 : decode cX11_risk 16 = .ok (.iconst 1, 1) := by decide +kernel
theorem dX11_risk_17 : decode cX11_risk 17 = .ok (.iload_n 3, 1) := by decide +kernel
theorem dX11_risk_18 : decode cX11_risk 18 = .ok (.bipush 99, 2) := by decide +kernel
theorem dX11_risk_20 : decode cX11_risk 20 = .ok (.invokestatic 213, 3) := by decide +kernel
theorem dX11_risk_23 : decode cX11_risk 23 = .ok (.ifCond .ne 5, 3) := by decide +kernel
theorem dX11_risk_26 : decode cX11_risk 26 = .ok (.iconst 0, 1) := by decide +kernel
theorem dX11_risk_27 : decode cX11_risk 27 = .ok (.ireturn, 1) := by decide +kernel
theorem dX11_risk_28 : decode cX11_risk 28 = .ok (.aload_n 0, 1) := by decide +kernel
theorem dX11_risk_29 : decode cX11_risk 29 = .ok (.getfield 92, 3) := by decide +kernel
theorem dX11_risk_32 : decode cX11_risk 32 = .ok (.getfield 405, 3) := by decide +kernel
theorem dX11_risk_35 : decode cX11_risk 35 = .ok (.iload_n 1, 1) := by decide +kernel
theorem dX11_risk_36 : decode cX11_risk 36 = .ok (.iload_n 2, 1) := by decide +kernel
theorem dX11_risk_37 : decode cX11_risk 37 = .ok (.iastore, 1) := by decide +kernel
theorem dX11_risk_38 : decode cX11_risk 38 = .ok (.aload_n 0, 1) := by decide +kernel
theorem dX11_risk_39 : decode cX11_risk 39 = .ok (.getfield 92, 3) := by decide +kernel
theorem dX11_risk_42 : decode cX11_risk 42 = .ok (.getfield 408, 3) := by decide +kernel
theorem dX11_risk_45 : decode cX11_risk 45 = .ok (.iload_n 1, 1) := by decide +kernel
theorem dX11_risk_46 : decode cX11_risk 46 = .ok (.iload_n 3, 1) := by decide +kernel
theorem dX11_risk_47 : decode cX11_risk 47 = .ok (.iastore, 1) := by decide +kernel
theorem dX11_risk_48 : decode cX11_risk 48 = .ok (.iconst 1, 1) := by decide +kernel
theorem dX11_risk_49 : decode cX11_risk 49 = .ok (.ireturn, 1) := by decide +kernel
theorem dX11_order_0 : decode cX11_order 0 = .ok (.iload_n 1, 1) := by decide +kernel
theorem dX11_order_1 : decode cX11_order 1 = .ok (.ifCond .eq 24, 3) := by decide +kernel
theorem dX11_order_4 : decode cX11_order 4 = .ok (.iload_n 1, 1) := by decide +kernel
theorem dX11_order_5 : decode cX11_order 5 = .ok (.aload_n 0, 1) := by decide +kernel
theorem dX11_order_6 : decode cX11_order 6 = .ok (.getfield 30, 3) := by decide +kernel
theorem dX11_order_9 : decode cX11_order 9 = .ok (.getfield 136, 3) := by decide +kernel
theorem dX11_order_12 : decode cX11_order 12 = .ok (.iushr, 1) := by decide +kernel
theorem dX11_order_13 : decode cX11_order 13 = .ok (.ifCond .ne 12, 3) := by decide +kernel
theorem dX11_order_16 : decode cX11_order 16 = .ok (.iload_n 1, 1) := by decide +kernel
theorem dX11_order_17 : decode cX11_order 17 = .ok (.invokestatic 411, 3) := by decide +kernel
theorem dX11_order_20 : decode cX11_order 20 = .ok (.bipush 9, 2) := by decide +kernel
theorem dX11_order_22 : decode cX11_order 22 = .ok (.if_icmp .le 5, 3) := by decide +kernel
theorem dX11_order_25 : decode cX11_order 25 = .ok (.iconst (-1), 1) := by decide +kernel
theorem dX11_order_26 : decode cX11_order 26 = .ok (.ireturn, 1) := by decide +kernel
theorem dX11_order_27 : decode cX11_order 27 = .ok (.aload_n 0, 1) := by decide +kernel
theorem dX11_order_28 : decode cX11_order 28 = .ok (.getfield 92, 3) := by decide +kernel
theorem dX11_order_31 : decode cX11_order 31 = .ok (.aload_n 0, 1) := by decide +kernel
theorem dX11_order_32 : decode cX11_order 32 = .ok (.getfield 30, 3) := by decide +kernel
theorem dX11_order_35 : decode cX11_order 35 = .ok (.iload_n 1, 1) := by decide +kernel
theorem dX11_order_36 : decode cX11_order 36 = .ok (.invokevirtual 416, 3) := by decide +kernel
theorem dX11_order_39 : decode cX11_order 39 = .ok (.ireturn, 1) := by decide +kernel
theorem dX11_ordered_0 : decode cX11_ordered 0 = .ok (.iload_n 1, 1) := by decide +kernel
theorem dX11_ordered_1 : decode cX11_ordered 1 = .ok (.ifCond .lt 14, 3) := by decide +kernel
theorem dX11_ordered_4 : decode cX11_ordered 4 = .ok (.iload_n 1, 1) := by decide +kernel
theorem dX11_ordered_5 : decode cX11_ordered 5 = .ok (.aload_n 0, 1) := by decide +kernel
theorem dX11_ordered_6 : decode cX11_ordered 6 = .ok (.getfield 92, 3) := by decide +kernel
theorem dX11_ordered_9 : decode cX11_ordered 9 = .ok (.getfield 418, 3) := by decide +kernel
theorem dX11_ordered_12 : decode cX11_ordered 12 = .ok (.if_icmp .lt 14, 3) := by decide +kernel
theorem dX11_ordered_15 : decode cX11_ordered 15 = .ok (.new 157, 3) := by decide +kernel
theorem dX11_ordered_18 : decode cX11_ordered 18 = .ok (.dup, 1) := by decide +kernel
theorem dX11_ordered_19 : decode cX11_ordered 19 = .ok (.ldc_w 419, 3) := by decide +kernel
theorem dX11_ordered_22 : decode cX11_ordered 22 = .ok (.invokespecial 161, 3) := by decide +kernel
theorem dX11_ordered_25 : decode cX11_ordered 25 = .ok (.athrow, 1) := by decide +kernel
theorem dX11_ordered_26 : decode cX11_ordered 26 = .ok (.aload_n 0, 1) := by decide +kernel
theorem dX11_ordered_27 : decode cX11_ordered 27 = .ok (.getfield 92, 3) := by decide +kernel
theorem dX11_ordered_30 : decode cX11_ordered 30 = .ok (.getfield 421, 3) := by decide +kernel
theorem dX11_ordered_33 : decode cX11_ordered 33 = .ok (.iload_n 1, 1) := by decide +kernel
theorem dX11_ordered_34 : decode cX11_ordered 34 = .ok (.iaload, 1) := by decide +kernel
theorem dX11_ordered_35 : decode cX11_ordered 35 = .ok (.ireturn, 1) := by decide +kernel
theorem dX11_ladders_0 : decode cX11_ladders 0 = .ok (.aload_n 0, 1) := by decide +kernel
theorem dX11_ladders_1 : decode cX11_ladders 1 = .ok (.iload_n 1, 1) := by decide +kernel
theorem dX11_ladders_2 : decode cX11_ladders 2 = .ok (.invokevirtual 173, 3) := by decide +kernel
theorem dX11_ladders_5 : decode cX11_ladders 5 = .ok (.iload_n 2, 1) := by decide +kernel
theorem dX11_ladders_6 : decode cX11_ladders 6 = .ok (.invokestatic 422, 3) := by decide +kernel
theorem dX11_ladders_9 : decode cX11_ladders 9 = .ok (.aload_n 0, 1) := by decide +kernel
theorem dX11_ladders_10 : decode cX11_ladders 10 = .ok (.getfield 30, 3) := by decide +kernel
theorem dX11_ladders_13 : decode cX11_ladders 13 = .ok (.getfield 346, 3) := by decide +kernel
theorem dX11_ladders_16 : decode cX11_ladders 16 = .ok (.iload_n 1, 1) := by decide +kernel
theorem dX11_ladders_17 : decode cX11_ladders 17 = .ok (.iaload, 1) := by decide +kernel
theorem dX11_ladders_18 : decode cX11_ladders 18 = .ok (.iload_n 2, 1) := by decide +kernel
theorem dX11_ladders_19 : decode cX11_ladders 19 = .ok (.invokestatic 425, 3) := by decide +kernel
theorem dX11_ladders_22 : decode cX11_ladders 22 = .ok (.ireturn, 1) := by decide +kernel
theorem dX11_out_0 : decode cX11_out 0 = .ok (.iconst 0, 1) := by decide +kernel
theorem dX11_out_1 : decode cX11_out 1 = .ok (.iload_n 1, 1) := by decide +kernel
theorem dX11_out_2 : decode cX11_out 2 = .ok (.sipush 200, 3) := by decide +kernel
theorem dX11_out_5 : decode cX11_out 5 = .ok (.invokestatic 213, 3) := by decide +kernel
theorem dX11_out_8 : decode cX11_out 8 = .ok (.ifCond .ne 14, 3) := by decide +kernel
theorem dX11_out_11 : decode cX11_out 11 = .ok (.new 107, 3) := by decide +kernel
theorem dX11_out_14 : decode cX11_out 14 = .ok (.dup, 1) := by decide +kernel
theorem dX11_out_15 : decode cX11_out 15 = .ok (.ldc_w 428, 3) := by decide +kernel
theorem dX11_out_18 : decode cX11_out 18 = .ok (.invokespecial 111, 3) := by decide +kernel
theorem dX11_out_21 : decode cX11_out 21 = .ok (.athrow, 1) := by decide +kernel
theorem dX11_out_22 : decode cX11_out 22 = .ok (.iload_n 2, 1) := by decide +kernel
theorem dX11_out_23 : decode cX11_out 23 = .ok (.invokestatic 422, 3) := by decide +kernel
theorem dX11_out_26 : decode cX11_out 26 = .ok (.aload_n 0, 1) := by decide +kernel
theorem dX11_out_27 : decode cX11_out 27 = .ok (.getfield 64, 3) := by decide +kernel
theorem dX11_out_30 : decode cX11_out 30 = .ok (.aload_n 0, 1) := by decide +kernel
theorem dX11_out_31 : decode cX11_out 31 = .ok (.getfield 30, 3) := by decide +kernel
theorem dX11_out_34 : decode cX11_out 34 = .ok (.iload_n 1, 1) := by decide +kernel
theorem dX11_out_35 : decode cX11_out 35 = .ok (.iload_n 2, 1) := by decide +kernel
theorem dX11_out_36 : decode cX11_out 36 = .ok (.invokevirtual 430, 3) := by decide +kernel
theorem dX11_out_39 : decode cX11_out 39 = .ok (.ireturn, 1) := by decide +kernel
theorem dX11_askLadder_0 : decode cX11_askLadder 0 = .ok (.iconst 3, 1) := by decide +kernel
theorem dX11_askLadder_1 : decode cX11_askLadder 1 = .ok (.iload_n 0, 1) := by decide +kernel
theorem dX11_askLadder_2 : decode cX11_askLadder 2 = .ok (.bipush 99, 2) := by decide +kernel
theorem dX11_askLadder_4 : decode cX11_askLadder 4 = .ok (.invokestatic 213, 3) := by decide +kernel
theorem dX11_askLadder_7 : decode cX11_askLadder 7 = .ok (.ifCond .ne 14, 3) := by decide +kernel
theorem dX11_askLadder_10 : decode cX11_askLadder 10 = .ok (.new 107, 3) := by decide +kernel
theorem dX11_askLadder_13 : decode cX11_askLadder 13 = .ok (.dup, 1) := by decide +kernel
theorem dX11_askLadder_14 : decode cX11_askLadder 14 = .ok (.ldc_w 428, 3) := by decide +kernel
theorem dX11_askLadder_17 : decode cX11_askLadder 17 = .ok (.invokespecial 111, 3) := by decide +kernel
theorem dX11_askLadder_20 : decode cX11_askLadder 20 = .ok (.athrow, 1) := by decide +kernel
theorem dX11_askLadder_21 : decode cX11_askLadder 21 = .ok (.return_, 1) := by decide +kernel
theorem dX11_means_0 : decode cX11_means 0 = .ok (.iload_n 1, 1) := by decide +kernel
theorem dX11_means_1 : decode cX11_means 1 = .ok (.invokestatic 434, 3) := by decide +kernel
theorem dX11_means_4 : decode cX11_means 4 = .ok (.iconst 0, 1) := by decide +kernel
theorem dX11_means_5 : decode cX11_means 5 = .ok (.iload_n 2, 1) := by decide +kernel
theorem dX11_means_6 : decode cX11_means 6 = .ok (.sipush 9999, 3) := by decide +kernel
theorem dX11_means_9 : decode cX11_means 9 = .ok (.invokestatic 213, 3) := by decide +kernel
theorem dX11_means_12 : decode cX11_means 12 = .ok (.ifCond .ne 5, 3) := by decide +kernel
theorem dX11_means_15 : decode cX11_means 15 = .ok (.iconst 0, 1) := by decide +kernel
theorem dX11_means_16 : decode cX11_means 16 = .ok (.ireturn, 1) := by decide +kernel
theorem dX11_means_17 : decode cX11_means 17 = .ok (.aload_n 0, 1) := by decide +kernel
theorem dX11_means_18 : decode cX11_means 18 = .ok (.getfield 99, 3) := by decide +kernel
theorem dX11_means_21 : decode cX11_means 21 = .ok (.getfield 437, 3) := by decide +kernel
theorem dX11_means_24 : decode cX11_means 24 = .ok (.iload_n 1, 1) := by decide +kernel
theorem dX11_means_25 : decode cX11_means 25 = .ok (.iload_n 2, 1) := by decide +kernel
theorem dX11_means_26 : decode cX11_means 26 = .ok (.iastore, 1) := by decide +kernel
theorem dX11_means_27 : decode cX11_means 27 = .ok (.iconst 1, 1) := by decide +kernel
theorem dX11_means_28 : decode cX11_means 28 = .ok (.ireturn, 1) := by decide +kernel
theorem dX11_part_0 : decode cX11_part 0 = .ok (.aload_n 0, 1) := by decide +kernel
theorem dX11_part_1 : decode cX11_part 1 = .ok (.iload_n 1, 1) := by decide +kernel
theorem dX11_part_2 : decode cX11_part 2 = .ok (.invokevirtual 173, 3) := by decide +kernel
theorem dX11_part_5 : decode cX11_part 5 = .ok (.iload_n 2, 1) := by decide +kernel
theorem dX11_part_6 : decode cX11_part 6 = .ok (.invokestatic 434, 3) := by decide +kernel
theorem dX11_part_9 : decode cX11_part 9 = .ok (.iconst 0, 1) := by decide +kernel
theorem dX11_part_10 : decode cX11_part 10 = .ok (.iload_n 3, 1) := by decide +kernel
theorem dX11_part_11 : decode cX11_part 11 = .ok (.bipush 100, 2) := by decide +kernel
theorem dX11_part_13 : decode cX11_part 13 = .ok (.invokestatic 213, 3) := by decide +kernel
theorem dX11_part_16 : decode cX11_part 16 = .ok (.ifCond .ne 5, 3) := by decide +kernel
theorem dX11_part_19 : decode cX11_part 19 = .ok (.iconst 0, 1) := by decide +kernel
theorem dX11_part_20 : decode cX11_part 20 = .ok (.ireturn, 1) := by decide +kernel
theorem dX11_part_21 : decode cX11_part 21 = .ok (.aload_n 0, 1) := by decide +kernel
theorem dX11_part_22 : decode cX11_part 22 = .ok (.getfield 99, 3) := by decide +kernel
theorem dX11_part_25 : decode cX11_part 25 = .ok (.getfield 440, 3) := by decide +kernel
theorem dX11_part_28 : decode cX11_part 28 = .ok (.iload_n 1, 1) := by decide +kernel
theorem dX11_part_29 : decode cX11_part 29 = .ok (.bipush 6, 2) := by decide +kernel
theorem dX11_part_31 : decode cX11_part 31 = .ok (.imul, 1) := by decide +kernel
theorem dX11_part_32 : decode cX11_part 32 = .ok (.iload_n 2, 1) := by decide +kernel
theorem dX11_part_33 : decode cX11_part 33 = .ok (.iadd, 1) := by decide +kernel
theorem dX11_part_34 : decode cX11_part 34 = .ok (.iload_n 3, 1) := by decide +kernel
theorem dX11_part_35 : decode cX11_part 35 = .ok (.iastore, 1) := by decide +kernel
theorem dX11_part_36 : decode cX11_part 36 = .ok (.iconst 1, 1) := by decide +kernel
theorem dX11_part_37 : decode cX11_part 37 = .ok (.ireturn, 1) := by decide +kernel
theorem dX11_bill_0 : decode cX11_bill 0 = .ok (.aload_n 0, 1) := by decide +kernel
theorem dX11_bill_1 : decode cX11_bill 1 = .ok (.iload_n 1, 1) := by decide +kernel
theorem dX11_bill_2 : decode cX11_bill 2 = .ok (.invokevirtual 173, 3) := by decide +kernel
theorem dX11_bill_5 : decode cX11_bill 5 = .ok (.iconst 1, 1) := by decide +kernel
theorem dX11_bill_6 : decode cX11_bill 6 = .ok (.iload_n 2, 1) := by decide +kernel
theorem dX11_bill_7 : decode cX11_bill 7 = .ok (.ldc_w 443, 3) := by decide +kernel
theorem dX11_bill_10 : decode cX11_bill 10 = .ok (.invokestatic 213, 3) := by decide +kernel
theorem dX11_bill_13 : decode cX11_bill 13 = .ok (.ifCond .ne 14, 3) := by decide +kernel
theorem dX11_bill_16 : decode cX11_bill 16 = .ok (.new 107, 3) := by decide +kernel
theorem dX11_bill_19 : decode cX11_bill 19 = .ok (.dup, 1) := by decide +kernel
theorem dX11_bill_20 : decode cX11_bill 20 = .ok (.ldc_w 444, 3) := by decide +kernel
theorem dX11_bill_23 : decode cX11_bill 23 = .ok (.invokespecial 111, 3) := by decide +kernel
theorem dX11_bill_26 : decode cX11_bill 26 = .ok (.athrow, 1) := by decide +kernel
theorem dX11_bill_27 : decode cX11_bill 27 = .ok (.aload_n 0, 1) := by decide +kernel
theorem dX11_bill_28 : decode cX11_bill 28 = .ok (.getfield 99, 3) := by decide +kernel
theorem dX11_bill_31 : decode cX11_bill 31 = .ok (.iload_n 1, 1) := by decide +kernel
theorem dX11_bill_32 : decode cX11_bill 32 = .ok (.iload_n 2, 1) := by decide +kernel
theorem dX11_bill_33 : decode cX11_bill 33 = .ok (.invokevirtual 446, 3) := by decide +kernel
theorem dX11_bill_36 : decode cX11_bill 36 = .ok (.ireturn, 1) := by decide +kernel
theorem dX11_paid_0 : decode cX11_paid 0 = .ok (.iload_n 1, 1) := by decide +kernel
theorem dX11_paid_1 : decode cX11_paid 1 = .ok (.invokestatic 434, 3) := by decide +kernel
theorem dX11_paid_4 : decode cX11_paid 4 = .ok (.iload_n 2, 1) := by decide +kernel
theorem dX11_paid_5 : decode cX11_paid 5 = .ok (.iconst 2, 1) := by decide +kernel
theorem dX11_paid_6 : decode cX11_paid 6 = .ok (.invokestatic 165, 3) := by decide +kernel
theorem dX11_paid_9 : decode cX11_paid 9 = .ok (.iload_n 2, 1) := by decide +kernel
theorem dX11_paid_10 : decode cX11_paid 10 = .ok (.ifCond .ne 15, 3) := by decide +kernel
theorem dX11_paid_13 : decode cX11_paid 13 = .ok (.aload_n 0, 1) := by decide +kernel
theorem dX11_paid_14 : decode cX11_paid 14 = .ok (.getfield 99, 3) := by decide +kernel
theorem dX11_paid_17 : decode cX11_paid 17 = .ok (.getfield 449, 3) := by decide +kernel
theorem dX11_paid_20 : decode cX11_paid 20 = .ok (.iload_n 1, 1) := by decide +kernel
theorem dX11_paid_21 : decode cX11_paid 21 = .ok (.iaload, 1) := by decide +kernel
theorem dX11_paid_22 : decode cX11_paid 22 = .ok (.goto 12, 3) := by decide +kernel
theorem dX11_paid_25 : decode cX11_paid 25 = .ok (.aload_n 0, 1) := by decide +kernel
theorem dX11_paid_26 : decode cX11_paid 26 = .ok (.getfield 99, 3) := by decide +kernel
theorem dX11_paid_29 : decode cX11_paid 29 = .ok (.getfield 437, 3) := by decide +kernel
theorem dX11_paid_32 : decode cX11_paid 32 = .ok (.iload_n 1, 1) := by decide +kernel
theorem dX11_paid_33 : decode cX11_paid 33 = .ok (.iaload, 1) := by decide +kernel
theorem dX11_paid_34 : decode cX11_paid 34 = .ok (.ireturn, 1) := by decide +kernel
