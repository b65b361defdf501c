theorem dX0_init_0 : decode cX0_init 0 = .ok (.aload_n 0, 1) := by decide +kernel
theorem dX0_init_1 : decode cX0_init 1 = .ok (.invokespecial 3, 3) := by decide +kernel
theorem dX0_init_4 : decode cX0_init 4 = .ok (.aload_n 0, 1) := by decide +kernel
theorem dX0_init_5 : decode cX0_init 5 = .ok (.bipush 20, 2) := by decide +kernel
theorem dX0_init_7 : decode cX0_init 7 = .ok (.newarray .int, 2) := by decide +kernel
theorem dX0_init_9 : decode cX0_init 9 = .ok (.putfield 11, 3) := by decide +kernel
theorem dX0_init_12 : decode cX0_init 12 = .ok (.aload_n 0, 1) := by decide +kernel
theorem dX0_init_13 : decode cX0_init 13 = .ok (.iconst 0, 1) := by decide +kernel
theorem dX0_init_14 : decode cX0_init 14 = .ok (.putfield 15, 3) := by decide +kernel
theorem dX0_init_17 : decode cX0_init 17 = .ok (.aload_n 0, 1) := by decide +kernel
theorem dX0_init_18 : decode cX0_init 18 = .ok (.sipush 360, 3) := by decide +kernel
theorem dX0_init_21 : decode cX0_init 21 = .ok (.newarray .int, 2) := by decide +kernel
theorem dX0_init_23 : decode cX0_init 23 = .ok (.putfield 19, 3) := by decide +kernel
theorem dX0_init_26 : decode cX0_init 26 = .ok (.aload_n 0, 1) := by decide +kernel
theorem dX0_init_27 : decode cX0_init 27 = .ok (.bipush 7, 2) := by decide +kernel
theorem dX0_init_29 : decode cX0_init 29 = .ok (.newarray .int, 2) := by decide +kernel
theorem dX0_init_31 : decode cX0_init 31 = .ok (.putfield 22, 3) := by decide +kernel
theorem dX0_init_34 : decode cX0_init 34 = .ok (.aload_n 0, 1) := by decide +kernel
theorem dX0_init_35 : decode cX0_init 35 = .ok (.bipush 6, 2) := by decide +kernel
theorem dX0_init_37 : decode cX0_init 37 = .ok (.putfield 25, 3) := by decide +kernel
theorem dX0_init_40 : decode cX0_init 40 = .ok (.aload_n 0, 1) := by decide +kernel
theorem dX0_init_41 : decode cX0_init 41 = .ok (.bipush 50, 2) := by decide +kernel
theorem dX0_init_43 : decode cX0_init 43 = .ok (.newarray .int, 2) := by decide +kernel
theorem dX0_init_45 : decode cX0_init 45 = .ok (.putfield 28, 3) := by decide +kernel
theorem dX0_init_48 : decode cX0_init 48 = .ok (.aload_n 0, 1) := by decide +kernel
theorem dX0_init_49 : decode cX0_init 49 = .ok (.iconst 0, 1) := by decide +kernel
theorem dX0_init_50 : decode cX0_init 50 = .ok (.putfield 31, 3) := by decide +kernel
theorem dX0_init_53 : decode cX0_init 53 = .ok (.return_, 1) := by decide +kernel
theorem dX0_clear_0 : decode cX0_clear 0 = .ok (.aload_n 0, 1) := by decide +kernel
theorem dX0_clear_1 : decode cX0_clear 1 = .ok (.getfield 19, 3) := by decide +kernel
theorem dX0_clear_4 : decode cX0_clear 4 = .ok (.iconst 0, 1) := by decide +kernel
theorem dX0_clear_5 : decode cX0_clear 5 = .ok (.invokestatic 34, 3) := by decide +kernel
theorem dX0_clear_8 : decode cX0_clear 8 = .ok (.aload_n 0, 1) := by decide +kernel
theorem dX0_clear_9 : decode cX0_clear 9 = .ok (.getfield 22, 3) := by decide +kernel
theorem dX0_clear_12 : decode cX0_clear 12 = .ok (.iconst 0, 1) := by decide +kernel
theorem dX0_clear_13 : decode cX0_clear 13 = .ok (.invokestatic 34, 3) := by decide +kernel
theorem dX0_clear_16 : decode cX0_clear 16 = .ok (.aload_n 0, 1) := by decide +kernel
theorem dX0_clear_17 : decode cX0_clear 17 = .ok (.iconst 0, 1) := by decide +kernel
theorem dX0_clear_18 : decode cX0_clear 18 = .ok (.putfield 31, 3) := by decide +kernel
theorem dX0_clear_21 : decode cX0_clear 21 = .ok (.return_, 1) := by decide +kernel
theorem dX0_copy_0 : decode cX0_copy 0 = .ok (.aload_n 1, 1) := by decide +kernel
theorem dX0_copy_1 : decode cX0_copy 1 = .ok (.getfield 11, 3) := by decide +kernel
theorem dX0_copy_4 : decode cX0_copy 4 = .ok (.iconst 0, 1) := by decide +kernel
theorem dX0_copy_5 : decode cX0_copy 5 = .ok (.aload_n 0, 1) := by decide +kernel
theorem dX0_copy_6 : decode cX0_copy 6 = .ok (.getfield 11, 3) := by decide +kernel
theorem dX0_copy_9 : decode cX0_copy 9 = .ok (.iconst 0, 1) := by decide +kernel
theorem dX0_copy_10 : decode cX0_copy 10 = .ok (.bipush 20, 2) := by decide +kernel
theorem dX0_copy_12 : decode cX0_copy 12 = .ok (.invokestatic 40, 3) := by decide +kernel
theorem dX0_copy_15 : decode cX0_copy 15 = .ok (.aload_n 1, 1) := by decide +kernel
theorem dX0_copy_16 : decode cX0_copy 16 = .ok (.getfield 19, 3) := by decide +kernel
theorem dX0_copy_19 : decode cX0_copy 19 = .ok (.iconst 0, 1) := by decide +kernel
theorem dX0_copy_20 : decode cX0_copy 20 = .ok (.aload_n 0, 1) := by decide +kernel
theorem dX0_copy_21 : decode cX0_copy 21 = .ok (.getfield 19, 3) := by decide +kernel
theorem dX0_copy_24 : decode cX0_copy 24 = .ok (.iconst 0, 1) := by decide +kernel
theorem dX0_copy_25 : decode cX0_copy 25 = .ok (.sipush 360, 3) := by decide +kernel
theorem dX0_copy_28 : decode cX0_copy 28 = .ok (.invokestatic 40, 3) := by decide +kernel
theorem dX0_copy_31 : decode cX0_copy 31 = .ok (.aload_n 1, 1) := by decide +kernel
theorem dX0_copy_32 : decode cX0_copy 32 = .ok (.getfield 22, 3) := by decide +kernel
theorem dX0_copy_35 : decode cX0_copy 35 = .ok (.iconst 0, 1) := by decide +kernel
theorem dX0_copy_36 : decode cX0_copy 36 = .ok (.aload_n 0, 1) := by decide +kernel
theorem dX0_copy_37 : decode cX0_copy 37 = .ok (.getfield 22, 3) := by decide +kernel
theorem dX0_copy_40 : decode cX0_copy 40 = .ok (.iconst 0, 1) := by decide +kernel
theorem dX0_copy_41 : decode cX0_copy 41 = .ok (.bipush 7, 2) := by decide +kernel
theorem dX0_copy_43 : decode cX0_copy 43 = .ok (.invokestatic 40, 3) := by decide +kernel
theorem dX0_copy_46 : decode cX0_copy 46 = .ok (.aload_n 1, 1) := by decide +kernel
theorem dX0_copy_47 : decode cX0_copy 47 = .ok (.getfield 28, 3) := by decide +kernel
theorem dX0_copy_50 : decode cX0_copy 50 = .ok (.iconst 0, 1) := by decide +kernel
theorem dX0_copy_51 : decode cX0_copy 51 = .ok (.aload_n 0, 1) := by decide +kernel
theorem dX0_copy_52 : decode cX0_copy 52 = .ok (.getfield 28, 3) := by decide +kernel
theorem dX0_copy_55 : decode cX0_copy 55 = .ok (.iconst 0, 1) := by decide +kernel
theorem dX0_copy_56 : decode cX0_copy 56 = .ok (.bipush 50, 2) := by decide +kernel
theorem dX0_copy_58 : decode cX0_copy 58 = .ok (.invokestatic 40, 3) := by decide +kernel
theorem dX0_copy_61 : decode cX0_copy 61 = .ok (.aload_n 0, 1) := by decide +kernel
theorem dX0_copy_62 : decode cX0_copy 62 = .ok (.aload_n 1, 1) := by decide +kernel
theorem dX0_copy_63 : decode cX0_copy 63 = .ok (.getfield 15, 3) := by decide +kernel
theorem dX0_copy_66 : decode cX0_copy 66 = .ok (.putfield 15, 3) := by decide +kernel
theorem dX0_copy_69 : decode cX0_copy 69 = .ok (.aload_n 0, 1) := by decide +kernel
theorem dX0_copy_70 : decode cX0_copy 70 = .ok (.aload_n 1, 1) := by decide +kernel
theorem dX0_copy_71 : decode cX0_copy 71 = .ok (.getfield 25, 3) := by decide +kernel
theorem dX0_copy_74 : decode cX0_copy 74 = .ok (.putfield 25, 3) := by decide +kernel
theorem dX0_copy_77 : decode cX0_copy 77 = .ok (.aload_n 0, 1) := by decide +kernel
theorem dX0_copy_78 : decode cX0_copy 78 = .ok (.aload_n 1, 1) := by decide +kernel
theorem dX0_copy_79 : decode cX0_copy 79 = .ok (.getfield 31, 3) := by decide +kernel
theorem dX0_copy_82 : decode cX0_copy 82 = .ok (.putfield 31, 3) := by decide +kernel
theorem dX0_copy_85 : decode cX0_copy 85 = .ok (.return_, 1) := by decide +kernel
theorem dX0_addRope_0 : decode cX0_addRope 0 = .ok (.aload_n 0, 1) := by decide +kernel
theorem dX0_addRope_1 : decode cX0_addRope 1 = .ok (.getfield 15, 3) := by decide +kernel
theorem dX0_addRope_4 : decode cX0_addRope 4 = .ok (.bipush 20, 2) := by decide +kernel
theorem dX0_addRope_6 : decode cX0_addRope 6 = .ok (.if_icmp .lt 5, 3) := by decide +kernel
theorem dX0_addRope_9 : decode cX0_addRope 9 = .ok (.iconst (-1), 1) := by decide +kernel
theorem dX0_addRope_10 : decode cX0_addRope 10 = .ok (.ireturn, 1) := by decide +kernel
theorem dX0_addRope_11 : decode cX0_addRope 11 = .ok (.aload_n 0, 1) := by decide +kernel
theorem dX0_addRope_12 : decode cX0_addRope 12 = .ok (.getfield 11, 3) := by decide +kernel
theorem dX0_addRope_15 : decode cX0_addRope 15 = .ok (.aload_n 0, 1) := by decide +kernel
theorem dX0_addRope_16 : decode cX0_addRope 16 = .ok (.getfield 15, 3) := by decide +kernel
theorem dX0_addRope_19 : decode cX0_addRope 19 = .ok (.iload_n 1, 1) := by decide +kernel
theorem dX0_addRope_20 : decode cX0_addRope 20 = .ok (.iastore, 1) := by decide +kernel
theorem dX0_addRope_21 : decode cX0_addRope 21 = .ok (.aload_n 0, 1) := by decide +kernel
theorem dX0_addRope_22 : decode cX0_addRope 22 = .ok (.dup, 1) := by decide +kernel
theorem dX0_addRope_23 : decode cX0_addRope 23 = .ok (.getfield 15, 3) := by decide +kernel
theorem dX0_addRope_26 : decode cX0_addRope 26 = .ok (.iconst 1, 1) := by decide +kernel
theorem dX0_addRope_27 : decode cX0_addRope 27 = .ok (.iadd, 1) := by decide +kernel
theorem dX0_addRope_28 : decode cX0_addRope 28 = .ok (.putfield 15, 3) := by decide +kernel
theorem dX0_addRope_31 : decode cX0_addRope 31 = .ok (.aload_n 0, 1) := by decide +kernel
theorem dX0_addRope_32 : decode cX0_addRope 32 = .ok (.getfield 15, 3) := by decide +kernel
theorem dX0_addRope_35 : decode cX0_addRope 35 = .ok (.iconst 1, 1) := by decide +kernel
theorem dX0_addRope_36 : decode cX0_addRope 36 = .ok (.isub, 1) := by decide +kernel
theorem dX0_addRope_37 : decode cX0_addRope 37 = .ok (.ireturn, 1) := by decide +kernel
theorem dX0_isUp_0 : decode cX0_isUp 0 = .ok (.iconst 0, 1) := by decide +kernel
theorem dX0_isUp_1 : decode cX0_isUp 1 = .ok (.istore_n 3, 1) := by decide +kernel
theorem dX0_isUp_2 : decode cX0_isUp 2 = .ok (.iload_n 3, 1) := by decide +kernel
theorem dX0_isUp_3 : decode cX0_isUp 3 = .ok (.bipush 12, 2) := by decide +kernel
theorem dX0_isUp_5 : decode cX0_isUp 5 = .ok (.if_icmp .ge 29, 3) := by decide +kernel
theorem dX0_isUp_8 : decode cX0_isUp 8 = .ok (.aload_n 0, 1) := by decide +kernel
theorem dX0_isUp_9 : decode cX0_isUp 9 = .ok (.getfield 19, 3) := by decide +kernel
theorem dX0_isUp_12 : decode cX0_isUp 12 = .ok (.iload_n 3, 1) := by decide +kernel
theorem dX0_isUp_13 : decode cX0_isUp 13 = .ok (.bipush 30, 2) := by decide +kernel
theorem dX0_isUp_15 : decode cX0_isUp 15 = .ok (.imul, 1) := by decide +kernel
theorem dX0_isUp_16 : decode cX0_isUp 16 = .ok (.iload_n 2, 1) := by decide +kernel
theorem dX0_isUp_17 : decode cX0_isUp 17 = .ok (.iadd, 1) := by decide +kernel
theorem dX0_isUp_18 : decode cX0_isUp 18 = .ok (.iaload, 1) := by decide +kernel
theorem dX0_isUp_19 : decode cX0_isUp 19 = .ok (.iload_n 1, 1) := by decide +kernel
theorem dX0_isUp_20 : decode cX0_isUp 20 = .ok (.ishr, 1) := by decide +kernel
theorem dX0_isUp_21 : decode cX0_isUp 21 = .ok (.iconst 1, 1) := by decide +kernel
theorem dX0_isUp_22 : decode cX0_isUp 22 = .ok (.iand, 1) := by decide +kernel
theorem dX0_isUp_23 : decode cX0_isUp 23 = .ok (.ifCond .eq 5, 3) := by decide +kernel
theorem dX0_isUp_26 : decode cX0_isUp 26 = .ok (.iconst 1, 1) := by decide +kernel
theorem dX0_isUp_27 : decode cX0_isUp 27 = .ok (.ireturn, 1) := by decide +kernel
theorem dX0_isUp_28 : decode cX0_isUp 28 = .ok (.iinc 3 1, 3) := by decide +kernel
theorem dX0_isUp_31 : decode cX0_isUp 31 = .ok (.goto (-29), 3) := by decide +kernel
theorem dX0_isUp_34 : decode cX0_isUp 34 = .ok (.iconst 0, 1) := by decide +kernel
theorem dX0_isUp_35 : decode cX0_isUp 35 = .ok (.ireturn, 1) := by decide +kernel
theorem dX0_hasMaster_0 : decode cX0_hasMaster 0 = .ok (.aload_n 0, 1) := by decide +kernel
theorem dX0_hasMaster_1 : decode cX0_hasMaster 1 = .ok (.getfield 19, 3) := by decide +kernel
theorem dX0_hasMaster_4 : decode cX0_hasMaster 4 = .ok (.iload_n 1, 1) := by decide +kernel
theorem dX0_hasMaster_5 : decode cX0_hasMaster 5 = .ok (.bipush 30, 2) := by decide +kernel
theorem dX0_hasMaster_7 : decode cX0_hasMaster 7 = .ok (.imul, 1) := by decide +kernel
theorem dX0_hasMaster_8 : decode cX0_hasMaster 8 = .ok (.iload_n 2, 1) := by decide +kernel
theorem dX0_hasMaster_9 : decode cX0_hasMaster 9 = .ok (.iadd, 1) := by decide +kernel
theorem dX0_hasMaster_10 : decode cX0_hasMaster 10 = .ok (.iaload, 1) := by decide +kernel
theorem dX0_hasMaster_11 : decode cX0_hasMaster 11 = .ok (.bipush 31, 2) := by decide +kernel
theorem dX0_hasMaster_13 : decode cX0_hasMaster 13 = .ok (.iand, 1) := by decide +kernel
theorem dX0_hasMaster_14 : decode cX0_hasMaster 14 = .ok (.ifCond .eq 7, 3) := by decide +kernel
theorem dX0_hasMaster_17 : decode cX0_hasMaster 17 = .ok (.iconst 1, 1) := by decide +kernel
theorem dX0_hasMaster_18 : decode cX0_hasMaster 18 = .ok (.goto 4, 3) := by decide +kernel
theorem dX0_hasMaster_21 : decode cX0_hasMaster 21 = .ok (.iconst 0, 1) := by decide +kernel
theorem dX0_hasMaster_22 : decode cX0_hasMaster 22 = .ok (.ireturn, 1) := by decide +kernel
theorem dX0_goUp_0 : decode cX0_goUp 0 = .ok (.aload_n 0, 1) := by decide +kernel
theorem dX0_goUp_1 : decode cX0_goUp 1 = .ok (.getfield 11, 3) := by decide +kernel
theorem dX0_goUp_4 : decode cX0_goUp 4 = .ok (.iload_n 3, 1) := by decide +kernel
theorem dX0_goUp_5 : decode cX0_goUp 5 = .ok (.dup2, 1) := by decide +kernel
theorem dX0_goUp_6 : decode cX0_goUp 6 = .ok (.iaload, 1) := by decide +kernel
theorem dX0_goUp_7 : decode cX0_goUp 7 = .ok (.iload 5, 2) := by decide +kernel
theorem dX0_goUp_9 : decode cX0_goUp 9 = .ok (.isub, 1) := by decide +kernel
theorem dX0_goUp_10 : decode cX0_goUp 10 = .ok (.iastore, 1) := by decide +kernel
theorem dX0_goUp_11 : decode cX0_goUp 11 = .ok (.aload_n 0, 1) := by decide +kernel
theorem dX0_goUp_12 : decode cX0_goUp 12 = .ok (.getfield 19, 3) := by decide +kernel
theorem dX0_goUp_15 : decode cX0_goUp 15 = .ok (.iload_n 2, 1) := by decide +kernel
theorem dX0_goUp_16 : decode cX0_goUp 16 = .ok (.bipush 30, 2) := by decide +kernel
theorem dX0_goUp_18 : decode cX0_goUp 18 = .ok (.imul, 1) := by decide +kernel
theorem dX0_goUp_19 : decode cX0_goUp 19 = .ok (.iload 4, 2) := by decide +kernel
theorem dX0_goUp_21 : decode cX0_goUp 21 = .ok (.iadd, 1) := by decide +kernel
theorem dX0_goUp_22 : decode cX0_goUp 22 = .ok (.dup2, 1) := by decide +kernel
theorem dX0_goUp_23 : decode cX0_goUp 23 = .ok (.iaload, 1) := by decide +kernel
theorem dX0_goUp_24 : decode cX0_goUp 24 = .ok (.iconst 1, 1) := by decide +kernel
theorem dX0_goUp_25 : decode cX0_goUp 25 = .ok (.iload_n 1, 1) := by decide +kernel
theorem dX0_goUp_26 : decode cX0_goUp 26 = .ok (.ishl, 1) := by decide +kernel
theorem dX0_goUp_27 : decode cX0_goUp 27 = .ok (.ior, 1) := by decide +kernel
theorem dX0_goUp_28 : decode cX0_goUp 28 = .ok (.iastore, 1) := by decide +kernel
theorem dX0_goUp_29 : decode cX0_goUp 29 = .ok (.aload_n 0, 1) := by decide +kernel
theorem dX0_goUp_30 : decode cX0_goUp 30 = .ok (.getfield 31, 3) := by decide +kernel
theorem dX0_goUp_33 : decode cX0_goUp 33 = .ok (.bipush 50, 2) := by decide +kernel
theorem dX0_goUp_35 : decode cX0_goUp 35 = .ok (.if_icmp .lt 24, 3) := by decide +kernel
theorem dX0_goUp_38 : decode cX0_goUp 38 = .ok (.aload_n 0, 1) := by decide +kernel
theorem dX0_goUp_39 : decode cX0_goUp 39 = .ok (.getfield 28, 3) := by decide +kernel
theorem dX0_goUp_42 : decode cX0_goUp 42 = .ok (.iconst 1, 1) := by decide +kernel
theorem dX0_goUp_43 : decode cX0_goUp 43 = .ok (.aload_n 0, 1) := by decide +kernel
theorem dX0_goUp_44 : decode cX0_goUp 44 = .ok (.getfield 28, 3) := by decide +kernel
theorem dX0_goUp_47 : decode cX0_goUp 47 = .ok (.iconst 0, 1) := by decide +kernel
theorem dX0_goUp_48 : decode cX0_goUp 48 = .ok (.bipush 49, 2) := by decide +kernel
theorem dX0_goUp_50 : decode cX0_goUp 50 = .ok (.invokestatic 40, 3) := by decide +kernel
theorem dX0_goUp_53 : decode cX0_goUp 53 = .ok (.aload_n 0, 1) := by decide +kernel
theorem dX0_goUp_54 : decode cX0_goUp 54 = .ok (.bipush 49, 2) := by decide +kernel
theorem dX0_goUp_56 : decode cX0_goUp 56 = .ok (.putfield 31, 3) := by decide +kernel
theorem dX0_goUp_59 : decode cX0_goUp 59 = .ok (.aload_n 0, 1) := by decide +kernel
theorem dX0_goUp_60 : decode cX0_goUp 60 = .ok (.getfield 28, 3) := by decide +kernel
theorem dX0_goUp_63 : decode cX0_goUp 63 = .ok (.aload_n 0, 1) := by decide +kernel
theorem dX0_goUp_64 : decode cX0_goUp 64 = .ok (.getfield 31, 3) := by decide +kernel
theorem dX0_goUp_67 : decode cX0_goUp 67 = .ok (.iload_n 2, 1) := by decide +kernel
theorem dX0_goUp_68 : decode cX0_goUp 68 = .ok (.bipush 30, 2) := by decide +kernel
theorem dX0_goUp_70 : decode cX0_goUp 70 = .ok (.imul, 1) := by decide +kernel
theorem dX0_goUp_71 : decode cX0_goUp 71 = .ok (.iload 4, 2) := by decide +kernel
theorem dX0_goUp_73 : decode cX0_goUp 73 = .ok (.iadd, 1) := by decide +kernel
theorem dX0_goUp_74 : decode cX0_goUp 74 = .ok (.bipush 20, 2) := by decide +kernel
theorem dX0_goUp_76 : decode cX0_goUp 76 = .ok (.imul, 1) := by decide +kernel
theorem dX0_goUp_77 : decode cX0_goUp 77 = .ok (.iload_n 3, 1) := by decide +kernel
theorem dX0_goUp_78 : decode cX0_goUp 78 = .ok (.iadd, 1) := by decide +kernel
theorem dX0_goUp_79 : decode cX0_goUp 79 = .ok (.bipush 10, 2) := by decide +kernel
theorem dX0_goUp_81 : decode cX0_goUp 81 = .ok (.imul, 1) := by decide +kernel
theorem dX0_goUp_82 : decode cX0_goUp 82 = .ok (.iload_n 1, 1) := by decide +kernel
theorem dX0_goUp_83 : decode cX0_goUp 83 = .ok (.iadd, 1) := by decide +kernel
theorem dX0_goUp_84 : decode cX0_goUp 84 = .ok (.iastore, 1) := by decide +kernel
theorem dX0_goUp_85 : decode cX0_goUp 85 = .ok (.aload_n 0, 1) := by decide +kernel
theorem dX0_goUp_86 : decode cX0_goUp 86 = .ok (.dup, 1) := by decide +kernel
theorem dX0_goUp_87 : decode cX0_goUp 87 = .ok (.getfield 31, 3) := by decide +kernel
theorem dX0_goUp_90 : decode cX0_goUp 90 = .ok (.iconst 1, 1) := by decide +kernel
theorem dX0_goUp_91 : decode cX0_goUp 91 = .ok (.iadd, 1) := by decide +kernel
theorem dX0_goUp_92 : decode cX0_goUp 92 = .ok (.putfield 31, 3) := by decide +kernel
theorem dX0_goUp_95 : decode cX0_goUp 95 = .ok (.return_, 1) := by decide +kernel
theorem dX0_takeBack_0 : decode cX0_takeBack 0 = .ok (.aload_n 0, 1) := by decide +kernel
theorem dX0_takeBack_1 : decode cX0_takeBack 1 = .ok (.getfield 31, 3) := by decide +kernel
theorem dX0_takeBack_4 : decode cX0_takeBack 4 = .ok (.ifCond .gt 5, 3) := by decide +kernel
theorem dX0_takeBack_7 : decode cX0_takeBack 7 = .ok (.iconst (-1), 1) := by decide +kernel
theorem dX0_takeBack_8 : decode cX0_takeBack 8 = .ok (.ireturn, 1) := by decide +kernel
theorem dX0_takeBack_9 : decode cX0_takeBack 9 = .ok (.aload_n 0, 1) := by decide +kernel
theorem dX0_takeBack_10 : decode cX0_takeBack 10 = .ok (.dup, 1) := by decide +kernel
theorem dX0_takeBack_11 : decode cX0_takeBack 11 = .ok (.getfield 31, 3) := by decide +kernel
theorem dX0_takeBack_14 : decode cX0_takeBack 14 = .ok (.iconst 1, 1) := by decide +kernel
theorem dX0_takeBack_15 : decode cX0_takeBack 15 = .ok (.isub, 1) := by decide +kernel
theorem dX0_takeBack_16 : decode cX0_takeBack 16 = .ok (.putfield 31, 3) := by decide +kernel
theorem dX0_takeBack_19 : decode cX0_takeBack 19 = .ok (.aload_n 0, 1) := by decide +kernel
theorem dX0_takeBack_20 : decode cX0_takeBack 20 = .ok (.getfield 28, 3) := by decide +kernel
theorem dX0_takeBack_23 : decode cX0_takeBack 23 = .ok (.aload_n 0, 1) := by decide +kernel
theorem dX0_takeBack_24 : decode cX0_takeBack 24 = .ok (.getfield 31, 3) := by decide +kernel
theorem dX0_takeBack_27 : decode cX0_takeBack 27 = .ok (.iaload, 1) := by decide +kernel
theorem dX0_takeBack_28 : decode cX0_takeBack 28 = .ok (.bipush 10, 2) := by decide +kernel
theorem dX0_takeBack_30 : decode cX0_takeBack 30 = .ok (.irem, 1) := by decide +kernel
theorem dX0_takeBack_31 : decode cX0_takeBack 31 = .ok (.istore_n 2, 1) := by decide +kernel
theorem dX0_takeBack_32 : decode cX0_takeBack 32 = .ok (.aload_n 0, 1) := by decide +kernel
theorem dX0_takeBack_33 : decode cX0_takeBack 33 = .ok (.getfield 28, 3) := by decide +kernel
theorem dX0_takeBack_36 : decode cX0_takeBack 36 = .ok (.aload_n 0, 1) := by decide +kernel
theorem dX0_takeBack_37 : decode cX0_takeBack 37 = .ok (.getfield 31, 3) := by decide +kernel
theorem dX0_takeBack_40 : decode cX0_takeBack 40 = .ok (.iaload, 1) := by decide +kernel
theorem dX0_takeBack_41 : decode cX0_takeBack 41 = .ok (.bipush 10, 2) := by decide +kernel
theorem dX0_takeBack_43 : decode cX0_takeBack 43 = .ok (.idiv, 1) := by decide +kernel
theorem dX0_takeBack_44 : decode cX0_takeBack 44 = .ok (.bipush 20, 2) := by decide +kernel
theorem dX0_takeBack_46 : decode cX0_takeBack 46 = .ok (.irem, 1) := by decide +kernel
theorem dX0_takeBack_47 : decode cX0_takeBack 47 = .ok (.istore_n 3, 1) := by decide +kernel
theorem dX0_takeBack_48 : decode cX0_takeBack 48 = .ok (.aload_n 0, 1) := by decide +kernel
theorem dX0_takeBack_49 : decode cX0_takeBack 49 = .ok (.getfield 28, 3) := by decide +kernel
theorem dX0_takeBack_52 : decode cX0_takeBack 52 = .ok (.aload_n 0, 1) := by decide +kernel
theorem dX0_takeBack_53 : decode cX0_takeBack 53 = .ok (.getfield 31, 3) := by decide +kernel
theorem dX0_takeBack_56 : decode cX0_takeBack 56 = .ok (.iaload, 1) := by decide +kernel
theorem dX0_takeBack_57 : decode cX0_takeBack 57 = .ok (.bipush 10, 2) := by decide +kernel
theorem dX0_takeBack_59 : decode cX0_takeBack 59 = .ok (.idiv, 1) := by decide +kernel
theorem dX0_takeBack_60 : decode cX0_takeBack 60 = .ok (.bipush 20, 2) := by decide +kernel
theorem dX0_takeBack_62 : decode cX0_takeBack 62 = .ok (.idiv, 1) := by decide +kernel
theorem dX0_takeBack_63 : decode cX0_takeBack 63 = .ok (.istore 4, 2) := by decide +kernel
theorem dX0_takeBack_65 : decode cX0_takeBack 65 = .ok (.aload_n 0, 1) := by decide +kernel
theorem dX0_takeBack_66 : decode cX0_takeBack 66 = .ok (.getfield 11, 3) := by decide +kernel
theorem dX0_takeBack_69 : decode cX0_takeBack 69 = .ok (.iload_n 3, 1) := by decide +kernel
theorem dX0_takeBack_70 : decode cX0_takeBack 70 = .ok (.dup2, 1) := by decide +kernel
theorem dX0_takeBack_71 : decode cX0_takeBack 71 = .ok (.iaload, 1) := by decide +kernel
theorem dX0_takeBack_72 : decode cX0_takeBack 72 = .ok (.aload_n 1, 1) := by decide +kernel
theorem dX0_takeBack_73 : decode cX0_takeBack 73 = .ok (.getfield 46, 3) := by decide +kernel
theorem dX0_takeBack_76 : decode cX0_takeBack 76 = .ok (.iload 4, 2) := by decide +kernel
theorem dX0_takeBack_78 : decode cX0_takeBack 78 = .ok (.bipush 30, 2) := by decide +kernel
theorem dX0_takeBack_80 : decode cX0_takeBack 80 = .ok (.idiv, 1) := by decide +kernel
theorem dX0_takeBack_81 : decode cX0_takeBack 81 = .ok (.iaload, 1) := by decide +kernel
theorem dX0_takeBack_82 : decode cX0_takeBack 82 = .ok (.iadd, 1) := by decide +kernel
theorem dX0_takeBack_83 : decode cX0_takeBack 83 = .ok (.iastore, 1) := by decide +kernel
theorem dX0_takeBack_84 : decode cX0_takeBack 84 = .ok (.aload_n 0, 1) := by decide +kernel
theorem dX0_takeBack_85 : decode cX0_takeBack 85 = .ok (.getfield 19, 3) := by decide +kernel
theorem dX0_takeBack_88 : decode cX0_takeBack 88 = .ok (.iload 4, 2) := by decide +kernel
theorem dX0_takeBack_90 : decode cX0_takeBack 90 = .ok (.dup2, 1) := by decide +kernel
theorem dX0_takeBack_91 : decode cX0_takeBack 91 = .ok (.iaload, 1) := by decide +kernel
theorem dX0_takeBack_92 : decode cX0_takeBack 92 = .ok (.iconst 1, 1) := by decide +kernel
theorem dX0_takeBack_93 : decode cX0_takeBack 93 = .ok (.iload_n 2, 1) := by decide +kernel
theorem dX0_takeBack_94 : decode cX0_takeBack 94 = .ok (.ishl, 1) := by decide +kernel
theorem dX0_takeBack_95 : decode cX0_takeBack 95 = .ok (.iconst (-1), 1) := by decide +kernel
theorem dX0_takeBack_96 : decode cX0_takeBack 96 = .ok (.ixor, 1) := by decide +kernel
theorem dX0_takeBack_97 : decode cX0_takeBack 97 = .ok (.iand, 1) := by decide +kernel
theorem dX0_takeBack_98 : decode cX0_takeBack 98 = .ok (.iastore, 1) := by decide +kernel
theorem dX0_takeBack_99 : decode cX0_takeBack 99 = .ok (.aload_n 0, 1) := by decide +kernel
theorem dX0_takeBack_100 : decode cX0_takeBack 100 = .ok (.getfield 22, 3) := by decide +kernel
theorem dX0_takeBack_103 : decode cX0_takeBack 103 = .ok (.iconst 0, 1) := by decide +kernel
theorem dX0_takeBack_104 : decode cX0_takeBack 104 = .ok (.dup2, 1) := by decide +kernel
theorem dX0_takeBack_105 : decode cX0_takeBack 105 = .ok (.iaload, 1) := by decide +kernel
theorem dX0_takeBack_106 : decode cX0_takeBack 106 = .ok (.iconst 1, 1) := by decide +kernel
theorem dX0_takeBack_107 : decode cX0_takeBack 107 = .ok (.isub, 1) := by decide +kernel
theorem dX0_takeBack_108 : decode cX0_takeBack 108 = .ok (.iastore, 1) := by decide +kernel
theorem dX0_takeBack_109 : decode cX0_takeBack 109 = .ok (.iload_n 2, 1) := by decide +kernel
theorem dX0_takeBack_110 : decode cX0_takeBack 110 = .ok (.ireturn, 1) := by decide +kernel
theorem dX1_isInside_0 : decode cX1_isInside 0 = .ok (.getstatic 11, 3) := by decide +kernel
theorem dX1_isInside_3 : decode cX1_isInside 3 = .ok (.iload_n 1, 1) := by decide +kernel
theorem dX1_isInside_4 : decode cX1_isInside 4 = .ok (.iaload, 1) := by decide +kernel
theorem dX1_isInside_5 : decode cX1_isInside 5 = .ok (.getstatic 11, 3) := by decide +kernel
theorem dX1_isInside_8 : decode cX1_isInside 8 = .ok (.iload_n 0, 1) := by decide +kernel
theorem dX1_isInside_9 : decode cX1_isInside 9 = .ok (.iaload, 1) := by decide +kernel
theorem dX1_isInside_10 : decode cX1_isInside 10 = .ok (.isub, 1) := by decide +kernel
theorem dX1_isInside_11 : decode cX1_isInside 11 = .ok (.iload_n 3, 1) := by decide +kernel
theorem dX1_isInside_12 : decode cX1_isInside 12 = .ok (.getstatic 15, 3) := by decide +kernel
theorem dX1_isInside_15 : decode cX1_isInside 15 = .ok (.iload_n 0, 1) := by decide +kernel
theorem dX1_isInside_16 : decode cX1_isInside 16 = .ok (.iaload, 1) := by decide +kernel
theorem dX1_isInside_17 : decode cX1_isInside 17 = .ok (.isub, 1) := by decide +kernel
theorem dX1_isInside_18 : decode cX1_isInside 18 = .ok (.imul, 1) := by decide +kernel
theorem dX1_isInside_19 : decode cX1_isInside 19 = .ok (.getstatic 15, 3) := by decide +kernel
theorem dX1_isInside_22 : decode cX1_isInside 22 = .ok (.iload_n 1, 1) := by decide +kernel
theorem dX1_isInside_23 : decode cX1_isInside 23 = .ok (.iaload, 1) := by decide +kernel
theorem dX1_isInside_24 : decode cX1_isInside 24 = .ok (.getstatic 15, 3) := by decide +kernel
theorem dX1_isInside_27 : decode cX1_isInside 27 = .ok (.iload_n 0, 1) := by decide +kernel
theorem dX1_isInside_28 : decode cX1_isInside 28 = .ok (.iaload, 1) := by decide +kernel
theorem dX1_isInside_29 : decode cX1_isInside 29 = .ok (.isub, 1) := by decide +kernel
theorem dX1_isInside_30 : decode cX1_isInside 30 = .ok (.iload_n 2, 1) := by decide +kernel
theorem dX1_isInside_31 : decode cX1_isInside 31 = .ok (.getstatic 11, 3) := by decide +kernel
theorem dX1_isInside_34 : decode cX1_isInside 34 = .ok (.iload_n 0, 1) := by decide +kernel
theorem dX1_isInside_35 : decode cX1_isInside 35 = .ok (.iaload, 1) := by decide +kernel
theorem dX1_isInside_36 : decode cX1_isInside 36 = .ok (.isub, 1) := by decide +kernel
theorem dX1_isInside_37 : decode cX1_isInside 37 = .ok (.imul, 1) := by decide +kernel
theorem dX1_isInside_38 : decode cX1_isInside 38 = .ok (.isub, 1) := by decide +kernel
theorem dX1_isInside_39 : decode cX1_isInside 39 = .ok (.ifCond .le 7, 3) := by decide +kernel
theorem dX1_isInside_42 : decode cX1_isInside 42 = .ok (.iconst 1, 1) := by decide +kernel
theorem dX1_isInside_43 : decode cX1_isInside 43 = .ok (.goto 4, 3) := by decide +kernel
theorem dX1_isInside_46 : decode cX1_isInside 46 = .ok (.iconst 0, 1) := by decide +kernel
theorem dX1_isInside_47 : decode cX1_isInside 47 = .ok (.ireturn, 1) := by decide +kernel
theorem dX1_holds_0 : decode cX1_holds 0 = .ok (.iconst (-1), 1) := by decide +kernel
theorem dX1_holds_1 : decode cX1_holds 1 = .ok (.istore_n 3, 1) := by decide +kernel
theorem dX1_holds_2 : decode cX1_holds 2 = .ok (.iconst (-1), 1) := by decide +kernel
theorem dX1_holds_3 : decode cX1_holds 3 = .ok (.istore 4, 2) := by decide +kernel
theorem dX1_holds_5 : decode cX1_holds 5 = .ok (.iconst 0, 1) := by decide +kernel
theorem dX1_holds_6 : decode cX1_holds 6 = .ok (.istore 5, 2) := by decide +kernel
theorem dX1_holds_8 : decode cX1_holds 8 = .ok (.iconst 0, 1) := by decide +kernel
theorem dX1_holds_9 : decode cX1_holds 9 = .ok (.istore 6, 2) := by decide +kernel
theorem dX1_holds_11 : decode cX1_holds 11 = .ok (.iload 6, 2) := by decide +kernel
theorem dX1_holds_13 : decode cX1_holds 13 = .ok (.bipush 16, 2) := by decide +kernel
theorem dX1_holds_15 : decode cX1_holds 15 = .ok (.if_icmp .ge 57, 3) := by decide +kernel
theorem dX1_holds_18 : decode cX1_holds 18 = .ok (.iload_n 0, 1) := by decide +kernel
theorem dX1_holds_19 : decode cX1_holds 19 = .ok (.iload 6, 2) := by decide +kernel
theorem dX1_holds_21 : decode cX1_holds 21 = .ok (.ishr, 1) := by decide +kernel
theorem dX1_holds_22 : decode cX1_holds 22 = .ok (.iconst 1, 1) := by decide +kernel
theorem dX1_holds_23 : decode cX1_holds 23 = .ok (.iand, 1) := by decide +kernel
theorem dX1_holds_24 : decode cX1_holds 24 = .ok (.ifCond .eq 42, 3) := by decide +kernel
theorem dX1_holds_27 : decode cX1_holds 27 = .ok (.iload 4, 2) := by decide +kernel
theorem dX1_holds_29 : decode cX1_holds 29 = .ok (.iconst (-1), 1) := by decide +kernel
theorem dX1_holds_30 : decode cX1_holds 30 = .ok (.if_icmp .eq 17, 3) := by decide +kernel
theorem dX1_holds_33 : decode cX1_holds 33 = .ok (.iload 4, 2) := by decide +kernel
theorem dX1_holds_35 : decode cX1_holds 35 = .ok (.iload 6, 2) := by decide +kernel
theorem dX1_holds_37 : decode cX1_holds 37 = .ok (.iload_n 1, 1) := by decide +kernel
theorem dX1_holds_38 : decode cX1_holds 38 = .ok (.iload_n 2, 1) := by decide +kernel
theorem dX1_holds_39 : decode cX1_holds 39 = .ok (.invokestatic 18, 3) := by decide +kernel
theorem dX1_holds_42 : decode cX1_holds 42 = .ok (.ifCond .ne 5, 3) := by decide +kernel
theorem dX1_holds_45 : decode cX1_holds 45 = .ok (.iconst 0, 1) := by decide +kernel
theorem dX1_holds_46 : decode cX1_holds 46 = .ok (.ireturn, 1) := by decide +kernel
theorem dX1_holds_47 : decode cX1_holds 47 = .ok (.iload_n 3, 1) := by decide +kernel
theorem dX1_holds_48 : decode cX1_holds 48 = .ok (.iconst (-1), 1) := by decide +kernel
theorem dX1_holds_49 : decode cX1_holds 49 = .ok (.if_icmp .ne 8, 3) := by decide +kernel
theorem dX1_holds_52 : decode cX1_holds 52 = .ok (.iload 6, 2) := by decide +kernel
theorem dX1_holds_54 : decode cX1_holds 54 = .ok (.goto 4, 3) := by decide +kernel
theorem dX1_holds_57 : decode cX1_holds 57 = .ok (.iload_n 3, 1) := by decide +kernel
theorem dX1_holds_58 : decode cX1_holds 58 = .ok (.istore_n 3, 1) := by decide +kernel
theorem dX1_holds_59 : decode cX1_holds 59 = .ok (.iload 6, 2) := by decide +kernel
theorem dX1_holds_61 : decode cX1_holds 61 = .ok (.istore 4, 2) := by decide +kernel
theorem dX1_holds_63 : decode cX1_holds 63 = .ok (.iinc 5 1, 3) := by decide +kernel
theorem dX1_holds_66 : decode cX1_holds 66 = .ok (.iinc 6 1, 3) := by decide +kernel
theorem dX1_holds_69 : decode cX1_holds 69 = .ok (.goto (-58), 3) := by decide +kernel
theorem dX1_holds_72 : decode cX1_holds 72 = .ok (.iload 5, 2) := by decide +kernel
theorem dX1_holds_74 : decode cX1_holds 74 = .ok (.iconst 3, 1) := by decide +kernel
theorem dX1_holds_75 : decode cX1_holds 75 = .ok (.if_icmp .lt 18, 3) := by decide +kernel
theorem dX1_holds_78 : decode cX1_holds 78 = .ok (.iload 4, 2) := by decide +kernel
theorem dX1_holds_80 : decode cX1_holds 80 = .ok (.iload_n 3, 1) := by decide +kernel
theorem dX1_holds_81 : decode cX1_holds 81 = .ok (.iload_n 1, 1) := by decide +kernel
theorem dX1_holds_82 : decode cX1_holds 82 = .ok (.iload_n 2, 1) := by decide +kernel
theorem dX1_holds_83 : decode cX1_holds 83 = .ok (.invokestatic 18, 3) := by decide +kernel
theorem dX1_holds_86 : decode cX1_holds 86 = .ok (.ifCond .eq 7, 3) := by decide +kernel
theorem dX1_holds_89 : decode cX1_holds 89 = .ok (.iconst 1, 1) := by decide +kernel
theorem dX1_holds_90 : decode cX1_holds 90 = .ok (.goto 4, 3) := by decide +kernel
theorem dX1_holds_93 : decode cX1_holds 93 = .ok (.iconst 0, 1) := by decide +kernel
theorem dX1_holds_94 : decode cX1_holds 94 = .ok (.ireturn, 1) := by decide +kernel
theorem dX1_spare_0 : decode cX1_spare 0 = .ok (.iconst 0, 1) := by decide +kernel
theorem dX1_spare_1 : decode cX1_spare 1 = .ok (.istore_n 2, 1) := by decide +kernel
theorem dX1_spare_2 : decode cX1_spare 2 = .ok (.iconst 0, 1) := by decide +kernel
theorem dX1_spare_3 : decode cX1_spare 3 = .ok (.istore_n 3, 1) := by decide +kernel
theorem dX1_spare_4 : decode cX1_spare 4 = .ok (.iload_n 3, 1) := by decide +kernel
theorem dX1_spare_5 : decode cX1_spare 5 = .ok (.bipush 16, 2) := by decide +kernel
theorem dX1_spare_7 : decode cX1_spare 7 = .ok (.if_icmp .ge 31, 3) := by decide +kernel
theorem dX1_spare_10 : decode cX1_spare 10 = .ok (.ldc 22, 2) := by decide +kernel
theorem dX1_spare_12 : decode cX1_spare 12 = .ok (.iconst 1, 1) := by decide +kernel
theorem dX1_spare_13 : decode cX1_spare 13 = .ok (.iload_n 3, 1) := by decide +kernel
theorem dX1_spare_14 : decode cX1_spare 14 = .ok (.ishl, 1) := by decide +kernel
theorem dX1_spare_15 : decode cX1_spare 15 = .ok (.iconst (-1), 1) := by decide +kernel
theorem dX1_spare_16 : decode cX1_spare 16 = .ok (.ixor, 1) := by decide +kernel
theorem dX1_spare_17 : decode cX1_spare 17 = .ok (.iand, 1) := by decide +kernel
theorem dX1_spare_18 : decode cX1_spare 18 = .ok (.iload_n 0, 1) := by decide +kernel
theorem dX1_spare_19 : decode cX1_spare 19 = .ok (.iload_n 1, 1) := by decide +kernel
theorem dX1_spare_20 : decode cX1_spare 20 = .ok (.invokestatic 23, 3) := by decide +kernel
theorem dX1_spare_23 : decode cX1_spare 23 = .ok (.ifCond .eq 9, 3) := by decide +kernel
theorem dX1_spare_26 : decode cX1_spare 26 = .ok (.iload_n 2, 1) := by decide +kernel
theorem dX1_spare_27 : decode cX1_spare 27 = .ok (.iconst 1, 1) := by decide +kernel
theorem dX1_spare_28 : decode cX1_spare 28 = .ok (.iload_n 3, 1) := by decide +kernel
theorem dX1_spare_29 : decode cX1_spare 29 = .ok (.ishl, 1) := by decide +kernel
theorem dX1_spare_30 : decode cX1_spare 30 = .ok (.ior, 1) := by decide +kernel
theorem dX1_spare_31 : decode cX1_spare 31 = .ok (.istore_n 2, 1) := by decide +kernel
theorem dX1_spare_32 : decode cX1_spare 32 = .ok (.iinc 3 1, 3) := by decide +kernel
theorem dX1_spare_35 : decode cX1_spare 35 = .ok (.goto (-31), 3) := by decide +kernel
theorem dX1_spare_38 : decode cX1_spare 38 = .ok (.iload_n 2, 1) := by decide +kernel
theorem dX1_spare_39 : decode cX1_spare 39 = .ok (.ireturn, 1) := by decide +kernel
theorem dX1_fallOf_0 : decode cX1_fallOf 0 = .ok (.iconst 0, 1) := by decide +kernel
theorem dX1_fallOf_1 : decode cX1_fallOf 1 = .ok (.istore 5, 2) := by decide +kernel
theorem dX1_fallOf_3 : decode cX1_fallOf 3 = .ok (.iload 5, 2) := by decide +kernel
theorem dX1_fallOf_5 : decode cX1_fallOf 5 = .ok (.iload_n 1, 1) := by decide +kernel
theorem dX1_fallOf_6 : decode cX1_fallOf 6 = .ok (.if_icmp .ge 26, 3) := by decide +kernel
theorem dX1_fallOf_9 : decode cX1_fallOf 9 = .ok (.iload 4, 2) := by decide +kernel
theorem dX1_fallOf_11 : decode cX1_fallOf 11 = .ok (.iload_n 0, 1) := by decide +kernel
theorem dX1_fallOf_12 : decode cX1_fallOf 12 = .ok (.iload 5, 2) := by decide +kernel
theorem dX1_fallOf_14 : decode cX1_fallOf 14 = .ok (.iadd, 1) := by decide +kernel
theorem dX1_fallOf_15 : decode cX1_fallOf 15 = .ok (.bipush 15, 2) := by decide +kernel
theorem dX1_fallOf_17 : decode cX1_fallOf 17 = .ok (.iand, 1) := by decide +kernel
theorem dX1_fallOf_18 : decode cX1_fallOf 18 = .ok (.ishr, 1) := by decide +kernel
theorem dX1_fallOf_19 : decode cX1_fallOf 19 = .ok (.iconst 1, 1) := by decide +kernel
theorem dX1_fallOf_20 : decode cX1_fallOf 20 = .ok (.iand, 1) := by decide +kernel
theorem dX1_fallOf_21 : decode cX1_fallOf 21 = .ok (.ifCond .ne 5, 3) := by decide +kernel
theorem dX1_fallOf_24 : decode cX1_fallOf 24 = .ok (.iconst (-1), 1) := by decide +kernel
theorem dX1_fallOf_25 : decode cX1_fallOf 25 = .ok (.ireturn, 1) := by decide +kernel
theorem dX1_fallOf_26 : decode cX1_fallOf 26 = .ok (.iinc 5 1, 3) := by decide +kernel
theorem dX1_fallOf_29 : decode cX1_fallOf 29 = .ok (.goto (-26), 3) := by decide +kernel
theorem dX1_fallOf_32 : decode cX1_fallOf 32 = .ok (.iload_n 1, 1) := by decide +kernel
theorem dX1_fallOf_33 : decode cX1_fallOf 33 = .ok (.istore 5, 2) := by decide +kernel
theorem dX1_fallOf_35 : decode cX1_fallOf 35 = .ok (.iload 5, 2) := by decide +kernel
theorem dX1_fallOf_37 : decode cX1_fallOf 37 = .ok (.bipush 15, 2) := by decide +kernel
theorem dX1_fallOf_39 : decode cX1_fallOf 39 = .ok (.if_icmp .ge 36, 3) := by decide +kernel
theorem dX1_fallOf_42 : decode cX1_fallOf 42 = .ok (.iload_n 0, 1) := by decide +kernel
theorem dX1_fallOf_43 : decode cX1_fallOf 43 = .ok (.iload 5, 2) := by decide +kernel
theorem dX1_fallOf_45 : decode cX1_fallOf 45 = .ok (.iadd, 1) := by decide +kernel
theorem dX1_fallOf_46 : decode cX1_fallOf 46 = .ok (.bipush 15, 2) := by decide +kernel
theorem dX1_fallOf_48 : decode cX1_fallOf 48 = .ok (.iand, 1) := by decide +kernel
theorem dX1_fallOf_49 : decode cX1_fallOf 49 = .ok (.iload_n 0, 1) := by decide +kernel
theorem dX1_fallOf_50 : decode cX1_fallOf 50 = .ok (.iload 5, 2) := by decide +kernel
theorem dX1_fallOf_52 : decode cX1_fallOf 52 = .ok (.iadd, 1) := by decide +kernel
theorem dX1_fallOf_53 : decode cX1_fallOf 53 = .ok (.iconst 1, 1) := by decide +kernel
theorem dX1_fallOf_54 : decode cX1_fallOf 54 = .ok (.iadd, 1) := by decide +kernel
theorem dX1_fallOf_55 : decode cX1_fallOf 55 = .ok (.bipush 15, 2) := by decide +kernel
theorem dX1_fallOf_57 : decode cX1_fallOf 57 = .ok (.iand, 1) := by decide +kernel
theorem dX1_fallOf_58 : decode cX1_fallOf 58 = .ok (.iload_n 2, 1) := by decide +kernel
theorem dX1_fallOf_59 : decode cX1_fallOf 59 = .ok (.iload_n 3, 1) := by decide +kernel
theorem dX1_fallOf_60 : decode cX1_fallOf 60 = .ok (.invokestatic 18, 3) := by decide +kernel
theorem dX1_fallOf_63 : decode cX1_fallOf 63 = .ok (.ifCond .ne 6, 3) := by decide +kernel
theorem dX1_fallOf_66 : decode cX1_fallOf 66 = .ok (.bipush (-3), 2) := by decide +kernel
theorem dX1_fallOf_68 : decode cX1_fallOf 68 = .ok (.ireturn, 1) := by decide +kernel
theorem dX1_fallOf_69 : decode cX1_fallOf 69 = .ok (.iinc 5 1, 3) := by decide +kernel
theorem dX1_fallOf_72 : decode cX1_fallOf 72 = .ok (.goto (-37), 3) := by decide +kernel
theorem dX1_fallOf_75 : decode cX1_fallOf 75 = .ok (.iload_n 0, 1) := by decide +kernel
theorem dX1_fallOf_76 : decode cX1_fallOf 76 = .ok (.bipush 15, 2) := by decide +kernel
theorem dX1_fallOf_78 : decode cX1_fallOf 78 = .ok (.iadd, 1) := by decide +kernel
theorem dX1_fallOf_79 : decode cX1_fallOf 79 = .ok (.bipush 15, 2) := by decide +kernel
theorem dX1_fallOf_81 : decode cX1_fallOf 81 = .ok (.iand, 1) := by decide +kernel
theorem dX1_fallOf_82 : decode cX1_fallOf 82 = .ok (.istore 5, 2) := by decide +kernel
theorem dX1_fallOf_84 : decode cX1_fallOf 84 = .ok (.iload_n 0, 1) := by decide +kernel
theorem dX1_fallOf_85 : decode cX1_fallOf 85 = .ok (.iload_n 1, 1) := by decide +kernel
theorem dX1_fallOf_86 : decode cX1_fallOf 86 = .ok (.iadd, 1) := by decide +kernel
theorem dX1_fallOf_87 : decode cX1_fallOf 87 = .ok (.bipush 15, 2) := by decide +kernel
theorem dX1_fallOf_89 : decode cX1_fallOf 89 = .ok (.iand, 1) := by decide +kernel
theorem dX1_fallOf_90 : decode cX1_fallOf 90 = .ok (.istore 6, 2) := by decide +kernel
theorem dX1_fallOf_92 : decode cX1_fallOf 92 = .ok (.iload 5, 2) := by decide +kernel
theorem dX1_fallOf_94 : decode cX1_fallOf 94 = .ok (.iload 6, 2) := by decide +kernel
theorem dX1_fallOf_96 : decode cX1_fallOf 96 = .ok (.iload_n 2, 1) := by decide +kernel
theorem dX1_fallOf_97 : decode cX1_fallOf 97 = .ok (.iload_n 3, 1) := by decide +kernel
theorem dX1_fallOf_98 : decode cX1_fallOf 98 = .ok (.invokestatic 18, 3) := by decide +kernel
theorem dX1_fallOf_101 : decode cX1_fallOf 101 = .ok (.ifCond .eq 8, 3) := by decide +kernel
theorem dX1_fallOf_104 : decode cX1_fallOf 104 = .ok (.bipush (-2), 2) := by decide +kernel
theorem dX1_fallOf_106 : decode cX1_fallOf 106 = .ok (.goto 32, 3) := by decide +kernel
theorem dX1_fallOf_109 : decode cX1_fallOf 109 = .ok (.getstatic 15, 3) := by decide +kernel
theorem dX1_fallOf_112 : decode cX1_fallOf 112 = .ok (.iload 6, 2) := by decide +kernel
theorem dX1_fallOf_114 : decode cX1_fallOf 114 = .ok (.iaload, 1) := by decide +kernel
theorem dX1_fallOf_115 : decode cX1_fallOf 115 = .ok (.getstatic 15, 3) := by decide +kernel
theorem dX1_fallOf_118 : decode cX1_fallOf 118 = .ok (.iload 5, 2) := by decide +kernel
theorem dX1_fallOf_120 : decode cX1_fallOf 120 = .ok (.iaload, 1) := by decide +kernel
theorem dX1_fallOf_121 : decode cX1_fallOf 121 = .ok (.isub, 1) := by decide +kernel
theorem dX1_fallOf_122 : decode cX1_fallOf 122 = .ok (.getstatic 11, 3) := by decide +kernel
theorem dX1_fallOf_125 : decode cX1_fallOf 125 = .ok (.iload 5, 2) := by decide +kernel
theorem dX1_fallOf_127 : decode cX1_fallOf 127 = .ok (.iaload, 1) := by decide +kernel
theorem dX1_fallOf_128 : decode cX1_fallOf 128 = .ok (.getstatic 11, 3) := by decide +kernel
theorem dX1_fallOf_131 : decode cX1_fallOf 131 = .ok (.iload 6, 2) := by decide +kernel
theorem dX1_fallOf_133 : decode cX1_fallOf 133 = .ok (.iaload, 1) := by decide +kernel
theorem dX1_fallOf_134 : decode cX1_fallOf 134 = .ok (.isub, 1) := by decide +kernel
theorem dX1_fallOf_135 : decode cX1_fallOf 135 = .ok (.invokestatic 27, 3) := by decide +kernel
theorem dX1_fallOf_138 : decode cX1_fallOf 138 = .ok (.ireturn, 1) := by decide +kernel
theorem dX1_furthest_0 : decode cX1_furthest 0 = .ok (.iconst 0, 1) := by decide +kernel
theorem dX1_furthest_1 : decode cX1_furthest 1 = .ok (.istore_n 2, 1) := by decide +kernel
theorem dX1_furthest_2 : decode cX1_furthest 2 = .ok (.iconst 1, 1) := by decide +kernel
theorem dX1_furthest_3 : decode cX1_furthest 3 = .ok (.istore_n 3, 1) := by decide +kernel
theorem dX1_furthest_4 : decode cX1_furthest 4 = .ok (.iload_n 3, 1) := by decide +kernel
theorem dX1_furthest_5 : decode cX1_furthest 5 = .ok (.bipush 16, 2) := by decide +kernel
theorem dX1_furthest_7 : decode cX1_furthest 7 = .ok (.if_icmp .ge 44, 3) := by decide +kernel
theorem dX1_furthest_10 : decode cX1_furthest 10 = .ok (.getstatic 11, 3) := by decide +kernel
theorem dX1_furthest_13 : decode cX1_furthest 13 = .ok (.iload_n 3, 1) := by decide +kernel
theorem dX1_furthest_14 : decode cX1_furthest 14 = .ok (.iaload, 1) := by decide +kernel
theorem dX1_furthest_15 : decode cX1_furthest 15 = .ok (.iload_n 0, 1) := by decide +kernel
theorem dX1_furthest_16 : decode cX1_furthest 16 = .ok (.imul, 1) := by decide +kernel
theorem dX1_furthest_17 : decode cX1_furthest 17 = .ok (.getstatic 15, 3) := by decide +kernel
theorem dX1_furthest_20 : decode cX1_furthest 20 = .ok (.iload_n 3, 1) := by decide +kernel
theorem dX1_furthest_21 : decode cX1_furthest 21 = .ok (.iaload, 1) := by decide +kernel
theorem dX1_furthest_22 : decode cX1_furthest 22 = .ok (.iload_n 1, 1) := by decide +kernel
theorem dX1_furthest_23 : decode cX1_furthest 23 = .ok (.imul, 1) := by decide +kernel
theorem dX1_furthest_24 : decode cX1_furthest 24 = .ok (.iadd, 1) := by decide +kernel
theorem dX1_furthest_25 : decode cX1_furthest 25 = .ok (.getstatic 11, 3) := by decide +kernel
theorem dX1_furthest_28 : decode cX1_furthest 28 = .ok (.iload_n 2, 1) := by decide +kernel
theorem dX1_furthest_29 : decode cX1_furthest 29 = .ok (.iaload, 1) := by decide +kernel
theorem dX1_furthest_30 : decode cX1_furthest 30 = .ok (.iload_n 0, 1) := by decide +kernel
theorem dX1_furthest_31 : decode cX1_furthest 31 = .ok (.imul, 1) := by decide +kernel
theorem dX1_furthest_32 : decode cX1_furthest 32 = .ok (.getstatic 15, 3) := by decide +kernel
theorem dX1_furthest_35 : decode cX1_furthest 35 = .ok (.iload_n 2, 1) := by decide +kernel
theorem dX1_furthest_36 : decode cX1_furthest 36 = .ok (.iaload, 1) := by decide +kernel
theorem dX1_furthest_37 : decode cX1_furthest 37 = .ok (.iload_n 1, 1) := by decide +kernel
theorem dX1_furthest_38 : decode cX1_furthest 38 = .ok (.imul, 1) := by decide +kernel
theorem dX1_furthest_39 : decode cX1_furthest 39 = .ok (.iadd, 1) := by decide +kernel
theorem dX1_furthest_40 : decode cX1_furthest 40 = .ok (.if_icmp .le 5, 3) := by decide +kernel
theorem dX1_furthest_43 : decode cX1_furthest 43 = .ok (.iload_n 3, 1) := by decide +kernel
theorem dX1_furthest_44 : decode cX1_furthest 44 = .ok (.istore_n 2, 1) := by decide +kernel
theorem dX1_furthest_45 : decode cX1_furthest 45 = .ok (.iinc 3 1, 3) := by decide +kernel
theorem dX1_furthest_48 : decode cX1_furthest 48 = .ok (.goto (-44), 3) := by decide +kernel
theorem dX1_furthest_51 : decode cX1_furthest 51 = .ok (.iload_n 2, 1) := by decide +kernel
theorem dX1_furthest_52 : decode cX1_furthest 52 = .ok (.ireturn, 1) := by decide +kernel
theorem dX1_fewest_0 : decode cX1_fewest 0 = .ok (.iload_n 2, 1) := by decide +kernel
theorem dX1_fewest_1 : decode cX1_fewest 1 = .ok (.iload_n 3, 1) := by decide +kernel
theorem dX1_fewest_2 : decode cX1_fewest 2 = .ok (.invokestatic 31, 3) := by decide +kernel
theorem dX1_fewest_5 : decode cX1_fewest 5 = .ok (.istore 4, 2) := by decide +kernel
theorem dX1_fewest_7 : decode cX1_fewest 7 = .ok (.iconst 1, 1) := by decide +kernel
theorem dX1_fewest_8 : decode cX1_fewest 8 = .ok (.istore 5, 2) := by decide +kernel
theorem dX1_fewest_10 : decode cX1_fewest 10 = .ok (.iload 5, 2) := by decide +kernel
theorem dX1_fewest_12 : decode cX1_fewest 12 = .ok (.bipush 12, 2) := by decide +kernel
theorem dX1_fewest_14 : decode cX1_fewest 14 = .ok (.if_icmp .gt 68, 3) := by decide +kernel
theorem dX1_fewest_17 : decode cX1_fewest 17 = .ok (.iconst 0, 1) := by decide +kernel
theorem dX1_fewest_18 : decode cX1_fewest 18 = .ok (.istore 6, 2) := by decide +kernel
theorem dX1_fewest_20 : decode cX1_fewest 20 = .ok (.iload 6, 2) := by decide +kernel
theorem dX1_fewest_22 : decode cX1_fewest 22 = .ok (.bipush 16, 2) := by decide +kernel
theorem dX1_fewest_24 : decode cX1_fewest 24 = .ok (.if_icmp .ge 52, 3) := by decide +kernel
theorem dX1_fewest_27 : decode cX1_fewest 27 = .ok (.iload 6, 2) := by decide +kernel
theorem dX1_fewest_29 : decode cX1_fewest 29 = .ok (.iload 5, 2) := by decide +kernel
theorem dX1_fewest_31 : decode cX1_fewest 31 = .ok (.iload_n 2, 1) := by decide +kernel
theorem dX1_fewest_32 : decode cX1_fewest 32 = .ok (.iload_n 3, 1) := by decide +kernel
theorem dX1_fewest_33 : decode cX1_fewest 33 = .ok (.iload 4, 2) := by decide +kernel
theorem dX1_fewest_35 : decode cX1_fewest 35 = .ok (.invokestatic 34, 3) := by decide +kernel
theorem dX1_fewest_38 : decode cX1_fewest 38 = .ok (.istore 7, 2) := by decide +kernel
theorem dX1_fewest_40 : decode cX1_fewest 40 = .ok (.iload 7, 2) := by decide +kernel
theorem dX1_fewest_42 : decode cX1_fewest 42 = .ok (.ifCond .lt 28, 3) := by decide +kernel
theorem dX1_fewest_45 : decode cX1_fewest 45 = .ok (.iload 7, 2) := by decide +kernel
theorem dX1_fewest_47 : decode cX1_fewest 47 = .ok (.iload_n 0, 1) := by decide +kernel
theorem dX1_fewest_48 : decode cX1_fewest 48 = .ok (.isub, 1) := by decide +kernel
theorem dX1_fewest_49 : decode cX1_fewest 49 = .ok (.bipush 15, 2) := by decide +kernel
theorem dX1_fewest_51 : decode cX1_fewest 51 = .ok (.iand, 1) := by decide +kernel
theorem dX1_fewest_52 : decode cX1_fewest 52 = .ok (.iload_n 1, 1) := by decide +kernel
theorem dX1_fewest_53 : decode cX1_fewest 53 = .ok (.iload_n 0, 1) := by decide +kernel
theorem dX1_fewest_54 : decode cX1_fewest 54 = .ok (.isub, 1) := by decide +kernel
theorem dX1_fewest_55 : decode cX1_fewest 55 = .ok (.bipush 15, 2) := by decide +kernel
theorem dX1_fewest_57 : decode cX1_fewest 57 = .ok (.iand, 1) := by decide +kernel
theorem dX1_fewest_58 : decode cX1_fewest 58 = .ok (.if_icmp .gt 12, 3) := by decide +kernel
theorem dX1_fewest_61 : decode cX1_fewest 61 = .ok (.bipush 16, 2) := by decide +kernel
theorem dX1_fewest_63 : decode cX1_fewest 63 = .ok (.iload 5, 2) := by decide +kernel
theorem dX1_fewest_65 : decode cX1_fewest 65 = .ok (.imul, 1) := by decide +kernel
theorem dX1_fewest_66 : decode cX1_fewest 66 = .ok (.iload 6, 2) := by decide +kernel
theorem dX1_fewest_68 : decode cX1_fewest 68 = .ok (.iadd, 1) := by decide +kernel
theorem dX1_fewest_69 : decode cX1_fewest 69 = .ok (.ireturn, 1) := by decide +kernel
theorem dX1_fewest_70 : decode cX1_fewest 70 = .ok (.iinc 6 1, 3) := by decide +kernel
theorem dX1_fewest_73 : decode cX1_fewest 73 = .ok (.goto (-53), 3) := by decide +kernel
theorem dX1_fewest_76 : decode cX1_fewest 76 = .ok (.iinc 5 1, 3) := by decide +kernel
theorem dX1_fewest_79 : decode cX1_fewest 79 = .ok (.goto (-69), 3) := by decide +kernel
theorem dX1_fewest_82 : decode cX1_fewest 82 = .ok (.iconst (-1), 1) := by decide +kernel
theorem dX1_fewest_83 : decode cX1_fewest 83 = .ok (.ireturn, 1) := by decide +kernel
theorem dX2_init_0 : decode cX2_init 0 = .ok (.aload_n 0, 1) := by decide +kernel
theorem dX2_init_1 : decode cX2_init 1 = .ok (.invokespecial 5, 3) := by decide +kernel
theorem dX2_init_4 : decode cX2_init 4 = .ok (.aload_n 0, 1) := by decide +kernel
theorem dX2_init_5 : decode cX2_init 5 = .ok (.bipush 10, 2) := by decide +kernel
theorem dX2_init_7 : decode cX2_init 7 = .ok (.newarray .int, 2) := by decide +kernel
theorem dX2_init_9 : decode cX2_init 9 = .ok (.putfield 11, 3) := by decide +kernel
theorem dX2_init_12 : decode cX2_init 12 = .ok (.aload_n 0, 1) := by decide +kernel
theorem dX2_init_13 : decode cX2_init 13 = .ok (.iconst 0, 1) := by decide +kernel
theorem dX2_init_14 : decode cX2_init 14 = .ok (.putfield 15, 3) := by decide +kernel
theorem dX2_init_17 : decode cX2_init 17 = .ok (.aload_n 0, 1) := by decide +kernel
theorem dX2_init_18 : decode cX2_init 18 = .ok (.sipush 1024, 3) := by decide +kernel
theorem dX2_init_21 : decode cX2_init 21 = .ok (.newarray .int, 2) := by decide +kernel
theorem dX2_init_23 : decode cX2_init 23 = .ok (.putfield 19, 3) := by decide +kernel
theorem dX2_init_26 : decode cX2_init 26 = .ok (.aload_n 0, 1) := by decide +kernel
theorem dX2_init_27 : decode cX2_init 27 = .ok (.sipush 1024, 3) := by decide +kernel
theorem dX2_init_30 : decode cX2_init 30 = .ok (.newarray .int, 2) := by decide +kernel
theorem dX2_init_32 : decode cX2_init 32 = .ok (.putfield 22, 3) := by decide +kernel
theorem dX2_init_35 : decode cX2_init 35 = .ok (.aload_n 0, 1) := by decide +kernel
theorem dX2_init_36 : decode cX2_init 36 = .ok (.sipush 2613, 3) := by decide +kernel
theorem dX2_init_39 : decode cX2_init 39 = .ok (.newarray .int, 2) := by decide +kernel
theorem dX2_init_41 : decode cX2_init 41 = .ok (.putfield 25, 3) := by decide +kernel
theorem dX2_init_44 : decode cX2_init 44 = .ok (.return_, 1) := by decide +kernel
theorem dX2_addNeed_0 : decode cX2_addNeed 0 = .ok (.aload_n 0, 1) := by decide +kernel
theorem dX2_addNeed_1 : decode cX2_addNeed 1 = .ok (.getfield 15, 3) := by decide +kernel
theorem dX2_addNeed_4 : decode cX2_addNeed 4 = .ok (.bipush 10, 2) := by decide +kernel
theorem dX2_addNeed_6 : decode cX2_addNeed 6 = .ok (.if_icmp .lt 5, 3) := by decide +kernel
theorem dX2_addNeed_9 : decode cX2_addNeed 9 = .ok (.iconst (-1), 1) := by decide +kernel
theorem dX2_addNeed_10 : decode cX2_addNeed 10 = .ok (.ireturn, 1) := by decide +kernel
theorem dX2_addNeed_11 : decode cX2_addNeed 11 = .ok (.aload_n 0, 1) := by decide +kernel
theorem dX2_addNeed_12 : decode cX2_addNeed 12 = .ok (.getfield 11, 3) := by decide +kernel
theorem dX2_addNeed_15 : decode cX2_addNeed 15 = .ok (.aload_n 0, 1) := by decide +kernel
theorem dX2_addNeed_16 : decode cX2_addNeed 16 = .ok (.getfield 15, 3) := by decide +kernel
theorem dX2_addNeed_19 : decode cX2_addNeed 19 = .ok (.iload_n 1, 1) := by decide +kernel
theorem dX2_addNeed_20 : decode cX2_addNeed 20 = .ok (.iastore, 1) := by decide +kernel
theorem dX2_addNeed_21 : decode cX2_addNeed 21 = .ok (.aload_n 0, 1) := by decide +kernel
theorem dX2_addNeed_22 : decode cX2_addNeed 22 = .ok (.dup, 1) := by decide +kernel
theorem dX2_addNeed_23 : decode cX2_addNeed 23 = .ok (.getfield 15, 3) := by decide +kernel
theorem dX2_addNeed_26 : decode cX2_addNeed 26 = .ok (.iconst 1, 1) := by decide +kernel
theorem dX2_addNeed_27 : decode cX2_addNeed 27 = .ok (.iadd, 1) := by decide +kernel
theorem dX2_addNeed_28 : decode cX2_addNeed 28 = .ok (.putfield 15, 3) := by decide +kernel
theorem dX2_addNeed_31 : decode cX2_addNeed 31 = .ok (.aload_n 0, 1) := by decide +kernel
theorem dX2_addNeed_32 : decode cX2_addNeed 32 = .ok (.getfield 15, 3) := by decide +kernel
theorem dX2_addNeed_35 : decode cX2_addNeed 35 = .ok (.ireturn, 1) := by decide +kernel
theorem dX2_fewestRopes_0 : decode cX2_fewestRopes 0 = .ok (.iconst 0, 1) := by decide +kernel
theorem dX2_fewestRopes_1 : decode cX2_fewestRopes 1 = .ok (.istore_n 2, 1) := by decide +kernel
theorem dX2_fewestRopes_2 : decode cX2_fewestRopes 2 = .ok (.iload_n 2, 1) := by decide +kernel
theorem dX2_fewestRopes_3 : decode cX2_fewestRopes 3 = .ok (.aload_n 0, 1) := by decide +kernel
theorem dX2_fewestRopes_4 : decode cX2_fewestRopes 4 = .ok (.getfield 15, 3) := by decide +kernel
theorem dX2_fewestRopes_7 : decode cX2_fewestRopes 7 = .ok (.if_icmp .ge 21, 3) := by decide +kernel
theorem dX2_fewestRopes_10 : decode cX2_fewestRopes 10 = .ok (.aload_n 0, 1) := by decide +kernel
theorem dX2_fewestRopes_11 : decode cX2_fewestRopes 11 = .ok (.getfield 11, 3) := by decide +kernel
theorem dX2_fewestRopes_14 : decode cX2_fewestRopes 14 = .ok (.iload_n 2, 1) := by decide +kernel
theorem dX2_fewestRopes_15 : decode cX2_fewestRopes 15 = .ok (.iaload, 1) := by decide +kernel
theorem dX2_fewestRopes_16 : decode cX2_fewestRopes 16 = .ok (.iload_n 1, 1) := by decide +kernel
theorem dX2_fewestRopes_17 : decode cX2_fewestRopes 17 = .ok (.if_icmp .le 5, 3) := by decide +kernel
theorem dX2_fewestRopes_20 : decode cX2_fewestRopes 20 = .ok (.iconst (-1), 1) := by decide +kernel
theorem dX2_fewestRopes_21 : decode cX2_fewestRopes 21 = .ok (.ireturn, 1) := by decide +kernel
theorem dX2_fewestRopes_22 : decode cX2_fewestRopes 22 = .ok (.iinc 2 1, 3) := by decide +kernel
theorem dX2_fewestRopes_25 : decode cX2_fewestRopes 25 = .ok (.goto (-23), 3) := by decide +kernel
theorem dX2_fewestRopes_28 : decode cX2_fewestRopes 28 = .ok (.aload_n 0, 1) := by decide +kernel
theorem dX2_fewestRopes_29 : decode cX2_fewestRopes 29 = .ok (.getfield 19, 3) := by decide +kernel
theorem dX2_fewestRopes_32 : decode cX2_fewestRopes 32 = .ok (.iconst 0, 1) := by decide +kernel
theorem dX2_fewestRopes_33 : decode cX2_fewestRopes 33 = .ok (.iconst 0, 1) := by decide +kernel
theorem dX2_fewestRopes_34 : decode cX2_fewestRopes 34 = .ok (.iastore, 1) := by decide +kernel
theorem dX2_fewestRopes_35 : decode cX2_fewestRopes 35 = .ok (.aload_n 0, 1) := by decide +kernel
theorem dX2_fewestRopes_36 : decode cX2_fewestRopes 36 = .ok (.getfield 22, 3) := by decide +kernel
theorem dX2_fewestRopes_39 : decode cX2_fewestRopes 39 = .ok (.iconst 0, 1) := by decide +kernel
theorem dX2_fewestRopes_40 : decode cX2_fewestRopes 40 = .ok (.iload_n 1, 1) := by decide +kernel
theorem dX2_fewestRopes_41 : decode cX2_fewestRopes 41 = .ok (.iastore, 1) := by decide +kernel
theorem dX2_fewestRopes_42 : decode cX2_fewestRopes 42 = .ok (.iconst 1, 1) := by decide +kernel
theorem dX2_fewestRopes_43 : decode cX2_fewestRopes 43 = .ok (.istore_n 2, 1) := by decide +kernel
theorem dX2_fewestRopes_44 : decode cX2_fewestRopes 44 = .ok (.iload_n 2, 1) := by decide +kernel
theorem dX2_fewestRopes_45 : decode cX2_fewestRopes 45 = .ok (.iconst 1, 1) := by decide +kernel
theorem dX2_fewestRopes_46 : decode cX2_fewestRopes 46 = .ok (.aload_n 0, 1) := by decide +kernel
theorem dX2_fewestRopes_47 : decode cX2_fewestRopes 47 = .ok (.getfield 15, 3) := by decide +kernel
theorem dX2_fewestRopes_50 : decode cX2_fewestRopes 50 = .ok (.ishl, 1) := by decide +kernel
theorem dX2_fewestRopes_51 : decode cX2_fewestRopes 51 = .ok (.if_icmp .ge 67, 3) := by decide +kernel
theorem dX2_fewestRopes_54 : decode cX2_fewestRopes 54 = .ok (.aload_n 0, 1) := by decide +kernel
theorem dX2_fewestRopes_55 : decode cX2_fewestRopes 55 = .ok (.getfield 19, 3) := by decide +kernel
theorem dX2_fewestRopes_58 : decode cX2_fewestRopes 58 = .ok (.iload_n 2, 1) := by decide +kernel
theorem dX2_fewestRopes_59 : decode cX2_fewestRopes 59 = .ok (.bipush 11, 2) := by decide +kernel
theorem dX2_fewestRopes_61 : decode cX2_fewestRopes 61 = .ok (.iastore, 1) := by decide +kernel
theorem dX2_fewestRopes_62 : decode cX2_fewestRopes 62 = .ok (.aload_n 0, 1) := by decide +kernel
theorem dX2_fewestRopes_63 : decode cX2_fewestRopes 63 = .ok (.getfield 22, 3) := by decide +kernel
theorem dX2_fewestRopes_66 : decode cX2_fewestRopes 66 = .ok (.iload_n 2, 1) := by decide +kernel
theorem dX2_fewestRopes_67 : decode cX2_fewestRopes 67 = .ok (.iconst 0, 1) := by decide +kernel
theorem dX2_fewestRopes_68 : decode cX2_fewestRopes 68 = .ok (.iastore, 1) := by decide +kernel
theorem dX2_fewestRopes_69 : decode cX2_fewestRopes 69 = .ok (.iconst 0, 1) := by decide +kernel
theorem dX2_fewestRopes_70 : decode cX2_fewestRopes 70 = .ok (.istore_n 3, 1) := by decide +kernel
theorem dX2_fewestRopes_71 : decode cX2_fewestRopes 71 = .ok (.iload_n 3, 1) := by decide +kernel
theorem dX2_fewestRopes_72 : decode cX2_fewestRopes 72 = .ok (.aload_n 0, 1) := by decide +kernel
theorem dX2_fewestRopes_73 : decode cX2_fewestRopes 73 = .ok (.getfield 15, 3) := by decide +kernel
theorem dX2_fewestRopes_76 : decode cX2_fewestRopes 76 = .ok (.if_icmp .ge 36, 3) := by decide +kernel
theorem dX2_fewestRopes_79 : decode cX2_fewestRopes 79 = .ok (.iload_n 2, 1) := by decide +kernel
theorem dX2_fewestRopes_80 : decode cX2_fewestRopes 80 = .ok (.iload_n 3, 1) := by decide +kernel
theorem dX2_fewestRopes_81 : decode cX2_fewestRopes 81 = .ok (.ishr, 1) := by decide +kernel
theorem dX2_fewestRopes_82 : decode cX2_fewestRopes 82 = .ok (.iconst 1, 1) := by decide +kernel
theorem dX2_fewestRopes_83 : decode cX2_fewestRopes 83 = .ok (.iand, 1) := by decide +kernel
theorem dX2_fewestRopes_84 : decode cX2_fewestRopes 84 = .ok (.ifCond .eq 22, 3) := by decide +kernel
theorem dX2_fewestRopes_87 : decode cX2_fewestRopes 87 = .ok (.aload_n 0, 1) := by decide +kernel
theorem dX2_fewestRopes_88 : decode cX2_fewestRopes 88 = .ok (.iload_n 2, 1) := by decide +kernel
theorem dX2_fewestRopes_89 : decode cX2_fewestRopes 89 = .ok (.iload_n 2, 1) := by decide +kernel
theorem dX2_fewestRopes_90 : decode cX2_fewestRopes 90 = .ok (.iconst 1, 1) := by decide +kernel
theorem dX2_fewestRopes_91 : decode cX2_fewestRopes 91 = .ok (.iload_n 3, 1) := by decide +kernel
theorem dX2_fewestRopes_92 : decode cX2_fewestRopes 92 = .ok (.ishl, 1) := by decide +kernel
theorem dX2_fewestRopes_93 : decode cX2_fewestRopes 93 = .ok (.iconst (-1), 1) := by decide +kernel
theorem dX2_fewestRopes_94 : decode cX2_fewestRopes 94 = .ok (.ixor, 1) := by decide +kernel
theorem dX2_fewestRopes_95 : decode cX2_fewestRopes 95 = .ok (.iand, 1) := by decide +kernel
theorem dX2_fewestRopes_96 : decode cX2_fewestRopes 96 = .ok (.aload_n 0, 1) := by decide +kernel
theorem dX2_fewestRopes_97 : decode cX2_fewestRopes 97 = .ok (.getfield 11, 3) := by decide +kernel
theorem dX2_fewestRopes_100 : decode cX2_fewestRopes 100 = .ok (.iload_n 3, 1) := by decide +kernel
theorem dX2_fewestRopes_101 : decode cX2_fewestRopes 101 = .ok (.iaload, 1) := by decide +kernel
theorem dX2_fewestRopes_102 : decode cX2_fewestRopes 102 = .ok (.iload_n 1, 1) := by decide +kernel
theorem dX2_fewestRopes_103 : decode cX2_fewestRopes 103 = .ok (.invokevirtual 28, 3) := by decide +kernel
theorem dX2_fewestRopes_106 : decode cX2_fewestRopes 106 = .ok (.iinc 3 1, 3) := by decide +kernel
theorem dX2_fewestRopes_109 : decode cX2_fewestRopes 109 = .ok (.goto (-38), 3) := by decide +kernel
theorem dX2_fewestRopes_112 : decode cX2_fewestRopes 112 = .ok (.iinc 2 1, 3) := by decide +kernel
theorem dX2_fewestRopes_115 : decode cX2_fewestRopes 115 = .ok (.goto (-71), 3) := by decide +kernel
theorem dX2_fewestRopes_118 : decode cX2_fewestRopes 118 = .ok (.aload_n 0, 1) := by decide +kernel
theorem dX2_fewestRopes_119 : decode cX2_fewestRopes 119 = .ok (.getfield 19, 3) := by decide +kernel
theorem dX2_fewestRopes_122 : decode cX2_fewestRopes 122 = .ok (.iconst 1, 1) := by decide +kernel
theorem dX2_fewestRopes_123 : decode cX2_fewestRopes 123 = .ok (.aload_n 0, 1) := by decide +kernel
theorem dX2_fewestRopes_124 : decode cX2_fewestRopes 124 = .ok (.getfield 15, 3) := by decide +kernel
theorem dX2_fewestRopes_127 : decode cX2_fewestRopes 127 = .ok (.ishl, 1) := by decide +kernel
theorem dX2_fewestRopes_128 : decode cX2_fewestRopes 128 = .ok (.iconst 1, 1) := by decide +kernel
theorem dX2_fewestRopes_129 : decode cX2_fewestRopes 129 = .ok (.isub, 1) := by decide +kernel
theorem dX2_fewestRopes_130 : decode cX2_fewestRopes 130 = .ok (.iaload, 1) := by decide +kernel
theorem dX2_fewestRopes_131 : decode cX2_fewestRopes 131 = .ok (.ireturn, 1) := by decide +kernel
theorem dX2_layLast_0 : decode cX2_layLast 0 = .ok (.aload_n 0, 1) := by decide +kernel
theorem dX2_layLast_1 : decode cX2_layLast 1 = .ok (.getfield 22, 3) := by decide +kernel
theorem dX2_layLast_4 : decode cX2_layLast 4 = .ok (.iload_n 2, 1) := by decide +kernel
theorem dX2_layLast_5 : decode cX2_layLast 5 = .ok (.iaload, 1) := by decide +kernel
theorem dX2_layLast_6 : decode cX2_layLast 6 = .ok (.iload 4, 2) := by decide +kernel
theorem dX2_layLast_8 : decode cX2_layLast 8 = .ok (.iload_n 3, 1) := by decide +kernel
theorem dX2_layLast_9 : decode cX2_layLast 9 = .ok (.isub, 1) := by decide +kernel
theorem dX2_layLast_10 : decode cX2_layLast 10 = .ok (.if_icmp .gt 7, 3) := by decide +kernel
theorem dX2_layLast_13 : decode cX2_layLast 13 = .ok (.iconst 1, 1) := by decide +kernel
theorem dX2_layLast_14 : decode cX2_layLast 14 = .ok (.goto 4, 3) := by decide +kernel
theorem dX2_layLast_17 : decode cX2_layLast 17 = .ok (.iconst 0, 1) := by decide +kernel
theorem dX2_layLast_18 : decode cX2_layLast 18 = .ok (.istore 5, 2) := by decide +kernel
theorem dX2_layLast_20 : decode cX2_layLast 20 = .ok (.iload 5, 2) := by decide +kernel
theorem dX2_layLast_22 : decode cX2_layLast 22 = .ok (.ifCond .eq 12, 3) := by decide +kernel
theorem dX2_layLast_25 : decode cX2_layLast 25 = .ok (.aload_n 0, 1) := by decide +kernel
theorem dX2_layLast_26 : decode cX2_layLast 26 = .ok (.getfield 19, 3) := by decide +kernel
theorem dX2_layLast_29 : decode cX2_layLast 29 = .ok (.iload_n 2, 1) := by decide +kernel
theorem dX2_layLast_30 : decode cX2_layLast 30 = .ok (.iaload, 1) := by decide +kernel
theorem dX2_layLast_31 : decode cX2_layLast 31 = .ok (.goto 11, 3) := by decide +kernel
theorem dX2_layLast_34 : decode cX2_layLast 34 = .ok (.aload_n 0, 1) := by decide +kernel
theorem dX2_layLast_35 : decode cX2_layLast 35 = .ok (.getfield 19, 3) := by decide +kernel
theorem dX2_layLast_38 : decode cX2_layLast 38 = .ok (.iload_n 2, 1) := by decide +kernel
theorem dX2_layLast_39 : decode cX2_layLast 39 = .ok (.iaload, 1) := by decide +kernel
theorem dX2_layLast_40 : decode cX2_layLast 40 = .ok (.iconst 1, 1) := by decide +kernel
theorem dX2_layLast_41 : decode cX2_layLast 41 = .ok (.iadd, 1) := by decide +kernel
theorem dX2_layLast_42 : decode cX2_layLast 42 = .ok (.istore 6, 2) := by decide +kernel
theorem dX2_layLast_44 : decode cX2_layLast 44 = .ok (.iload 5, 2) := by decide +kernel
theorem dX2_layLast_46 : decode cX2_layLast 46 = .ok (.ifCond .eq 14, 3) := by decide +kernel
theorem dX2_layLast_49 : decode cX2_layLast 49 = .ok (.aload_n 0, 1) := by decide +kernel
theorem dX2_layLast_50 : decode cX2_layLast 50 = .ok (.getfield 22, 3) := by decide +kernel
theorem dX2_layLast_53 : decode cX2_layLast 53 = .ok (.iload_n 2, 1) := by decide +kernel
theorem dX2_layLast_54 : decode cX2_layLast 54 = .ok (.iaload, 1) := by decide +kernel
theorem dX2_layLast_55 : decode cX2_layLast 55 = .ok (.iload_n 3, 1) := by decide +kernel
theorem dX2_layLast_56 : decode cX2_layLast 56 = .ok (.iadd, 1) := by decide +kernel
theorem dX2_layLast_57 : decode cX2_layLast 57 = .ok (.goto 4, 3) := by decide +kernel
theorem dX2_layLast_60 : decode cX2_layLast 60 = .ok (.iload_n 3, 1) := by decide +kernel
theorem dX2_layLast_61 : decode cX2_layLast 61 = .ok (.istore 7, 2) := by decide +kernel
theorem dX2_layLast_63 : decode cX2_layLast 63 = .ok (.iload 6, 2) := by decide +kernel
theorem dX2_layLast_65 : decode cX2_layLast 65 = .ok (.aload_n 0, 1) := by decide +kernel
theorem dX2_layLast_66 : decode cX2_layLast 66 = .ok (.getfield 19, 3) := by decide +kernel
theorem dX2_layLast_69 : decode cX2_layLast 69 = .ok (.iload_n 1, 1) := by decide +kernel
theorem dX2_layLast_70 : decode cX2_layLast 70 = .ok (.iaload, 1) := by decide +kernel
theorem dX2_layLast_71 : decode cX2_layLast 71 = .ok (.if_icmp .lt 25, 3) := by decide +kernel
theorem dX2_layLast_74 : decode cX2_layLast 74 = .ok (.iload 6, 2) := by decide +kernel
theorem dX2_layLast_76 : decode cX2_layLast 76 = .ok (.aload_n 0, 1) := by decide +kernel
theorem dX2_layLast_77 : decode cX2_layLast 77 = .ok (.getfield 19, 3) := by decide +kernel
theorem dX2_layLast_80 : decode cX2_layLast 80 = .ok (.iload_n 1, 1) := by decide +kernel
theorem dX2_layLast_81 : decode cX2_layLast 81 = .ok (.iaload, 1) := by decide +kernel
theorem dX2_layLast_82 : decode cX2_layLast 82 = .ok (.if_icmp .ne 30, 3) := by decide +kernel
theorem dX2_layLast_85 : decode cX2_layLast 85 = .ok (.iload 7, 2) := by decide +kernel
theorem dX2_layLast_87 : decode cX2_layLast 87 = .ok (.aload_n 0, 1) := by decide +kernel
theorem dX2_layLast_88 : decode cX2_layLast 88 = .ok (.getfield 22, 3) := by decide +kernel
theorem dX2_layLast_91 : decode cX2_layLast 91 = .ok (.iload_n 1, 1) := by decide +kernel
theorem dX2_layLast_92 : decode cX2_layLast 92 = .ok (.iaload, 1) := by decide +kernel
theorem dX2_layLast_93 : decode cX2_layLast 93 = .ok (.if_icmp .ge 19, 3) := by decide +kernel
theorem dX2_layLast_96 : decode cX2_layLast 96 = .ok (.aload_n 0, 1) := by decide +kernel
theorem dX2_layLast_97 : decode cX2_layLast 97 = .ok (.getfield 19, 3) := by decide +kernel
theorem dX2_layLast_100 : decode cX2_layLast 100 = .ok (.iload_n 1, 1) := by decide +kernel
theorem dX2_layLast_101 : decode cX2_layLast 101 = .ok (.iload 6, 2) := by decide +kernel
theorem dX2_layLast_103 : decode cX2_layLast 103 = .ok (.iastore, 1) := by decide +kernel
theorem dX2_layLast_104 : decode cX2_layLast 104 = .ok (.aload_n 0, 1) := by decide +kernel
theorem dX2_layLast_105 : decode cX2_layLast 105 = .ok (.getfield 22, 3) := by decide +kernel
theorem dX2_layLast_108 : decode cX2_layLast 108 = .ok (.iload_n 1, 1) := by decide +kernel
theorem dX2_layLast_109 : decode cX2_layLast 109 = .ok (.iload 7, 2) := by decide +kernel
theorem dX2_layLast_111 : decode cX2_layLast 111 = .ok (.iastore, 1) := by decide +kernel
theorem dX2_layLast_112 : decode cX2_layLast 112 = .ok (.return_, 1) := by decide +kernel
theorem dX2_laddersFor_0 : decode cX2_laddersFor 0 = .ok (.iload_n 1, 1) := by decide +kernel
theorem dX2_laddersFor_1 : decode cX2_laddersFor 1 = .ok (.iconst 2, 1) := by decide +kernel
theorem dX2_laddersFor_2 : decode cX2_laddersFor 2 = .ok (.isub, 1) := by decide +kernel
theorem dX2_laddersFor_3 : decode cX2_laddersFor 3 = .ok (.istore_n 2, 1) := by decide +kernel
theorem dX2_laddersFor_4 : decode cX2_laddersFor 4 = .ok (.iload_n 0, 1) := by decide +kernel
theorem dX2_laddersFor_5 : decode cX2_laddersFor 5 = .ok (.iload_n 1, 1) := by decide +kernel
theorem dX2_laddersFor_6 : decode cX2_laddersFor 6 = .ok (.if_icmp .le 7, 3) := by decide +kernel
theorem dX2_laddersFor_9 : decode cX2_laddersFor 9 = .ok (.iload_n 2, 1) := by decide +kernel
theorem dX2_laddersFor_10 : decode cX2_laddersFor 10 = .ok (.ifCond .gt 5, 3) := by decide +kernel
theorem dX2_laddersFor_13 : decode cX2_laddersFor 13 = .ok (.iconst 1, 1) := by decide +kernel
theorem dX2_laddersFor_14 : decode cX2_laddersFor 14 = .ok (.ireturn, 1) := by decide +kernel
theorem dX2_laddersFor_15 : decode cX2_laddersFor 15 = .ok (.iconst 1, 1) := by decide +kernel
theorem dX2_laddersFor_16 : decode cX2_laddersFor 16 = .ok (.iload_n 0, 1) := by decide +kernel
theorem dX2_laddersFor_17 : decode cX2_laddersFor 17 = .ok (.iload_n 1, 1) := by decide +kernel
theorem dX2_laddersFor_18 : decode cX2_laddersFor 18 = .ok (.isub, 1) := by decide +kernel
theorem dX2_laddersFor_19 : decode cX2_laddersFor 19 = .ok (.iload_n 2, 1) := by decide +kernel
theorem dX2_laddersFor_20 : decode cX2_laddersFor 20 = .ok (.iadd, 1) := by decide +kernel
theorem dX2_laddersFor_21 : decode cX2_laddersFor 21 = .ok (.iconst 1, 1) := by decide +kernel
theorem dX2_laddersFor_22 : decode cX2_laddersFor 22 = .ok (.isub, 1) := by decide +kernel
theorem dX2_laddersFor_23 : decode cX2_laddersFor 23 = .ok (.iload_n 2, 1) := by decide +kernel
theorem dX2_laddersFor_24 : decode cX2_laddersFor 24 = .ok (.idiv, 1) := by decide +kernel
theorem dX2_laddersFor_25 : decode cX2_laddersFor 25 = .ok (.iadd, 1) := by decide +kernel
theorem dX2_laddersFor_26 : decode cX2_laddersFor 26 = .ok (.ireturn, 1) := by decide +kernel
theorem dX2_mostOut_0 : decode cX2_mostOut 0 = .ok (.aload_n 0, 1) := by decide +kernel
theorem dX2_mostOut_1 : decode cX2_mostOut 1 = .ok (.aload_n 1, 1) := by decide +kernel
theorem dX2_mostOut_2 : decode cX2_mostOut 2 = .ok (.iload_n 3, 1) := by decide +kernel
theorem dX2_mostOut_3 : decode cX2_mostOut 3 = .ok (.invokevirtual 32, 3) := by decide +kernel
theorem dX2_mostOut_6 : decode cX2_mostOut 6 = .ok (.iload_n 2, 1) := by decide +kernel
theorem dX2_mostOut_7 : decode cX2_mostOut 7 = .ok (.istore 4, 2) := by decide +kernel
theorem dX2_mostOut_9 : decode cX2_mostOut 9 = .ok (.iconst 0, 1) := by decide +kernel
theorem dX2_mostOut_10 : decode cX2_mostOut 10 = .ok (.istore 5, 2) := by decide +kernel
theorem dX2_mostOut_12 : decode cX2_mostOut 12 = .ok (.iconst 0, 1) := by decide +kernel
theorem dX2_mostOut_13 : decode cX2_mostOut 13 = .ok (.istore 6, 2) := by decide +kernel
theorem dX2_mostOut_15 : decode cX2_mostOut 15 = .ok (.iload 6, 2) := by decide +kernel
theorem dX2_mostOut_17 : decode cX2_mostOut 17 = .ok (.aload_n 1, 1) := by decide +kernel
theorem dX2_mostOut_18 : decode cX2_mostOut 18 = .ok (.getfield 36, 3) := by decide +kernel
theorem dX2_mostOut_21 : decode cX2_mostOut 21 = .ok (.if_icmp .ge 86, 3) := by decide +kernel
theorem dX2_mostOut_24 : decode cX2_mostOut 24 = .ok (.aload_n 1, 1) := by decide +kernel
theorem dX2_mostOut_25 : decode cX2_mostOut 25 = .ok (.getfield 41, 3) := by decide +kernel
theorem dX2_mostOut_28 : decode cX2_mostOut 28 = .ok (.iload 6, 2) := by decide +kernel
theorem dX2_mostOut_30 : decode cX2_mostOut 30 = .ok (.iaload, 1) := by decide +kernel
theorem dX2_mostOut_31 : decode cX2_mostOut 31 = .ok (.iload_n 3, 1) := by decide +kernel
theorem dX2_mostOut_32 : decode cX2_mostOut 32 = .ok (.invokestatic 44, 3) := by decide +kernel
theorem dX2_mostOut_35 : decode cX2_mostOut 35 = .ok (.istore 7, 2) := by decide +kernel
theorem dX2_mostOut_37 : decode cX2_mostOut 37 = .ok (.iload 6, 2) := by decide +kernel
theorem dX2_mostOut_39 : decode cX2_mostOut 39 = .ok (.iconst 1, 1) := by decide +kernel
theorem dX2_mostOut_40 : decode cX2_mostOut 40 = .ok (.iadd, 1) := by decide +kernel
theorem dX2_mostOut_41 : decode cX2_mostOut 41 = .ok (.sipush 201, 3) := by decide +kernel
theorem dX2_mostOut_44 : decode cX2_mostOut 44 = .ok (.imul, 1) := by decide +kernel
theorem dX2_mostOut_45 : decode cX2_mostOut 45 = .ok (.iload 4, 2) := by decide +kernel
theorem dX2_mostOut_47 : decode cX2_mostOut 47 = .ok (.iadd, 1) := by decide +kernel
theorem dX2_mostOut_48 : decode cX2_mostOut 48 = .ok (.istore 8, 2) := by decide +kernel
theorem dX2_mostOut_50 : decode cX2_mostOut 50 = .ok (.iload 7, 2) := by decide +kernel
theorem dX2_mostOut_52 : decode cX2_mostOut 52 = .ok (.iload 4, 2) := by decide +kernel
theorem dX2_mostOut_54 : decode cX2_mostOut 54 = .ok (.if_icmp .gt 47, 3) := by decide +kernel
theorem dX2_mostOut_57 : decode cX2_mostOut 57 = .ok (.aload_n 1, 1) := by decide +kernel
theorem dX2_mostOut_58 : decode cX2_mostOut 58 = .ok (.getfield 41, 3) := by decide +kernel
theorem dX2_mostOut_61 : decode cX2_mostOut 61 = .ok (.iload 6, 2) := by decide +kernel
theorem dX2_mostOut_63 : decode cX2_mostOut 63 = .ok (.iaload, 1) := by decide +kernel
theorem dX2_mostOut_64 : decode cX2_mostOut 64 = .ok (.aload_n 0, 1) := by decide +kernel
theorem dX2_mostOut_65 : decode cX2_mostOut 65 = .ok (.getfield 25, 3) := by decide +kernel
theorem dX2_mostOut_68 : decode cX2_mostOut 68 = .ok (.iload 8, 2) := by decide +kernel
theorem dX2_mostOut_70 : decode cX2_mostOut 70 = .ok (.iload 7, 2) := by decide +kernel
theorem dX2_mostOut_72 : decode cX2_mostOut 72 = .ok (.isub, 1) := by decide +kernel
theorem dX2_mostOut_73 : decode cX2_mostOut 73 = .ok (.iaload, 1) := by decide +kernel
theorem dX2_mostOut_74 : decode cX2_mostOut 74 = .ok (.iadd, 1) := by decide +kernel
theorem dX2_mostOut_75 : decode cX2_mostOut 75 = .ok (.aload_n 0, 1) := by decide +kernel
theorem dX2_mostOut_76 : decode cX2_mostOut 76 = .ok (.getfield 25, 3) := by decide +kernel
theorem dX2_mostOut_79 : decode cX2_mostOut 79 = .ok (.iload 8, 2) := by decide +kernel
theorem dX2_mostOut_81 : decode cX2_mostOut 81 = .ok (.iaload, 1) := by decide +kernel
theorem dX2_mostOut_82 : decode cX2_mostOut 82 = .ok (.if_icmp .lt 19, 3) := by decide +kernel
theorem dX2_mostOut_85 : decode cX2_mostOut 85 = .ok (.iload 5, 2) := by decide +kernel
theorem dX2_mostOut_87 : decode cX2_mostOut 87 = .ok (.iconst 1, 1) := by decide +kernel
theorem dX2_mostOut_88 : decode cX2_mostOut 88 = .ok (.iload 6, 2) := by decide +kernel
theorem dX2_mostOut_90 : decode cX2_mostOut 90 = .ok (.ishl, 1) := by decide +kernel
theorem dX2_mostOut_91 : decode cX2_mostOut 91 = .ok (.ior, 1) := by decide +kernel
theorem dX2_mostOut_92 : decode cX2_mostOut 92 = .ok (.istore 5, 2) := by decide +kernel
theorem dX2_mostOut_94 : decode cX2_mostOut 94 = .ok (.iload 4, 2) := by decide +kernel
theorem dX2_mostOut_96 : decode cX2_mostOut 96 = .ok (.iload 7, 2) := by decide +kernel
theorem dX2_mostOut_98 : decode cX2_mostOut 98 = .ok (.isub, 1) := by decide +kernel
theorem dX2_mostOut_99 : decode cX2_mostOut 99 = .ok (.istore 4, 2) := by decide +kernel
theorem dX2_mostOut_101 : decode cX2_mostOut 101 = .ok (.iinc 6 1, 3) := by decide +kernel
theorem dX2_mostOut_104 : decode cX2_mostOut 104 = .ok (.goto (-89), 3) := by decide +kernel
theorem dX2_mostOut_107 : decode cX2_mostOut 107 = .ok (.iload 5, 2) := by decide +kernel
theorem dX2_mostOut_109 : decode cX2_mostOut 109 = .ok (.ireturn, 1) := by decide +kernel
theorem dX2_fillMost_0 : decode cX2_fillMost 0 = .ok (.iconst 0, 1) := by decide +kernel
theorem dX2_fillMost_1 : decode cX2_fillMost 1 = .ok (.istore_n 3, 1) := by decide +kernel
theorem dX2_fillMost_2 : decode cX2_fillMost 2 = .ok (.iload_n 3, 1) := by decide +kernel
theorem dX2_fillMost_3 : decode cX2_fillMost 3 = .ok (.sipush 201, 3) := by decide +kernel
theorem dX2_fillMost_6 : decode cX2_fillMost 6 = .ok (.if_icmp .ge 25, 3) := by decide +kernel
theorem dX2_fillMost_9 : decode cX2_fillMost 9 = .ok (.aload_n 0, 1) := by decide +kernel
theorem dX2_fillMost_10 : decode cX2_fillMost 10 = .ok (.getfield 25, 3) := by decide +kernel
theorem dX2_fillMost_13 : decode cX2_fillMost 13 = .ok (.aload_n 1, 1) := by decide +kernel
theorem dX2_fillMost_14 : decode cX2_fillMost 14 = .ok (.getfield 36, 3) := by decide +kernel
theorem dX2_fillMost_17 : decode cX2_fillMost 17 = .ok (.sipush 201, 3) := by decide +kernel
theorem dX2_fillMost_20 : decode cX2_fillMost 20 = .ok (.imul, 1) := by decide +kernel
theorem dX2_fillMost_21 : decode cX2_fillMost 21 = .ok (.iload_n 3, 1) := by decide +kernel
theorem dX2_fillMost_22 : decode cX2_fillMost 22 = .ok (.iadd, 1) := by decide +kernel
theorem dX2_fillMost_23 : decode cX2_fillMost 23 = .ok (.iconst 0, 1) := by decide +kernel
theorem dX2_fillMost_24 : decode cX2_fillMost 24 = .ok (.iastore, 1) := by decide +kernel
theorem dX2_fillMost_25 : decode cX2_fillMost 25 = .ok (.iinc 3 1, 3) := by decide +kernel
theorem dX2_fillMost_28 : decode cX2_fillMost 28 = .ok (.goto (-26), 3) := by decide +kernel
theorem dX2_fillMost_31 : decode cX2_fillMost 31 = .ok (.aload_n 1, 1) := by decide +kernel
theorem dX2_fillMost_32 : decode cX2_fillMost 32 = .ok (.getfield 36, 3) := by decide +kernel
theorem dX2_fillMost_35 : decode cX2_fillMost 35 = .ok (.iconst 1, 1) := by decide +kernel
theorem dX2_fillMost_36 : decode cX2_fillMost 36 = .ok (.isub, 1) := by decide +kernel
theorem dX2_fillMost_37 : decode cX2_fillMost 37 = .ok (.istore_n 3, 1) := by decide +kernel
theorem dX2_fillMost_38 : decode cX2_fillMost 38 = .ok (.iload_n 3, 1) := by decide +kernel
theorem dX2_fillMost_39 : decode cX2_fillMost 39 = .ok (.ifCond .lt 109, 3) := by decide +kernel
theorem dX2_fillMost_42 : decode cX2_fillMost 42 = .ok (.aload_n 1, 1) := by decide +kernel
theorem dX2_fillMost_43 : decode cX2_fillMost 43 = .ok (.getfield 41, 3) := by decide +kernel
theorem dX2_fillMost_46 : decode cX2_fillMost 46 = .ok (.iload_n 3, 1) := by decide +kernel
theorem dX2_fillMost_47 : decode cX2_fillMost 47 = .ok (.iaload, 1) := by decide +kernel
theorem dX2_fillMost_48 : decode cX2_fillMost 48 = .ok (.iload_n 2, 1) := by decide +kernel
theorem dX2_fillMost_49 : decode cX2_fillMost 49 = .ok (.invokestatic 44, 3) := by decide +kernel
theorem dX2_fillMost_52 : decode cX2_fillMost 52 = .ok (.istore 4, 2) := by decide +kernel
theorem dX2_fillMost_54 : decode cX2_fillMost 54 = .ok (.iconst 0, 1) := by decide +kernel
theorem dX2_fillMost_55 : decode cX2_fillMost 55 = .ok (.istore 5, 2) := by decide +kernel
theorem dX2_fillMost_57 : decode cX2_fillMost 57 = .ok (.iload 5, 2) := by decide +kernel
theorem dX2_fillMost_59 : decode cX2_fillMost 59 = .ok (.sipush 201, 3) := by decide +kernel
theorem dX2_fillMost_62 : decode cX2_fillMost 62 = .ok (.if_icmp .ge 80, 3) := by decide +kernel
theorem dX2_fillMost_65 : decode cX2_fillMost 65 = .ok (.aload_n 0, 1) := by decide +kernel
theorem dX2_fillMost_66 : decode cX2_fillMost 66 = .ok (.getfield 25, 3) := by decide +kernel
theorem dX2_fillMost_69 : decode cX2_fillMost 69 = .ok (.iload_n 3, 1) := by decide +kernel
theorem dX2_fillMost_70 : decode cX2_fillMost 70 = .ok (.iconst 1, 1) := by decide +kernel
theorem dX2_fillMost_71 : decode cX2_fillMost 71 = .ok (.iadd, 1) := by decide +kernel
theorem dX2_fillMost_72 : decode cX2_fillMost 72 = .ok (.sipush 201, 3) := by decide +kernel
theorem dX2_fillMost_75 : decode cX2_fillMost 75 = .ok (.imul, 1) := by decide +kernel
theorem dX2_fillMost_76 : decode cX2_fillMost 76 = .ok (.iload 5, 2) := by decide +kernel
theorem dX2_fillMost_78 : decode cX2_fillMost 78 = .ok (.iadd, 1) := by decide +kernel
theorem dX2_fillMost_79 : decode cX2_fillMost 79 = .ok (.iaload, 1) := by decide +kernel
theorem dX2_fillMost_80 : decode cX2_fillMost 80 = .ok (.istore 6, 2) := by decide +kernel
theorem dX2_fillMost_82 : decode cX2_fillMost 82 = .ok (.iload 4, 2) := by decide +kernel
theorem dX2_fillMost_84 : decode cX2_fillMost 84 = .ok (.iload 5, 2) := by decide +kernel
theorem dX2_fillMost_86 : decode cX2_fillMost 86 = .ok (.if_icmp .gt 35, 3) := by decide +kernel
theorem dX2_fillMost_89 : decode cX2_fillMost 89 = .ok (.iload 6, 2) := by decide +kernel
theorem dX2_fillMost_91 : decode cX2_fillMost 91 = .ok (.aload_n 1, 1) := by decide +kernel
theorem dX2_fillMost_92 : decode cX2_fillMost 92 = .ok (.getfield 41, 3) := by decide +kernel
theorem dX2_fillMost_95 : decode cX2_fillMost 95 = .ok (.iload_n 3, 1) := by decide +kernel
theorem dX2_fillMost_96 : decode cX2_fillMost 96 = .ok (.iaload, 1) := by decide +kernel
theorem dX2_fillMost_97 : decode cX2_fillMost 97 = .ok (.aload_n 0, 1) := by decide +kernel
theorem dX2_fillMost_98 : decode cX2_fillMost 98 = .ok (.getfield 25, 3) := by decide +kernel
theorem dX2_fillMost_101 : decode cX2_fillMost 101 = .ok (.iload_n 3, 1) := by decide +kernel
theorem dX2_fillMost_102 : decode cX2_fillMost 102 = .ok (.iconst 1, 1) := by decide +kernel
theorem dX2_fillMost_103 : decode cX2_fillMost 103 = .ok (.iadd, 1) := by decide +kernel
theorem dX2_fillMost_104 : decode cX2_fillMost 104 = .ok (.sipush 201, 3) := by decide +kernel
theorem dX2_fillMost_107 : decode cX2_fillMost 107 = .ok (.imul, 1) := by decide +kernel
theorem dX2_fillMost_108 : decode cX2_fillMost 108 = .ok (.iload 5, 2) := by decide +kernel
theorem dX2_fillMost_110 : decode cX2_fillMost 110 = .ok (.iadd, 1) := by decide +kernel
theorem dX2_fillMost_111 : decode cX2_fillMost 111 = .ok (.iload 4, 2) := by decide +kernel
theorem dX2_fillMost_113 : decode cX2_fillMost 113 = .ok (.isub, 1) := by decide +kernel
theorem dX2_fillMost_114 : decode cX2_fillMost 114 = .ok (.iaload, 1) := by decide +kernel
theorem dX2_fillMost_115 : decode cX2_fillMost 115 = .ok (.iadd, 1) := by decide +kernel
theorem dX2_fillMost_116 : decode cX2_fillMost 116 = .ok (.invokestatic 48, 3) := by decide +kernel
theorem dX2_fillMost_119 : decode cX2_fillMost 119 = .ok (.istore 6, 2) := by decide +kernel
theorem dX2_fillMost_121 : decode cX2_fillMost 121 = .ok (.aload_n 0, 1) := by decide +kernel
theorem dX2_fillMost_122 : decode cX2_fillMost 122 = .ok (.getfield 25, 3) := by decide +kernel
theorem dX2_fillMost_125 : decode cX2_fillMost 125 = .ok (.iload_n 3, 1) := by decide +kernel
theorem dX2_fillMost_126 : decode cX2_fillMost 126 = .ok (.sipush 201, 3) := by decide +kernel
theorem dX2_fillMost_129 : decode cX2_fillMost 129 = .ok (.imul, 1) := by decide +kernel
theorem dX2_fillMost_130 : decode cX2_fillMost 130 = .ok (.iload 5, 2) := by decide +kernel
theorem dX2_fillMost_132 : decode cX2_fillMost 132 = .ok (.iadd, 1) := by decide +kernel
theorem dX2_fillMost_133 : decode cX2_fillMost 133 = .ok (.iload 6, 2) := by decide +kernel
theorem dX2_fillMost_135 : decode cX2_fillMost 135 = .ok (.iastore, 1) := by decide +kernel
theorem dX2_fillMost_136 : decode cX2_fillMost 136 = .ok (.iinc 5 1, 3) := by decide +kernel
theorem dX2_fillMost_139 : decode cX2_fillMost 139 = .ok (.goto (-82), 3) := by decide +kernel
theorem dX2_fillMost_142 : decode cX2_fillMost 142 = .ok (.iinc 3 (-1), 3) := by decide +kernel
theorem dX2_fillMost_145 : decode cX2_fillMost 145 = .ok (.goto (-107), 3) := by decide +kernel
theorem dX2_fillMost_148 : decode cX2_fillMost 148 = .ok (.return_, 1) := by decide +kernel
theorem dX3_init_0 : decode cX3_init 0 = .ok (.aload_n 0, 1) := by decide +kernel
theorem dX3_init_1 : decode cX3_init 1 = .ok (.invokespecial 3, 3) := by decide +kernel
theorem dX3_init_4 : decode cX3_init 4 = .ok (.aload_n 0, 1) := by decide +kernel
theorem dX3_init_5 : decode cX3_init 5 = .ok (.bipush 96, 2) := by decide +kernel
theorem dX3_init_7 : decode cX3_init 7 = .ok (.newarray .int, 2) := by decide +kernel
theorem dX3_init_9 : decode cX3_init 9 = .ok (.putfield 11, 3) := by decide +kernel
theorem dX3_init_12 : decode cX3_init 12 = .ok (.aload_n 0, 1) := by decide +kernel
theorem dX3_init_13 : decode cX3_init 13 = .ok (.bipush 96, 2) := by decide +kernel
theorem dX3_init_15 : decode cX3_init 15 = .ok (.newarray .int, 2) := by decide +kernel
theorem dX3_init_17 : decode cX3_init 17 = .ok (.putfield 15, 3) := by decide +kernel
theorem dX3_init_20 : decode cX3_init 20 = .ok (.aload_n 0, 1) := by decide +kernel
theorem dX3_init_21 : decode cX3_init 21 = .ok (.bipush 96, 2) := by decide +kernel
theorem dX3_init_23 : decode cX3_init 23 = .ok (.newarray .int, 2) := by decide +kernel
theorem dX3_init_25 : decode cX3_init 25 = .ok (.putfield 18, 3) := by decide +kernel
theorem dX3_init_28 : decode cX3_init 28 = .ok (.aload_n 0, 1) := by decide +kernel
theorem dX3_init_29 : decode cX3_init 29 = .ok (.bipush 96, 2) := by decide +kernel
theorem dX3_init_31 : decode cX3_init 31 = .ok (.newarray .int, 2) := by decide +kernel
theorem dX3_init_33 : decode cX3_init 33 = .ok (.putfield 21, 3) := by decide +kernel
theorem dX3_init_36 : decode cX3_init 36 = .ok (.aload_n 0, 1) := by decide +kernel
theorem dX3_init_37 : decode cX3_init 37 = .ok (.bipush 12, 2) := by decide +kernel
theorem dX3_init_39 : decode cX3_init 39 = .ok (.newarray .int, 2) := by decide +kernel
theorem dX3_init_41 : decode cX3_init 41 = .ok (.putfield 24, 3) := by decide +kernel
theorem dX3_init_44 : decode cX3_init 44 = .ok (.aload_n 0, 1) := by decide +kernel
theorem dX3_init_45 : decode cX3_init 45 = .ok (.bipush 12, 2) := by decide +kernel
theorem dX3_init_47 : decode cX3_init 47 = .ok (.newarray .int, 2) := by decide +kernel
theorem dX3_init_49 : decode cX3_init 49 = .ok (.putfield 27, 3) := by decide +kernel
theorem dX3_init_52 : decode cX3_init 52 = .ok (.aload_n 0, 1) := by decide +kernel
theorem dX3_init_53 : decode cX3_init 53 = .ok (.sipush 200, 3) := by decide +kernel
theorem dX3_init_56 : decode cX3_init 56 = .ok (.newarray .int, 2) := by decide +kernel
theorem dX3_init_58 : decode cX3_init 58 = .ok (.putfield 30, 3) := by decide +kernel
theorem dX3_init_61 : decode cX3_init 61 = .ok (.return_, 1) := by decide +kernel
theorem dX3_clear_0 : decode cX3_clear 0 = .ok (.aload_n 0, 1) := by decide +kernel
theorem dX3_clear_1 : decode cX3_clear 1 = .ok (.getfield 24, 3) := by decide +kernel
theorem dX3_clear_4 : decode cX3_clear 4 = .ok (.iconst 0, 1) := by decide +kernel
theorem dX3_clear_5 : decode cX3_clear 5 = .ok (.invokestatic 33, 3) := by decide +kernel
theorem dX3_clear_8 : decode cX3_clear 8 = .ok (.aload_n 0, 1) := by decide +kernel
theorem dX3_clear_9 : decode cX3_clear 9 = .ok (.getfield 27, 3) := by decide +kernel
theorem dX3_clear_12 : decode cX3_clear 12 = .ok (.iconst 0, 1) := by decide +kernel
theorem dX3_clear_13 : decode cX3_clear 13 = .ok (.invokestatic 33, 3) := by decide +kernel
theorem dX3_clear_16 : decode cX3_clear 16 = .ok (.return_, 1) := by decide +kernel
theorem dX3_add_0 : decode cX3_add 0 = .ok (.aload_n 0, 1) := by decide +kernel
theorem dX3_add_1 : decode cX3_add 1 = .ok (.getfield 24, 3) := by decide +kernel
theorem dX3_add_4 : decode cX3_add 4 = .ok (.iload_n 1, 1) := by decide +kernel
theorem dX3_add_5 : decode cX3_add 5 = .ok (.iaload, 1) := by decide +kernel
theorem dX3_add_6 : decode cX3_add 6 = .ok (.bipush 8, 2) := by decide +kernel
theorem dX3_add_8 : decode cX3_add 8 = .ok (.if_icmp .lt 5, 3) := by decide +kernel
theorem dX3_add_11 : decode cX3_add 11 = .ok (.iconst (-1), 1) := by decide +kernel
theorem dX3_add_12 : decode cX3_add 12 = .ok (.ireturn, 1) := by decide +kernel
theorem dX3_add_13 : decode cX3_add 13 = .ok (.iload_n 1, 1) := by decide +kernel
theorem dX3_add_14 : decode cX3_add 14 = .ok (.bipush 8, 2) := by decide +kernel
theorem dX3_add_16 : decode cX3_add 16 = .ok (.imul, 1) := by decide +kernel
theorem dX3_add_17 : decode cX3_add 17 = .ok (.aload_n 0, 1) := by decide +kernel
theorem dX3_add_18 : decode cX3_add 18 = .ok (.getfield 24, 3) := by decide +kernel
theorem dX3_add_21 : decode cX3_add 21 = .ok (.iload_n 1, 1) := by decide +kernel
theorem dX3_add_22 : decode cX3_add 22 = .ok (.iaload, 1) := by decide +kernel
theorem dX3_add_23 : decode cX3_add 23 = .ok (.iadd, 1) := by decide +kernel
theorem dX3_add_24 : decode cX3_add 24 = .ok (.istore 6, 2) := by decide +kernel
theorem dX3_add_26 : decode cX3_add 26 = .ok (.aload_n 0, 1) := by decide +kernel
theorem dX3_add_27 : decode cX3_add 27 = .ok (.getfield 11, 3) := by decide +kernel
theorem dX3_add_30 : decode cX3_add 30 = .ok (.iload 6, 2) := by decide +kernel
theorem dX3_add_32 : decode cX3_add 32 = .ok (.iload_n 2, 1) := by decide +kernel
theorem dX3_add_33 : decode cX3_add 33 = .ok (.iastore, 1) := by decide +kernel
theorem dX3_add_34 : decode cX3_add 34 = .ok (.aload_n 0, 1) := by decide +kernel
theorem dX3_add_35 : decode cX3_add 35 = .ok (.getfield 15, 3) := by decide +kernel
theorem dX3_add_38 : decode cX3_add 38 = .ok (.iload 6, 2) := by decide +kernel
theorem dX3_add_40 : decode cX3_add 40 = .ok (.iload_n 3, 1) := by decide +kernel
theorem dX3_add_41 : decode cX3_add 41 = .ok (.iastore, 1) := by decide +kernel
theorem dX3_add_42 : decode cX3_add 42 = .ok (.aload_n 0, 1) := by decide +kernel
theorem dX3_add_43 : decode cX3_add 43 = .ok (.getfield 18, 3) := by decide +kernel
theorem dX3_add_46 : decode cX3_add 46 = .ok (.iload 6, 2) := by decide +kernel
theorem dX3_add_48 : decode cX3_add 48 = .ok (.iload 4, 2) := by decide +kernel
theorem dX3_add_50 : decode cX3_add 50 = .ok (.iastore, 1) := by decide +kernel
theorem dX3_add_51 : decode cX3_add 51 = .ok (.aload_n 0, 1) := by decide +kernel
theorem dX3_add_52 : decode cX3_add 52 = .ok (.getfield 21, 3) := by decide +kernel
theorem dX3_add_55 : decode cX3_add 55 = .ok (.iload 6, 2) := by decide +kernel
theorem dX3_add_57 : decode cX3_add 57 = .ok (.iload 5, 2) := by decide +kernel
theorem dX3_add_59 : decode cX3_add 59 = .ok (.iastore, 1) := by decide +kernel
theorem dX3_add_60 : decode cX3_add 60 = .ok (.aload_n 0, 1) := by decide +kernel
theorem dX3_add_61 : decode cX3_add 61 = .ok (.getfield 24, 3) := by decide +kernel
theorem dX3_add_64 : decode cX3_add 64 = .ok (.iload_n 1, 1) := by decide +kernel
theorem dX3_add_65 : decode cX3_add 65 = .ok (.dup2, 1) := by decide +kernel
theorem dX3_add_66 : decode cX3_add 66 = .ok (.iaload, 1) := by decide +kernel
theorem dX3_add_67 : decode cX3_add 67 = .ok (.iconst 1, 1) := by decide +kernel
theorem dX3_add_68 : decode cX3_add 68 = .ok (.iadd, 1) := by decide +kernel
theorem dX3_add_69 : decode cX3_add 69 = .ok (.iastore, 1) := by decide +kernel
theorem dX3_add_70 : decode cX3_add 70 = .ok (.aload_n 0, 1) := by decide +kernel
theorem dX3_add_71 : decode cX3_add 71 = .ok (.getfield 24, 3) := by decide +kernel
theorem dX3_add_74 : decode cX3_add 74 = .ok (.iload_n 1, 1) := by decide +kernel
theorem dX3_add_75 : decode cX3_add 75 = .ok (.iaload, 1) := by decide +kernel
theorem dX3_add_76 : decode cX3_add 76 = .ok (.ireturn, 1) := by decide +kernel
theorem dX3_fillBears_0 : decode cX3_fillBears 0 = .ok (.iconst 0, 1) := by decide +kernel
theorem dX3_fillBears_1 : decode cX3_fillBears 1 = .ok (.istore 4, 2) := by decide +kernel
theorem dX3_fillBears_3 : decode cX3_fillBears 3 = .ok (.iload 4, 2) := by decide +kernel
theorem dX3_fillBears_5 : decode cX3_fillBears 5 = .ok (.iload_n 3, 1) := by decide +kernel
theorem dX3_fillBears_6 : decode cX3_fillBears 6 = .ok (.if_icmp .ge 22, 3) := by decide +kernel
theorem dX3_fillBears_9 : decode cX3_fillBears 9 = .ok (.aload_n 0, 1) := by decide +kernel
theorem dX3_fillBears_10 : decode cX3_fillBears 10 = .ok (.getfield 30, 3) := by decide +kernel
theorem dX3_fillBears_13 : decode cX3_fillBears 13 = .ok (.iload 4, 2) := by decide +kernel
theorem dX3_fillBears_15 : decode cX3_fillBears 15 = .ok (.aload_n 0, 1) := by decide +kernel
theorem dX3_fillBears_16 : decode cX3_fillBears 16 = .ok (.getfield 27, 3) := by decide +kernel
theorem dX3_fillBears_19 : decode cX3_fillBears 19 = .ok (.iload_n 1, 1) := by decide +kernel
theorem dX3_fillBears_20 : decode cX3_fillBears 20 = .ok (.iaload, 1) := by decide +kernel
theorem dX3_fillBears_21 : decode cX3_fillBears 21 = .ok (.iastore, 1) := by decide +kernel
theorem dX3_fillBears_22 : decode cX3_fillBears 22 = .ok (.iinc 4 1, 3) := by decide +kernel
theorem dX3_fillBears_25 : decode cX3_fillBears 25 = .ok (.goto (-22), 3) := by decide +kernel
theorem dX3_fillBears_28 : decode cX3_fillBears 28 = .ok (.iload_n 1, 1) := by decide +kernel
theorem dX3_fillBears_29 : decode cX3_fillBears 29 = .ok (.bipush 8, 2) := by decide +kernel
theorem dX3_fillBears_31 : decode cX3_fillBears 31 = .ok (.imul, 1) := by decide +kernel
theorem dX3_fillBears_32 : decode cX3_fillBears 32 = .ok (.istore 4, 2) := by decide +kernel
theorem dX3_fillBears_34 : decode cX3_fillBears 34 = .ok (.iload 4, 2) := by decide +kernel
theorem dX3_fillBears_36 : decode cX3_fillBears 36 = .ok (.iload_n 1, 1) := by decide +kernel
theorem dX3_fillBears_37 : decode cX3_fillBears 37 = .ok (.bipush 8, 2) := by decide +kernel
theorem dX3_fillBears_39 : decode cX3_fillBears 39 = .ok (.imul, 1) := by decide +kernel
theorem dX3_fillBears_40 : decode cX3_fillBears 40 = .ok (.aload_n 0, 1) := by decide +kernel
theorem dX3_fillBears_41 : decode cX3_fillBears 41 = .ok (.getfield 24, 3) := by decide +kernel
theorem dX3_fillBears_44 : decode cX3_fillBears 44 = .ok (.iload_n 1, 1) := by decide +kernel
theorem dX3_fillBears_45 : decode cX3_fillBears 45 = .ok (.iaload, 1) := by decide +kernel
theorem dX3_fillBears_46 : decode cX3_fillBears 46 = .ok (.iadd, 1) := by decide +kernel
theorem dX3_fillBears_47 : decode cX3_fillBears 47 = .ok (.if_icmp .ge 28, 3) := by decide +kernel
theorem dX3_fillBears_50 : decode cX3_fillBears 50 = .ok (.aload_n 0, 1) := by decide +kernel
theorem dX3_fillBears_51 : decode cX3_fillBears 51 = .ok (.aload_n 0, 1) := by decide +kernel
theorem dX3_fillBears_52 : decode cX3_fillBears 52 = .ok (.getfield 11, 3) := by decide +kernel
theorem dX3_fillBears_55 : decode cX3_fillBears 55 = .ok (.iload 4, 2) := by decide +kernel
theorem dX3_fillBears_57 : decode cX3_fillBears 57 = .ok (.iaload, 1) := by decide +kernel
theorem dX3_fillBears_58 : decode cX3_fillBears 58 = .ok (.aload_n 0, 1) := by decide +kernel
theorem dX3_fillBears_59 : decode cX3_fillBears 59 = .ok (.iload 4, 2) := by decide +kernel
theorem dX3_fillBears_61 : decode cX3_fillBears 61 = .ok (.iload_n 2, 1) := by decide +kernel
theorem dX3_fillBears_62 : decode cX3_fillBears 62 = .ok (.invokevirtual 39, 3) := by decide +kernel
theorem dX3_fillBears_65 : decode cX3_fillBears 65 = .ok (.iload_n 3, 1) := by decide +kernel
theorem dX3_fillBears_66 : decode cX3_fillBears 66 = .ok (.invokevirtual 43, 3) := by decide +kernel
theorem dX3_fillBears_69 : decode cX3_fillBears 69 = .ok (.iinc 4 1, 3) := by decide +kernel
theorem dX3_fillBears_72 : decode cX3_fillBears 72 = .ok (.goto (-38), 3) := by decide +kernel
theorem dX3_fillBears_75 : decode cX3_fillBears 75 = .ok (.return_, 1) := by decide +kernel
theorem dX3_held_0 : decode cX3_held 0 = .ok (.iload_n 2, 1) := by decide +kernel
theorem dX3_held_1 : decode cX3_held 1 = .ok (.aload_n 0, 1) := by decide +kernel
theorem dX3_held_2 : decode cX3_held 2 = .ok (.getfield 15, 3) := by decide +kernel
theorem dX3_held_5 : decode cX3_held 5 = .ok (.iload_n 1, 1) := by decide +kernel
theorem dX3_held_6 : decode cX3_held 6 = .ok (.iaload, 1) := by decide +kernel
theorem dX3_held_7 : decode cX3_held 7 = .ok (.if_icmp .ge 7, 3) := by decide +kernel
theorem dX3_held_10 : decode cX3_held 10 = .ok (.iconst 0, 1) := by decide +kernel
theorem dX3_held_11 : decode cX3_held 11 = .ok (.goto 29, 3) := by decide +kernel
theorem dX3_held_14 : decode cX3_held 14 = .ok (.iconst 0, 1) := by decide +kernel
theorem dX3_held_15 : decode cX3_held 15 = .ok (.aload_n 0, 1) := by decide +kernel
theorem dX3_held_16 : decode cX3_held 16 = .ok (.getfield 18, 3) := by decide +kernel
theorem dX3_held_19 : decode cX3_held 19 = .ok (.iload_n 1, 1) := by decide +kernel
theorem dX3_held_20 : decode cX3_held 20 = .ok (.iaload, 1) := by decide +kernel
theorem dX3_held_21 : decode cX3_held 21 = .ok (.aload_n 0, 1) := by decide +kernel
theorem dX3_held_22 : decode cX3_held 22 = .ok (.getfield 21, 3) := by decide +kernel
theorem dX3_held_25 : decode cX3_held 25 = .ok (.iload_n 1, 1) := by decide +kernel
theorem dX3_held_26 : decode cX3_held 26 = .ok (.iaload, 1) := by decide +kernel
theorem dX3_held_27 : decode cX3_held 27 = .ok (.iload_n 2, 1) := by decide +kernel
theorem dX3_held_28 : decode cX3_held 28 = .ok (.aload_n 0, 1) := by decide +kernel
theorem dX3_held_29 : decode cX3_held 29 = .ok (.getfield 15, 3) := by decide +kernel
theorem dX3_held_32 : decode cX3_held 32 = .ok (.iload_n 1, 1) := by decide +kernel
theorem dX3_held_33 : decode cX3_held 33 = .ok (.iaload, 1) := by decide +kernel
theorem dX3_held_34 : decode cX3_held 34 = .ok (.isub, 1) := by decide +kernel
theorem dX3_held_35 : decode cX3_held 35 = .ok (.imul, 1) := by decide +kernel
theorem dX3_held_36 : decode cX3_held 36 = .ok (.isub, 1) := by decide +kernel
theorem dX3_held_37 : decode cX3_held 37 = .ok (.invokestatic 47, 3) := by decide +kernel
theorem dX3_held_40 : decode cX3_held 40 = .ok (.ireturn, 1) := by decide +kernel
theorem dX3_addAround_0 : decode cX3_addAround 0 = .ok (.iload_n 3, 1) := by decide +kernel
theorem dX3_addAround_1 : decode cX3_addAround 1 = .ok (.iconst 1, 1) := by decide +kernel
theorem dX3_addAround_2 : decode cX3_addAround 2 = .ok (.isub, 1) := by decide +kernel
theorem dX3_addAround_3 : decode cX3_addAround 3 = .ok (.iload_n 1, 1) := by decide +kernel
theorem dX3_addAround_4 : decode cX3_addAround 4 = .ok (.iconst 5, 1) := by decide +kernel
theorem dX3_addAround_5 : decode cX3_addAround 5 = .ok (.iadd, 1) := by decide +kernel
theorem dX3_addAround_6 : decode cX3_addAround 6 = .ok (.invokestatic 52, 3) := by decide +kernel
theorem dX3_addAround_9 : decode cX3_addAround 9 = .ok (.istore 4, 2) := by decide +kernel
theorem dX3_addAround_11 : decode cX3_addAround 11 = .ok (.iconst 0, 1) := by decide +kernel
theorem dX3_addAround_12 : decode cX3_addAround 12 = .ok (.iload_n 1, 1) := by decide +kernel
theorem dX3_addAround_13 : decode cX3_addAround 13 = .ok (.iconst 5, 1) := by decide +kernel
theorem dX3_addAround_14 : decode cX3_addAround 14 = .ok (.isub, 1) := by decide +kernel
theorem dX3_addAround_15 : decode cX3_addAround 15 = .ok (.invokestatic 47, 3) := by decide +kernel
theorem dX3_addAround_18 : decode cX3_addAround 18 = .ok (.istore 5, 2) := by decide +kernel
theorem dX3_addAround_20 : decode cX3_addAround 20 = .ok (.iload 5, 2) := by decide +kernel
theorem dX3_addAround_22 : decode cX3_addAround 22 = .ok (.iload 4, 2) := by decide +kernel
theorem dX3_addAround_24 : decode cX3_addAround 24 = .ok (.if_icmp .gt 20, 3) := by decide +kernel
theorem dX3_addAround_27 : decode cX3_addAround 27 = .ok (.aload_n 0, 1) := by decide +kernel
theorem dX3_addAround_28 : decode cX3_addAround 28 = .ok (.getfield 30, 3) := by decide +kernel
theorem dX3_addAround_31 : decode cX3_addAround 31 = .ok (.iload 5, 2) := by decide +kernel
theorem dX3_addAround_33 : decode cX3_addAround 33 = .ok (.dup2, 1) := by decide +kernel
theorem dX3_addAround_34 : decode cX3_addAround 34 = .ok (.iaload, 1) := by decide +kernel
theorem dX3_addAround_35 : decode cX3_addAround 35 = .ok (.iload_n 2, 1) := by decide +kernel
theorem dX3_addAround_36 : decode cX3_addAround 36 = .ok (.iadd, 1) := by decide +kernel
theorem dX3_addAround_37 : decode cX3_addAround 37 = .ok (.iastore, 1) := by decide +kernel
theorem dX3_addAround_38 : decode cX3_addAround 38 = .ok (.iinc 5 1, 3) := by decide +kernel
theorem dX3_addAround_41 : decode cX3_addAround 41 = .ok (.goto (-21), 3) := by decide +kernel
theorem dX3_addAround_44 : decode cX3_addAround 44 = .ok (.return_, 1) := by decide +kernel
theorem dX3_wanting_0 : decode cX3_wanting 0 = .ok (.iconst 0, 1) := by decide +kernel
theorem dX3_wanting_1 : decode cX3_wanting 1 = .ok (.iload_n 3, 1) := by decide +kernel
theorem dX3_wanting_2 : decode cX3_wanting 2 = .ok (.iload_n 2, 1) := by decide +kernel
theorem dX3_wanting_3 : decode cX3_wanting 3 = .ok (.iconst 1, 1) := by decide +kernel
theorem dX3_wanting_4 : decode cX3_wanting 4 = .ok (.isub, 1) := by decide +kernel
theorem dX3_wanting_5 : decode cX3_wanting 5 = .ok (.iload_n 1, 1) := by decide +kernel
theorem dX3_wanting_6 : decode cX3_wanting 6 = .ok (.isub, 1) := by decide +kernel
theorem dX3_wanting_7 : decode cX3_wanting 7 = .ok (.imul, 1) := by decide +kernel
theorem dX3_wanting_8 : decode cX3_wanting 8 = .ok (.aload_n 0, 1) := by decide +kernel
theorem dX3_wanting_9 : decode cX3_wanting 9 = .ok (.getfield 30, 3) := by decide +kernel
theorem dX3_wanting_12 : decode cX3_wanting 12 = .ok (.iload_n 1, 1) := by decide +kernel
theorem dX3_wanting_13 : decode cX3_wanting 13 = .ok (.iaload, 1) := by decide +kernel
theorem dX3_wanting_14 : decode cX3_wanting 14 = .ok (.isub, 1) := by decide +kernel
theorem dX3_wanting_15 : decode cX3_wanting 15 = .ok (.invokestatic 47, 3) := by decide +kernel
theorem dX3_wanting_18 : decode cX3_wanting 18 = .ok (.ireturn, 1) := by decide +kernel
theorem dX3_weakOnes_0 : decode cX3_weakOnes 0 = .ok (.iconst 0, 1) := by decide +kernel
theorem dX3_weakOnes_1 : decode cX3_weakOnes 1 = .ok (.istore_n 3, 1) := by decide +kernel
theorem dX3_weakOnes_2 : decode cX3_weakOnes 2 = .ok (.iconst 0, 1) := by decide +kernel
theorem dX3_weakOnes_3 : decode cX3_weakOnes 3 = .ok (.istore 4, 2) := by decide +kernel
theorem dX3_weakOnes_5 : decode cX3_weakOnes 5 = .ok (.iload 4, 2) := by decide +kernel
theorem dX3_weakOnes_7 : decode cX3_weakOnes 7 = .ok (.iload_n 1, 1) := by decide +kernel
theorem dX3_weakOnes_8 : decode cX3_weakOnes 8 = .ok (.if_icmp .ge 23, 3) := by decide +kernel
theorem dX3_weakOnes_11 : decode cX3_weakOnes 11 = .ok (.aload_n 0, 1) := by decide +kernel
theorem dX3_weakOnes_12 : decode cX3_weakOnes 12 = .ok (.iload 4, 2) := by decide +kernel
theorem dX3_weakOnes_14 : decode cX3_weakOnes 14 = .ok (.iload_n 1, 1) := by decide +kernel
theorem dX3_weakOnes_15 : decode cX3_weakOnes 15 = .ok (.iload_n 2, 1) := by decide +kernel
theorem dX3_weakOnes_16 : decode cX3_weakOnes 16 = .ok (.invokevirtual 55, 3) := by decide +kernel
theorem dX3_weakOnes_19 : decode cX3_weakOnes 19 = .ok (.ifCond .le 6, 3) := by decide +kernel
theorem dX3_weakOnes_22 : decode cX3_weakOnes 22 = .ok (.iinc 3 1, 3) := by decide +kernel
theorem dX3_weakOnes_25 : decode cX3_weakOnes 25 = .ok (.iinc 4 1, 3) := by decide +kernel
theorem dX3_weakOnes_28 : decode cX3_weakOnes 28 = .ok (.goto (-23), 3) := by decide +kernel
theorem dX3_weakOnes_31 : decode cX3_weakOnes 31 = .ok (.iload_n 3, 1) := by decide +kernel
theorem dX3_weakOnes_32 : decode cX3_weakOnes 32 = .ok (.ireturn, 1) := by decide +kernel
theorem dX3_leastWeak_0 : decode cX3_leastWeak 0 = .ok (.iconst 0, 1) := by decide +kernel
theorem dX3_leastWeak_1 : decode cX3_leastWeak 1 = .ok (.istore_n 3, 1) := by decide +kernel
theorem dX3_leastWeak_2 : decode cX3_leastWeak 2 = .ok (.iload_n 3, 1) := by decide +kernel
theorem dX3_leastWeak_3 : decode cX3_leastWeak 3 = .ok (.iload_n 1, 1) := by decide +kernel
theorem dX3_leastWeak_4 : decode cX3_leastWeak 4 = .ok (.if_icmp .ge 21, 3) := by decide +kernel
theorem dX3_leastWeak_7 : decode cX3_leastWeak 7 = .ok (.aload_n 0, 1) := by decide +kernel
theorem dX3_leastWeak_8 : decode cX3_leastWeak 8 = .ok (.iload_n 3, 1) := by decide +kernel
theorem dX3_leastWeak_9 : decode cX3_leastWeak 9 = .ok (.iload_n 1, 1) := by decide +kernel
theorem dX3_leastWeak_10 : decode cX3_leastWeak 10 = .ok (.iload_n 2, 1) := by decide +kernel
theorem dX3_leastWeak_11 : decode cX3_leastWeak 11 = .ok (.invokevirtual 55, 3) := by decide +kernel
theorem dX3_leastWeak_14 : decode cX3_leastWeak 14 = .ok (.ifCond .le 5, 3) := by decide +kernel
theorem dX3_leastWeak_17 : decode cX3_leastWeak 17 = .ok (.iload_n 3, 1) := by decide +kernel
theorem dX3_leastWeak_18 : decode cX3_leastWeak 18 = .ok (.ireturn, 1) := by decide +kernel
theorem dX3_leastWeak_19 : decode cX3_leastWeak 19 = .ok (.iinc 3 1, 3) := by decide +kernel
theorem dX3_leastWeak_22 : decode cX3_leastWeak 22 = .ok (.goto (-20), 3) := by decide +kernel
theorem dX3_leastWeak_25 : decode cX3_leastWeak 25 = .ok (.iconst (-1), 1) := by decide +kernel
theorem dX3_leastWeak_26 : decode cX3_leastWeak 26 = .ok (.ireturn, 1) := by decide +kernel
theorem dX3_mostWanting_0 : decode cX3_mostWanting 0 = .ok (.iconst 0, 1) := by decide +kernel
theorem dX3_mostWanting_1 : decode cX3_mostWanting 1 = .ok (.istore_n 3, 1) := by decide +kernel
theorem dX3_mostWanting_2 : decode cX3_mostWanting 2 = .ok (.iconst 0, 1) := by decide +kernel
theorem dX3_mostWanting_3 : decode cX3_mostWanting 3 = .ok (.istore 4, 2) := by decide +kernel
theorem dX3_mostWanting_5 : decode cX3_mostWanting 5 = .ok (.iload 4, 2) := by decide +kernel
theorem dX3_mostWanting_7 : decode cX3_mostWanting 7 = .ok (.iload_n 1, 1) := by decide +kernel
theorem dX3_mostWanting_8 : decode cX3_mostWanting 8 = .ok (.if_icmp .ge 22, 3) := by decide +kernel
theorem dX3_mostWanting_11 : decode cX3_mostWanting 11 = .ok (.iload_n 3, 1) := by decide +kernel
theorem dX3_mostWanting_12 : decode cX3_mostWanting 12 = .ok (.aload_n 0, 1) := by decide +kernel
theorem dX3_mostWanting_13 : decode cX3_mostWanting 13 = .ok (.iload 4, 2) := by decide +kernel
theorem dX3_mostWanting_15 : decode cX3_mostWanting 15 = .ok (.iload_n 1, 1) := by decide +kernel
theorem dX3_mostWanting_16 : decode cX3_mostWanting 16 = .ok (.iload_n 2, 1) := by decide +kernel
theorem dX3_mostWanting_17 : decode cX3_mostWanting 17 = .ok (.invokevirtual 55, 3) := by decide +kernel
theorem dX3_mostWanting_20 : decode cX3_mostWanting 20 = .ok (.invokestatic 47, 3) := by decide +kernel
theorem dX3_mostWanting_23 : decode cX3_mostWanting 23 = .ok (.istore_n 3, 1) := by decide +kernel
theorem dX3_mostWanting_24 : decode cX3_mostWanting 24 = .ok (.iinc 4 1, 3) := by decide +kernel
theorem dX3_mostWanting_27 : decode cX3_mostWanting 27 = .ok (.goto (-22), 3) := by decide +kernel
theorem dX3_mostWanting_30 : decode cX3_mostWanting 30 = .ok (.iload_n 3, 1) := by decide +kernel
theorem dX3_mostWanting_31 : decode cX3_mostWanting 31 = .ok (.ireturn, 1) := by decide +kernel
theorem dX3_fewestNew_0 : decode cX3_fewestNew 0 = .ok (.iconst 0, 1) := by decide +kernel
theorem dX3_fewestNew_1 : decode cX3_fewestNew 1 = .ok (.istore 4, 2) := by decide +kernel
theorem dX3_fewestNew_3 : decode cX3_fewestNew 3 = .ok (.iload_n 3, 1) := by decide +kernel
theorem dX3_fewestNew_4 : decode cX3_fewestNew 4 = .ok (.ifCond .gt 6, 3) := by decide +kernel
theorem dX3_fewestNew_7 : decode cX3_fewestNew 7 = .ok (.iload 4, 2) := by decide +kernel
theorem dX3_fewestNew_9 : decode cX3_fewestNew 9 = .ok (.ireturn, 1) := by decide +kernel
theorem dX3_fewestNew_10 : decode cX3_fewestNew 10 = .ok (.iconst 0, 1) := by decide +kernel
theorem dX3_fewestNew_11 : decode cX3_fewestNew 11 = .ok (.istore 5, 2) := by decide +kernel
theorem dX3_fewestNew_13 : decode cX3_fewestNew 13 = .ok (.iload 5, 2) := by decide +kernel
theorem dX3_fewestNew_15 : decode cX3_fewestNew 15 = .ok (.iload_n 1, 1) := by decide +kernel
theorem dX3_fewestNew_16 : decode cX3_fewestNew 16 = .ok (.if_icmp .ge 56, 3) := by decide +kernel
theorem dX3_fewestNew_19 : decode cX3_fewestNew 19 = .ok (.aload_n 0, 1) := by decide +kernel
theorem dX3_fewestNew_20 : decode cX3_fewestNew 20 = .ok (.iload 5, 2) := by decide +kernel
theorem dX3_fewestNew_22 : decode cX3_fewestNew 22 = .ok (.iload_n 1, 1) := by decide +kernel
theorem dX3_fewestNew_23 : decode cX3_fewestNew 23 = .ok (.iload_n 2, 1) := by decide +kernel
theorem dX3_fewestNew_24 : decode cX3_fewestNew 24 = .ok (.invokevirtual 55, 3) := by decide +kernel
theorem dX3_fewestNew_27 : decode cX3_fewestNew 27 = .ok (.iload_n 3, 1) := by decide +kernel
theorem dX3_fewestNew_28 : decode cX3_fewestNew 28 = .ok (.iadd, 1) := by decide +kernel
theorem dX3_fewestNew_29 : decode cX3_fewestNew 29 = .ok (.iconst 1, 1) := by decide +kernel
theorem dX3_fewestNew_30 : decode cX3_fewestNew 30 = .ok (.isub, 1) := by decide +kernel
theorem dX3_fewestNew_31 : decode cX3_fewestNew 31 = .ok (.iload_n 3, 1) := by decide +kernel
theorem dX3_fewestNew_32 : decode cX3_fewestNew 32 = .ok (.idiv, 1) := by decide +kernel
theorem dX3_fewestNew_33 : decode cX3_fewestNew 33 = .ok (.istore 6, 2) := by decide +kernel
theorem dX3_fewestNew_35 : decode cX3_fewestNew 35 = .ok (.iload 6, 2) := by decide +kernel
theorem dX3_fewestNew_37 : decode cX3_fewestNew 37 = .ok (.ifCond .le 29, 3) := by decide +kernel
theorem dX3_fewestNew_40 : decode cX3_fewestNew 40 = .ok (.aload_n 0, 1) := by decide +kernel
theorem dX3_fewestNew_41 : decode cX3_fewestNew 41 = .ok (.iload_n 1, 1) := by decide +kernel
theorem dX3_fewestNew_42 : decode cX3_fewestNew 42 = .ok (.iconst 1, 1) := by decide +kernel
theorem dX3_fewestNew_43 : decode cX3_fewestNew 43 = .ok (.isub, 1) := by decide +kernel
theorem dX3_fewestNew_44 : decode cX3_fewestNew 44 = .ok (.iload 5, 2) := by decide +kernel
theorem dX3_fewestNew_46 : decode cX3_fewestNew 46 = .ok (.iconst 5, 1) := by decide +kernel
theorem dX3_fewestNew_47 : decode cX3_fewestNew 47 = .ok (.iadd, 1) := by decide +kernel
theorem dX3_fewestNew_48 : decode cX3_fewestNew 48 = .ok (.invokestatic 52, 3) := by decide +kernel
theorem dX3_fewestNew_51 : decode cX3_fewestNew 51 = .ok (.iload 6, 2) := by decide +kernel
theorem dX3_fewestNew_53 : decode cX3_fewestNew 53 = .ok (.iload_n 3, 1) := by decide +kernel
theorem dX3_fewestNew_54 : decode cX3_fewestNew 54 = .ok (.imul, 1) := by decide +kernel
theorem dX3_fewestNew_55 : decode cX3_fewestNew 55 = .ok (.iload_n 1, 1) := by decide +kernel
theorem dX3_fewestNew_56 : decode cX3_fewestNew 56 = .ok (.invokevirtual 43, 3) := by decide +kernel
theorem dX3_fewestNew_59 : decode cX3_fewestNew 59 = .ok (.iload 4, 2) := by decide +kernel
theorem dX3_fewestNew_61 : decode cX3_fewestNew 61 = .ok (.iload 6, 2) := by decide +kernel
theorem dX3_fewestNew_63 : decode cX3_fewestNew 63 = .ok (.iadd, 1) := by decide +kernel
theorem dX3_fewestNew_64 : decode cX3_fewestNew 64 = .ok (.istore 4, 2) := by decide +kernel
theorem dX3_fewestNew_66 : decode cX3_fewestNew 66 = .ok (.iinc 5 1, 3) := by decide +kernel
theorem dX3_fewestNew_69 : decode cX3_fewestNew 69 = .ok (.goto (-56), 3) := by decide +kernel
theorem dX3_fewestNew_72 : decode cX3_fewestNew 72 = .ok (.iload 4, 2) := by decide +kernel
theorem dX3_fewestNew_74 : decode cX3_fewestNew 74 = .ok (.ireturn, 1) := by decide +kernel
theorem dX4_init_0 : decode cX4_init 0 = .ok (.aload_n 0, 1) := by decide +kernel
theorem dX4_init_1 : decode cX4_init 1 = .ok (.invokespecial 5, 3) := by decide +kernel
theorem dX4_init_4 : decode cX4_init 4 = .ok (.aload_n 0, 1) := by decide +kernel
theorem dX4_init_5 : decode cX4_init 5 = .ok (.bipush 12, 2) := by decide +kernel
theorem dX4_init_7 : decode cX4_init 7 = .ok (.newarray .int, 2) := by decide +kernel
theorem dX4_init_9 : decode cX4_init 9 = .ok (.putfield 11, 3) := by decide +kernel
theorem dX4_init_12 : decode cX4_init 12 = .ok (.aload_n 0, 1) := by decide +kernel
theorem dX4_init_13 : decode cX4_init 13 = .ok (.bipush 12, 2) := by decide +kernel
theorem dX4_init_15 : decode cX4_init 15 = .ok (.newarray .int, 2) := by decide +kernel
theorem dX4_init_17 : decode cX4_init 17 = .ok (.putfield 15, 3) := by decide +kernel
theorem dX4_init_20 : decode cX4_init 20 = .ok (.aload_n 0, 1) := by decide +kernel
theorem dX4_init_21 : decode cX4_init 21 = .ok (.bipush 9, 2) := by decide +kernel
theorem dX4_init_23 : decode cX4_init 23 = .ok (.newarray .int, 2) := by decide +kernel
theorem dX4_init_25 : decode cX4_init 25 = .ok (.putfield 18, 3) := by decide +kernel
theorem dX4_init_28 : decode cX4_init 28 = .ok (.aload_n 0, 1) := by decide +kernel
theorem dX4_init_29 : decode cX4_init 29 = .ok (.iconst 0, 1) := by decide +kernel
theorem dX4_init_30 : decode cX4_init 30 = .ok (.putfield 21, 3) := by decide +kernel
theorem dX4_init_33 : decode cX4_init 33 = .ok (.aload_n 0, 1) := by decide +kernel
theorem dX4_init_34 : decode cX4_init 34 = .ok (.bipush 9, 2) := by decide +kernel
theorem dX4_init_36 : decode cX4_init 36 = .ok (.newarray .int, 2) := by decide +kernel
theorem dX4_init_38 : decode cX4_init 38 = .ok (.putfield 25, 3) := by decide +kernel
theorem dX4_init_41 : decode cX4_init 41 = .ok (.aload_n 0, 1) := by decide +kernel
theorem dX4_init_42 : decode cX4_init 42 = .ok (.iconst 0, 1) := by decide +kernel
theorem dX4_init_43 : decode cX4_init 43 = .ok (.putfield 28, 3) := by decide +kernel
theorem dX4_init_46 : decode cX4_init 46 = .ok (.aload_n 0, 1) := by decide +kernel
theorem dX4_init_47 : decode cX4_init 47 = .ok (.sipush 4608, 3) := by decide +kernel
theorem dX4_init_50 : decode cX4_init 50 = .ok (.newarray .int, 2) := by decide +kernel
theorem dX4_init_52 : decode cX4_init 52 = .ok (.putfield 31, 3) := by decide +kernel
theorem dX4_init_55 : decode cX4_init 55 = .ok (.aload_n 0, 1) := by decide +kernel
theorem dX4_init_56 : decode cX4_init 56 = .ok (.sipush 512, 3) := by decide +kernel
theorem dX4_init_59 : decode cX4_init 59 = .ok (.newarray .int, 2) := by decide +kernel
theorem dX4_init_61 : decode cX4_init 61 = .ok (.putfield 34, 3) := by decide +kernel
theorem dX4_init_64 : decode cX4_init 64 = .ok (.aload_n 0, 1) := by decide +kernel
theorem dX4_init_65 : decode cX4_init 65 = .ok (.invokevirtual 37, 3) := by decide +kernel
theorem dX4_init_68 : decode cX4_init 68 = .ok (.return_, 1) := by decide +kernel
theorem dX4_clear_0 : decode cX4_clear 0 = .ok (.aload_n 0, 1) := by decide +kernel
theorem dX4_clear_1 : decode cX4_clear 1 = .ok (.getfield 11, 3) := by decide +kernel
theorem dX4_clear_4 : decode cX4_clear 4 = .ok (.iconst 0, 1) := by decide +kernel
theorem dX4_clear_5 : decode cX4_clear 5 = .ok (.invokestatic 40, 3) := by decide +kernel
theorem dX4_clear_8 : decode cX4_clear 8 = .ok (.aload_n 0, 1) := by decide +kernel
theorem dX4_clear_9 : decode cX4_clear 9 = .ok (.getfield 15, 3) := by decide +kernel
theorem dX4_clear_12 : decode cX4_clear 12 = .ok (.iconst 1, 1) := by decide +kernel
theorem dX4_clear_13 : decode cX4_clear 13 = .ok (.invokestatic 40, 3) := by decide +kernel
theorem dX4_clear_16 : decode cX4_clear 16 = .ok (.aload_n 0, 1) := by decide +kernel
theorem dX4_clear_17 : decode cX4_clear 17 = .ok (.iconst 0, 1) := by decide +kernel
theorem dX4_clear_18 : decode cX4_clear 18 = .ok (.putfield 21, 3) := by decide +kernel
theorem dX4_clear_21 : decode cX4_clear 21 = .ok (.return_, 1) := by decide +kernel
theorem dX4_make_0 : decode cX4_make 0 = .ok (.aload_n 0, 1) := by decide +kernel
theorem dX4_make_1 : decode cX4_make 1 = .ok (.iload_n 2, 1) := by decide +kernel
theorem dX4_make_2 : decode cX4_make 2 = .ok (.invokevirtual 46, 3) := by decide +kernel
theorem dX4_make_5 : decode cX4_make 5 = .ok (.iconst 1, 1) := by decide +kernel
theorem dX4_make_6 : decode cX4_make 6 = .ok (.aload_n 0, 1) := by decide +kernel
theorem dX4_make_7 : decode cX4_make 7 = .ok (.getfield 28, 3) := by decide +kernel
theorem dX4_make_10 : decode cX4_make 10 = .ok (.ishl, 1) := by decide +kernel
theorem dX4_make_11 : decode cX4_make 11 = .ok (.iconst 1, 1) := by decide +kernel
theorem dX4_make_12 : decode cX4_make 12 = .ok (.isub, 1) := by decide +kernel
theorem dX4_make_13 : decode cX4_make 13 = .ok (.istore_n 3, 1) := by decide +kernel
theorem dX4_make_14 : decode cX4_make 14 = .ok (.iload_n 3, 1) := by decide +kernel
theorem dX4_make_15 : decode cX4_make 15 = .ok (.istore 4, 2) := by decide +kernel
theorem dX4_make_17 : decode cX4_make 17 = .ok (.iload 4, 2) := by decide +kernel
theorem dX4_make_19 : decode cX4_make 19 = .ok (.ifCond .le 82, 3) := by decide +kernel
theorem dX4_make_22 : decode cX4_make 22 = .ok (.aload_n 0, 1) := by decide +kernel
theorem dX4_make_23 : decode cX4_make 23 = .ok (.getfield 34, 3) := by decide +kernel
theorem dX4_make_26 : decode cX4_make 26 = .ok (.iload 4, 2) := by decide +kernel
theorem dX4_make_28 : decode cX4_make 28 = .ok (.aload_n 0, 1) := by decide +kernel
theorem dX4_make_29 : decode cX4_make 29 = .ok (.iload 4, 2) := by decide +kernel
theorem dX4_make_31 : decode cX4_make 31 = .ok (.invokevirtual 50, 3) := by decide +kernel
theorem dX4_make_34 : decode cX4_make 34 = .ok (.iastore, 1) := by decide +kernel
theorem dX4_make_35 : decode cX4_make 35 = .ok (.iconst 0, 1) := by decide +kernel
theorem dX4_make_36 : decode cX4_make 36 = .ok (.istore 5, 2) := by decide +kernel
theorem dX4_make_38 : decode cX4_make 38 = .ok (.iload 5, 2) := by decide +kernel
theorem dX4_make_40 : decode cX4_make 40 = .ok (.aload_n 0, 1) := by decide +kernel
theorem dX4_make_41 : decode cX4_make 41 = .ok (.getfield 28, 3) := by decide +kernel
theorem dX4_make_44 : decode cX4_make 44 = .ok (.if_icmp .ge 51, 3) := by decide +kernel
theorem dX4_make_47 : decode cX4_make 47 = .ok (.iload 4, 2) := by decide +kernel
theorem dX4_make_49 : decode cX4_make 49 = .ok (.iload 5, 2) := by decide +kernel
theorem dX4_make_51 : decode cX4_make 51 = .ok (.ishr, 1) := by decide +kernel
theorem dX4_make_52 : decode cX4_make 52 = .ok (.iconst 1, 1) := by decide +kernel
theorem dX4_make_53 : decode cX4_make 53 = .ok (.iand, 1) := by decide +kernel
theorem dX4_make_54 : decode cX4_make 54 = .ok (.ifCond .eq 35, 3) := by decide +kernel
theorem dX4_make_57 : decode cX4_make 57 = .ok (.aload_n 0, 1) := by decide +kernel
theorem dX4_make_58 : decode cX4_make 58 = .ok (.getfield 31, 3) := by decide +kernel
theorem dX4_make_61 : decode cX4_make 61 = .ok (.iload 4, 2) := by decide +kernel
theorem dX4_make_63 : decode cX4_make 63 = .ok (.bipush 9, 2) := by decide +kernel
theorem dX4_make_65 : decode cX4_make 65 = .ok (.imul, 1) := by decide +kernel
theorem dX4_make_66 : decode cX4_make 66 = .ok (.iload 5, 2) := by decide +kernel
theorem dX4_make_68 : decode cX4_make 68 = .ok (.iadd, 1) := by decide +kernel
theorem dX4_make_69 : decode cX4_make 69 = .ok (.iload 4, 2) := by decide +kernel
theorem dX4_make_71 : decode cX4_make 71 = .ok (.iload_n 3, 1) := by decide +kernel
theorem dX4_make_72 : decode cX4_make 72 = .ok (.if_icmp .ne 7, 3) := by decide +kernel
theorem dX4_make_75 : decode cX4_make 75 = .ok (.iconst 0, 1) := by decide +kernel
theorem dX4_make_76 : decode cX4_make 76 = .ok (.goto 12, 3) := by decide +kernel
theorem dX4_make_79 : decode cX4_make 79 = .ok (.aload_n 0, 1) := by decide +kernel
theorem dX4_make_80 : decode cX4_make 80 = .ok (.aload_n 1, 1) := by decide +kernel
theorem dX4_make_81 : decode cX4_make 81 = .ok (.iload 4, 2) := by decide +kernel
theorem dX4_make_83 : decode cX4_make 83 = .ok (.iload 5, 2) := by decide +kernel
theorem dX4_make_85 : decode cX4_make 85 = .ok (.invokevirtual 54, 3) := by decide +kernel
theorem dX4_make_88 : decode cX4_make 88 = .ok (.iastore, 1) := by decide +kernel
theorem dX4_make_89 : decode cX4_make 89 = .ok (.iinc 5 1, 3) := by decide +kernel
theorem dX4_make_92 : decode cX4_make 92 = .ok (.goto (-54), 3) := by decide +kernel
theorem dX4_make_95 : decode cX4_make 95 = .ok (.iinc 4 (-1), 3) := by decide +kernel
theorem dX4_make_98 : decode cX4_make 98 = .ok (.goto (-81), 3) := by decide +kernel
theorem dX4_make_101 : decode cX4_make 101 = .ok (.aload_n 0, 1) := by decide +kernel
theorem dX4_make_102 : decode cX4_make 102 = .ok (.getfield 34, 3) := by decide +kernel
theorem dX4_make_105 : decode cX4_make 105 = .ok (.iconst 0, 1) := by decide +kernel
theorem dX4_make_106 : decode cX4_make 106 = .ok (.aload_n 0, 1) := by decide +kernel
theorem dX4_make_107 : decode cX4_make 107 = .ok (.iconst 0, 1) := by decide +kernel
theorem dX4_make_108 : decode cX4_make 108 = .ok (.invokevirtual 50, 3) := by decide +kernel
theorem dX4_make_111 : decode cX4_make 111 = .ok (.iastore, 1) := by decide +kernel
theorem dX4_make_112 : decode cX4_make 112 = .ok (.aload_n 0, 1) := by decide +kernel
theorem dX4_make_113 : decode cX4_make 113 = .ok (.aload_n 1, 1) := by decide +kernel
theorem dX4_make_114 : decode cX4_make 114 = .ok (.iconst 0, 1) := by decide +kernel
theorem dX4_make_115 : decode cX4_make 115 = .ok (.iconst (-1), 1) := by decide +kernel
theorem dX4_make_116 : decode cX4_make 116 = .ok (.invokevirtual 54, 3) := by decide +kernel
theorem dX4_make_119 : decode cX4_make 119 = .ok (.istore 4, 2) := by decide +kernel
theorem dX4_make_121 : decode cX4_make 121 = .ok (.aload_n 0, 1) := by decide +kernel
theorem dX4_make_122 : decode cX4_make 122 = .ok (.aload_n 1, 1) := by decide +kernel
theorem dX4_make_123 : decode cX4_make 123 = .ok (.invokevirtual 58, 3) := by decide +kernel
theorem dX4_make_126 : decode cX4_make 126 = .ok (.iload 4, 2) := by decide +kernel
theorem dX4_make_128 : decode cX4_make 128 = .ok (.ireturn, 1) := by decide +kernel
theorem dX4_listAsked_0 : decode cX4_listAsked 0 = .ok (.aload_n 0, 1) := by decide +kernel
theorem dX4_listAsked_1 : decode cX4_listAsked 1 = .ok (.iconst 0, 1) := by decide +kernel
theorem dX4_listAsked_2 : decode cX4_listAsked 2 = .ok (.putfield 28, 3) := by decide +kernel
theorem dX4_listAsked_5 : decode cX4_listAsked 5 = .ok (.iconst 0, 1) := by decide +kernel
theorem dX4_listAsked_6 : decode cX4_listAsked 6 = .ok (.istore_n 2, 1) := by decide +kernel
theorem dX4_listAsked_7 : decode cX4_listAsked 7 = .ok (.iload_n 2, 1) := by decide +kernel
theorem dX4_listAsked_8 : decode cX4_listAsked 8 = .ok (.bipush 12, 2) := by decide +kernel
theorem dX4_listAsked_10 : decode cX4_listAsked 10 = .ok (.if_icmp .ge 46, 3) := by decide +kernel
theorem dX4_listAsked_13 : decode cX4_listAsked 13 = .ok (.aload_n 0, 1) := by decide +kernel
theorem dX4_listAsked_14 : decode cX4_listAsked 14 = .ok (.getfield 28, 3) := by decide +kernel
theorem dX4_listAsked_17 : decode cX4_listAsked 17 = .ok (.bipush 9, 2) := by decide +kernel
theorem dX4_listAsked_19 : decode cX4_listAsked 19 = .ok (.if_icmp .ge 37, 3) := by decide +kernel
theorem dX4_listAsked_22 : decode cX4_listAsked 22 = .ok (.iload_n 1, 1) := by decide +kernel
theorem dX4_listAsked_23 : decode cX4_listAsked 23 = .ok (.iload_n 2, 1) := by decide +kernel
theorem dX4_listAsked_24 : decode cX4_listAsked 24 = .ok (.ishr, 1) := by decide +kernel
theorem dX4_listAsked_25 : decode cX4_listAsked 25 = .ok (.iconst 1, 1) := by decide +kernel
theorem dX4_listAsked_26 : decode cX4_listAsked 26 = .ok (.iand, 1) := by decide +kernel
theorem dX4_listAsked_27 : decode cX4_listAsked 27 = .ok (.ifCond .eq 23, 3) := by decide +kernel
theorem dX4_listAsked_30 : decode cX4_listAsked 30 = .ok (.aload_n 0, 1) := by decide +kernel
theorem dX4_listAsked_31 : decode cX4_listAsked 31 = .ok (.getfield 25, 3) := by decide +kernel
theorem dX4_listAsked_34 : decode cX4_listAsked 34 = .ok (.aload_n 0, 1) := by decide +kernel
theorem dX4_listAsked_35 : decode cX4_listAsked 35 = .ok (.getfield 28, 3) := by decide +kernel
theorem dX4_listAsked_38 : decode cX4_listAsked 38 = .ok (.iload_n 2, 1) := by decide +kernel
theorem dX4_listAsked_39 : decode cX4_listAsked 39 = .ok (.iastore, 1) := by decide +kernel
theorem dX4_listAsked_40 : decode cX4_listAsked 40 = .ok (.aload_n 0, 1) := by decide +kernel
theorem dX4_listAsked_41 : decode cX4_listAsked 41 = .ok (.dup, 1) := by decide +kernel
theorem dX4_listAsked_42 : decode cX4_listAsked 42 = .ok (.getfield 28, 3) := by decide +kernel
theorem dX4_listAsked_45 : decode cX4_listAsked 45 = .ok (.iconst 1, 1) := by decide +kernel
theorem dX4_listAsked_46 : decode cX4_listAsked 46 = .ok (.iadd, 1) := by decide +kernel
theorem dX4_listAsked_47 : decode cX4_listAsked 47 = .ok (.putfield 28, 3) := by decide +kernel
theorem dX4_listAsked_50 : decode cX4_listAsked 50 = .ok (.iinc 2 1, 3) := by decide +kernel
theorem dX4_listAsked_53 : decode cX4_listAsked 53 = .ok (.goto (-46), 3) := by decide +kernel
theorem dX4_listAsked_56 : decode cX4_listAsked 56 = .ok (.return_, 1) := by decide +kernel
theorem dX4_riskWithout_0 : decode cX4_riskWithout 0 = .ok (.iconst 0, 1) := by decide +kernel
theorem dX4_riskWithout_1 : decode cX4_riskWithout 1 = .ok (.istore_n 2, 1) := by decide +kernel
theorem dX4_riskWithout_2 : decode cX4_riskWithout 2 = .ok (.iconst 0, 1) := by decide +kernel
theorem dX4_riskWithout_3 : decode cX4_riskWithout 3 = .ok (.istore_n 3, 1) := by decide +kernel
theorem dX4_riskWithout_4 : decode cX4_riskWithout 4 = .ok (.iload_n 3, 1) := by decide +kernel
theorem dX4_riskWithout_5 : decode cX4_riskWithout 5 = .ok (.aload_n 0, 1) := by decide +kernel
theorem dX4_riskWithout_6 : decode cX4_riskWithout 6 = .ok (.getfield 28, 3) := by decide +kernel
theorem dX4_riskWithout_9 : decode cX4_riskWithout 9 = .ok (.if_icmp .ge 31, 3) := by decide +kernel
theorem dX4_riskWithout_12 : decode cX4_riskWithout 12 = .ok (.iload_n 1, 1) := by decide +kernel
theorem dX4_riskWithout_13 : decode cX4_riskWithout 13 = .ok (.iload_n 3, 1) := by decide +kernel
theorem dX4_riskWithout_14 : decode cX4_riskWithout 14 = .ok (.ishr, 1) := by decide +kernel
theorem dX4_riskWithout_15 : decode cX4_riskWithout 15 = .ok (.iconst 1, 1) := by decide +kernel
theorem dX4_riskWithout_16 : decode cX4_riskWithout 16 = .ok (.iand, 1) := by decide +kernel
theorem dX4_riskWithout_17 : decode cX4_riskWithout 17 = .ok (.ifCond .ne 17, 3) := by decide +kernel
theorem dX4_riskWithout_20 : decode cX4_riskWithout 20 = .ok (.iload_n 2, 1) := by decide +kernel
theorem dX4_riskWithout_21 : decode cX4_riskWithout 21 = .ok (.aload_n 0, 1) := by decide +kernel
theorem dX4_riskWithout_22 : decode cX4_riskWithout 22 = .ok (.getfield 11, 3) := by decide +kernel
theorem dX4_riskWithout_25 : decode cX4_riskWithout 25 = .ok (.aload_n 0, 1) := by decide +kernel
theorem dX4_riskWithout_26 : decode cX4_riskWithout 26 = .ok (.getfield 25, 3) := by decide +kernel
theorem dX4_riskWithout_29 : decode cX4_riskWithout 29 = .ok (.iload_n 3, 1) := by decide +kernel
theorem dX4_riskWithout_30 : decode cX4_riskWithout 30 = .ok (.iaload, 1) := by decide +kernel
theorem dX4_riskWithout_31 : decode cX4_riskWithout 31 = .ok (.iaload, 1) := by decide +kernel
theorem dX4_riskWithout_32 : decode cX4_riskWithout 32 = .ok (.iadd, 1) := by decide +kernel
theorem dX4_riskWithout_33 : decode cX4_riskWithout 33 = .ok (.istore_n 2, 1) := by decide +kernel
theorem dX4_riskWithout_34 : decode cX4_riskWithout 34 = .ok (.iinc 3 1, 3) := by decide +kernel
theorem dX4_riskWithout_37 : decode cX4_riskWithout 37 = .ok (.goto (-33), 3) := by decide +kernel
theorem dX4_riskWithout_40 : decode cX4_riskWithout 40 = .ok (.iload_n 2, 1) := by decide +kernel
theorem dX4_riskWithout_41 : decode cX4_riskWithout 41 = .ok (.ireturn, 1) := by decide +kernel
theorem dX4_costOf_0 : decode cX4_costOf 0 = .ok (.iload_n 3, 1) := by decide +kernel
theorem dX4_costOf_1 : decode cX4_costOf 1 = .ok (.iconst (-1), 1) := by decide +kernel
theorem dX4_costOf_2 : decode cX4_costOf 2 = .ok (.if_icmp .ne 7, 3) := by decide +kernel
theorem dX4_costOf_5 : decode cX4_costOf 5 = .ok (.iconst 0, 1) := by decide +kernel
theorem dX4_costOf_6 : decode cX4_costOf 6 = .ok (.goto 20, 3) := by decide +kernel
theorem dX4_costOf_9 : decode cX4_costOf 9 = .ok (.aload_n 1, 1) := by decide +kernel
theorem dX4_costOf_10 : decode cX4_costOf 10 = .ok (.aload_n 0, 1) := by decide +kernel
theorem dX4_costOf_11 : decode cX4_costOf 11 = .ok (.getfield 25, 3) := by decide +kernel
theorem dX4_costOf_14 : decode cX4_costOf 14 = .ok (.iload_n 3, 1) := by decide +kernel
theorem dX4_costOf_15 : decode cX4_costOf 15 = .ok (.iaload, 1) := by decide +kernel
theorem dX4_costOf_16 : decode cX4_costOf 16 = .ok (.aload_n 0, 1) := by decide +kernel
theorem dX4_costOf_17 : decode cX4_costOf 17 = .ok (.getfield 25, 3) := by decide +kernel
theorem dX4_costOf_20 : decode cX4_costOf 20 = .ok (.iload 4, 2) := by decide +kernel
theorem dX4_costOf_22 : decode cX4_costOf 22 = .ok (.iaload, 1) := by decide +kernel
theorem dX4_costOf_23 : decode cX4_costOf 23 = .ok (.invokevirtual 62, 3) := by decide +kernel
theorem dX4_costOf_26 : decode cX4_costOf 26 = .ok (.istore 5, 2) := by decide +kernel
theorem dX4_costOf_28 : decode cX4_costOf 28 = .ok (.iload 5, 2) := by decide +kernel
theorem dX4_costOf_30 : decode cX4_costOf 30 = .ok (.aload_n 0, 1) := by decide +kernel
theorem dX4_costOf_31 : decode cX4_costOf 31 = .ok (.getfield 15, 3) := by decide +kernel
theorem dX4_costOf_34 : decode cX4_costOf 34 = .ok (.aload_n 0, 1) := by decide +kernel
theorem dX4_costOf_35 : decode cX4_costOf 35 = .ok (.getfield 25, 3) := by decide +kernel
theorem dX4_costOf_38 : decode cX4_costOf 38 = .ok (.iload 4, 2) := by decide +kernel
theorem dX4_costOf_40 : decode cX4_costOf 40 = .ok (.iaload, 1) := by decide +kernel
theorem dX4_costOf_41 : decode cX4_costOf 41 = .ok (.iaload, 1) := by decide +kernel
theorem dX4_costOf_42 : decode cX4_costOf 42 = .ok (.iadd, 1) := by decide +kernel
theorem dX4_costOf_43 : decode cX4_costOf 43 = .ok (.aload_n 0, 1) := by decide +kernel
theorem dX4_costOf_44 : decode cX4_costOf 44 = .ok (.getfield 34, 3) := by decide +kernel
theorem dX4_costOf_47 : decode cX4_costOf 47 = .ok (.iload_n 2, 1) := by decide +kernel
theorem dX4_costOf_48 : decode cX4_costOf 48 = .ok (.iaload, 1) := by decide +kernel
theorem dX4_costOf_49 : decode cX4_costOf 49 = .ok (.imul, 1) := by decide +kernel
theorem dX4_costOf_50 : decode cX4_costOf 50 = .ok (.aload_n 0, 1) := by decide +kernel
theorem dX4_costOf_51 : decode cX4_costOf 51 = .ok (.getfield 31, 3) := by decide +kernel
theorem dX4_costOf_54 : decode cX4_costOf 54 = .ok (.iload_n 2, 1) := by decide +kernel
theorem dX4_costOf_55 : decode cX4_costOf 55 = .ok (.iconst 1, 1) := by decide +kernel
theorem dX4_costOf_56 : decode cX4_costOf 56 = .ok (.iload 4, 2) := by decide +kernel
theorem dX4_costOf_58 : decode cX4_costOf 58 = .ok (.ishl, 1) := by decide +kernel
theorem dX4_costOf_59 : decode cX4_costOf 59 = .ok (.ior, 1) := by decide +kernel
theorem dX4_costOf_60 : decode cX4_costOf 60 = .ok (.bipush 9, 2) := by decide +kernel
theorem dX4_costOf_62 : decode cX4_costOf 62 = .ok (.imul, 1) := by decide +kernel
theorem dX4_costOf_63 : decode cX4_costOf 63 = .ok (.iload 4, 2) := by decide +kernel
theorem dX4_costOf_65 : decode cX4_costOf 65 = .ok (.iadd, 1) := by decide +kernel
theorem dX4_costOf_66 : decode cX4_costOf 66 = .ok (.iaload, 1) := by decide +kernel
theorem dX4_costOf_67 : decode cX4_costOf 67 = .ok (.iadd, 1) := by decide +kernel
theorem dX4_costOf_68 : decode cX4_costOf 68 = .ok (.ireturn, 1) := by decide +kernel
theorem dX4_leastCost_0 : decode cX4_leastCost 0 = .ok (.ldc 68, 2) := by decide +kernel
theorem dX4_leastCost_2 : decode cX4_leastCost 2 = .ok (.istore 4, 2) := by decide +kernel
theorem dX4_leastCost_4 : decode cX4_leastCost 4 = .ok (.iconst 0, 1) := by decide +kernel
theorem dX4_leastCost_5 : decode cX4_leastCost 5 = .ok (.istore 5, 2) := by decide +kernel
theorem dX4_leastCost_7 : decode cX4_leastCost 7 = .ok (.iload 5, 2) := by decide +kernel
theorem dX4_leastCost_9 : decode cX4_leastCost 9 = .ok (.aload_n 0, 1) := by decide +kernel
theorem dX4_leastCost_10 : decode cX4_leastCost 10 = .ok (.getfield 28, 3) := by decide +kernel
theorem dX4_leastCost_13 : decode cX4_leastCost 13 = .ok (.if_icmp .ge 34, 3) := by decide +kernel
theorem dX4_leastCost_16 : decode cX4_leastCost 16 = .ok (.iload_n 2, 1) := by decide +kernel
theorem dX4_leastCost_17 : decode cX4_leastCost 17 = .ok (.iload 5, 2) := by decide +kernel
theorem dX4_leastCost_19 : decode cX4_leastCost 19 = .ok (.ishr, 1) := by decide +kernel
theorem dX4_leastCost_20 : decode cX4_leastCost 20 = .ok (.iconst 1, 1) := by decide +kernel
theorem dX4_leastCost_21 : decode cX4_leastCost 21 = .ok (.iand, 1) := by decide +kernel
theorem dX4_leastCost_22 : decode cX4_leastCost 22 = .ok (.ifCond .ne 19, 3) := by decide +kernel
theorem dX4_leastCost_25 : decode cX4_leastCost 25 = .ok (.iload 4, 2) := by decide +kernel
theorem dX4_leastCost_27 : decode cX4_leastCost 27 = .ok (.aload_n 0, 1) := by decide +kernel
theorem dX4_leastCost_28 : decode cX4_leastCost 28 = .ok (.aload_n 1, 1) := by decide +kernel
theorem dX4_leastCost_29 : decode cX4_leastCost 29 = .ok (.iload_n 2, 1) := by decide +kernel
theorem dX4_leastCost_30 : decode cX4_leastCost 30 = .ok (.iload_n 3, 1) := by decide +kernel
theorem dX4_leastCost_31 : decode cX4_leastCost 31 = .ok (.iload 5, 2) := by decide +kernel
theorem dX4_leastCost_33 : decode cX4_leastCost 33 = .ok (.invokevirtual 69, 3) := by decide +kernel
theorem dX4_leastCost_36 : decode cX4_leastCost 36 = .ok (.invokestatic 73, 3) := by decide +kernel
theorem dX4_leastCost_39 : decode cX4_leastCost 39 = .ok (.istore 4, 2) := by decide +kernel
theorem dX4_leastCost_41 : decode cX4_leastCost 41 = .ok (.iinc 5 1, 3) := by decide +kernel
theorem dX4_leastCost_44 : decode cX4_leastCost 44 = .ok (.goto (-37), 3) := by decide +kernel
theorem dX4_leastCost_47 : decode cX4_leastCost 47 = .ok (.iload 4, 2) := by decide +kernel
theorem dX4_leastCost_49 : decode cX4_leastCost 49 = .ok (.ireturn, 1) := by decide +kernel
theorem dX4_fillRow_0 : decode cX4_fillRow 0 = .ok (.aload_n 0, 1) := by decide +kernel
theorem dX4_fillRow_1 : decode cX4_fillRow 1 = .ok (.iconst 0, 1) := by decide +kernel
theorem dX4_fillRow_2 : decode cX4_fillRow 2 = .ok (.putfield 21, 3) := by decide +kernel
theorem dX4_fillRow_5 : decode cX4_fillRow 5 = .ok (.iconst 0, 1) := by decide +kernel
theorem dX4_fillRow_6 : decode cX4_fillRow 6 = .ok (.istore_n 2, 1) := by decide +kernel
theorem dX4_fillRow_7 : decode cX4_fillRow 7 = .ok (.iconst (-1), 1) := by decide +kernel
theorem dX4_fillRow_8 : decode cX4_fillRow 8 = .ok (.istore_n 3, 1) := by decide +kernel
theorem dX4_fillRow_9 : decode cX4_fillRow 9 = .ok (.iconst 0, 1) := by decide +kernel
theorem dX4_fillRow_10 : decode cX4_fillRow 10 = .ok (.istore 4, 2) := by decide +kernel
theorem dX4_fillRow_12 : decode cX4_fillRow 12 = .ok (.iload 4, 2) := by decide +kernel
theorem dX4_fillRow_14 : decode cX4_fillRow 14 = .ok (.aload_n 0, 1) := by decide +kernel
theorem dX4_fillRow_15 : decode cX4_fillRow 15 = .ok (.getfield 28, 3) := by decide +kernel
theorem dX4_fillRow_18 : decode cX4_fillRow 18 = .ok (.if_icmp .ge 54, 3) := by decide +kernel
theorem dX4_fillRow_21 : decode cX4_fillRow 21 = .ok (.aload_n 0, 1) := by decide +kernel
theorem dX4_fillRow_22 : decode cX4_fillRow 22 = .ok (.aload_n 1, 1) := by decide +kernel
theorem dX4_fillRow_23 : decode cX4_fillRow 23 = .ok (.iload_n 2, 1) := by decide +kernel
theorem dX4_fillRow_24 : decode cX4_fillRow 24 = .ok (.iload_n 3, 1) := by decide +kernel
theorem dX4_fillRow_25 : decode cX4_fillRow 25 = .ok (.invokevirtual 78, 3) := by decide +kernel
theorem dX4_fillRow_28 : decode cX4_fillRow 28 = .ok (.istore_n 3, 1) := by decide +kernel
theorem dX4_fillRow_29 : decode cX4_fillRow 29 = .ok (.iload_n 3, 1) := by decide +kernel
theorem dX4_fillRow_30 : decode cX4_fillRow 30 = .ok (.iconst (-1), 1) := by decide +kernel
theorem dX4_fillRow_31 : decode cX4_fillRow 31 = .ok (.if_icmp .ne 4, 3) := by decide +kernel
theorem dX4_fillRow_34 : decode cX4_fillRow 34 = .ok (.return_, 1) := by decide +kernel
theorem dX4_fillRow_35 : decode cX4_fillRow 35 = .ok (.aload_n 0, 1) := by decide +kernel
theorem dX4_fillRow_36 : decode cX4_fillRow 36 = .ok (.getfield 18, 3) := by decide +kernel
theorem dX4_fillRow_39 : decode cX4_fillRow 39 = .ok (.aload_n 0, 1) := by decide +kernel
theorem dX4_fillRow_40 : decode cX4_fillRow 40 = .ok (.getfield 21, 3) := by decide +kernel
theorem dX4_fillRow_43 : decode cX4_fillRow 43 = .ok (.aload_n 0, 1) := by decide +kernel
theorem dX4_fillRow_44 : decode cX4_fillRow 44 = .ok (.getfield 25, 3) := by decide +kernel
theorem dX4_fillRow_47 : decode cX4_fillRow 47 = .ok (.iload_n 3, 1) := by decide +kernel
theorem dX4_fillRow_48 : decode cX4_fillRow 48 = .ok (.iaload, 1) := by decide +kernel
theorem dX4_fillRow_49 : decode cX4_fillRow 49 = .ok (.iastore, 1) := by decide +kernel
theorem dX4_fillRow_50 : decode cX4_fillRow 50 = .ok (.aload_n 0, 1) := by decide +kernel
theorem dX4_fillRow_51 : decode cX4_fillRow 51 = .ok (.dup, 1) := by decide +kernel
theorem dX4_fillRow_52 : decode cX4_fillRow 52 = .ok (.getfield 21, 3) := by decide +kernel
theorem dX4_fillRow_55 : decode cX4_fillRow 55 = .ok (.iconst 1, 1) := by decide +kernel
theorem dX4_fillRow_56 : decode cX4_fillRow 56 = .ok (.iadd, 1) := by decide +kernel
theorem dX4_fillRow_57 : decode cX4_fillRow 57 = .ok (.putfield 21, 3) := by decide +kernel
theorem dX4_fillRow_60 : decode cX4_fillRow 60 = .ok (.iload_n 2, 1) := by decide +kernel
theorem dX4_fillRow_61 : decode cX4_fillRow 61 = .ok (.iconst 1, 1) := by decide +kernel
theorem dX4_fillRow_62 : decode cX4_fillRow 62 = .ok (.iload_n 3, 1) := by decide +kernel
theorem dX4_fillRow_63 : decode cX4_fillRow 63 = .ok (.ishl, 1) := by decide +kernel
theorem dX4_fillRow_64 : decode cX4_fillRow 64 = .ok (.ior, 1) := by decide +kernel
theorem dX4_fillRow_65 : decode cX4_fillRow 65 = .ok (.istore_n 2, 1) := by decide +kernel
theorem dX4_fillRow_66 : decode cX4_fillRow 66 = .ok (.iinc 4 1, 3) := by decide +kernel
theorem dX4_fillRow_69 : decode cX4_fillRow 69 = .ok (.goto (-57), 3) := by decide +kernel
theorem dX4_fillRow_72 : decode cX4_fillRow 72 = .ok (.return_, 1) := by decide +kernel
theorem dX4_leastNext_0 : decode cX4_leastNext 0 = .ok (.aload_n 0, 1) := by decide +kernel
theorem dX4_leastNext_1 : decode cX4_leastNext 1 = .ok (.aload_n 1, 1) := by decide +kernel
theorem dX4_leastNext_2 : decode cX4_leastNext 2 = .ok (.iload_n 2, 1) := by decide +kernel
theorem dX4_leastNext_3 : decode cX4_leastNext 3 = .ok (.iload_n 3, 1) := by decide +kernel
theorem dX4_leastNext_4 : decode cX4_leastNext 4 = .ok (.invokevirtual 54, 3) := by decide +kernel
theorem dX4_leastNext_7 : decode cX4_leastNext 7 = .ok (.istore 4, 2) := by decide +kernel
theorem dX4_leastNext_9 : decode cX4_leastNext 9 = .ok (.iconst 0, 1) := by decide +kernel
theorem dX4_leastNext_10 : decode cX4_leastNext 10 = .ok (.istore 5, 2) := by decide +kernel
theorem dX4_leastNext_12 : decode cX4_leastNext 12 = .ok (.iload 5, 2) := by decide +kernel
theorem dX4_leastNext_14 : decode cX4_leastNext 14 = .ok (.aload_n 0, 1) := by decide +kernel
theorem dX4_leastNext_15 : decode cX4_leastNext 15 = .ok (.getfield 28, 3) := by decide +kernel
theorem dX4_leastNext_18 : decode cX4_leastNext 18 = .ok (.if_icmp .ge 35, 3) := by decide +kernel
theorem dX4_leastNext_21 : decode cX4_leastNext 21 = .ok (.iload_n 2, 1) := by decide +kernel
theorem dX4_leastNext_22 : decode cX4_leastNext 22 = .ok (.iload 5, 2) := by decide +kernel
theorem dX4_leastNext_24 : decode cX4_leastNext 24 = .ok (.ishr, 1) := by decide +kernel
theorem dX4_leastNext_25 : decode cX4_leastNext 25 = .ok (.iconst 1, 1) := by decide +kernel
theorem dX4_leastNext_26 : decode cX4_leastNext 26 = .ok (.iand, 1) := by decide +kernel
theorem dX4_leastNext_27 : decode cX4_leastNext 27 = .ok (.ifCond .ne 20, 3) := by decide +kernel
theorem dX4_leastNext_30 : decode cX4_leastNext 30 = .ok (.aload_n 0, 1) := by decide +kernel
theorem dX4_leastNext_31 : decode cX4_leastNext 31 = .ok (.aload_n 1, 1) := by decide +kernel
theorem dX4_leastNext_32 : decode cX4_leastNext 32 = .ok (.iload_n 2, 1) := by decide +kernel
theorem dX4_leastNext_33 : decode cX4_leastNext 33 = .ok (.iload_n 3, 1) := by decide +kernel
theorem dX4_leastNext_34 : decode cX4_leastNext 34 = .ok (.iload 5, 2) := by decide +kernel
theorem dX4_leastNext_36 : decode cX4_leastNext 36 = .ok (.invokevirtual 69, 3) := by decide +kernel
theorem dX4_leastNext_39 : decode cX4_leastNext 39 = .ok (.iload 4, 2) := by decide +kernel
theorem dX4_leastNext_41 : decode cX4_leastNext 41 = .ok (.if_icmp .ne 6, 3) := by decide +kernel
theorem dX4_leastNext_44 : decode cX4_leastNext 44 = .ok (.iload 5, 2) := by decide +kernel
theorem dX4_leastNext_46 : decode cX4_leastNext 46 = .ok (.ireturn, 1) := by decide +kernel
theorem dX4_leastNext_47 : decode cX4_leastNext 47 = .ok (.iinc 5 1, 3) := by decide +kernel
theorem dX4_leastNext_50 : decode cX4_leastNext 50 = .ok (.goto (-38), 3) := by decide +kernel
theorem dX4_leastNext_53 : decode cX4_leastNext 53 = .ok (.iconst (-1), 1) := by decide +kernel
theorem dX4_leastNext_54 : decode cX4_leastNext 54 = .ok (.ireturn, 1) := by decide +kernel
theorem dX5_init_0 : decode cX5_init 0 = .ok (.aload_n 0, 1) := by decide +kernel
theorem dX5_init_1 : decode cX5_init 1 = .ok (.invokespecial 3, 3) := by decide +kernel
theorem dX5_init_4 : decode cX5_init 4 = .ok (.aload_n 0, 1) := by decide +kernel
theorem dX5_init_5 : decode cX5_init 5 = .ok (.bipush 6, 2) := by decide +kernel
theorem dX5_init_7 : decode cX5_init 7 = .ok (.newarray .int, 2) := by decide +kernel
theorem dX5_init_9 : decode cX5_init 9 = .ok (.putfield 11, 3) := by decide +kernel
theorem dX5_init_12 : decode cX5_init 12 = .ok (.aload_n 0, 1) := by decide +kernel
theorem dX5_init_13 : decode cX5_init 13 = .ok (.bipush 72, 2) := by decide +kernel
theorem dX5_init_15 : decode cX5_init 15 = .ok (.newarray .int, 2) := by decide +kernel
theorem dX5_init_17 : decode cX5_init 17 = .ok (.putfield 15, 3) := by decide +kernel
theorem dX5_init_20 : decode cX5_init 20 = .ok (.aload_n 0, 1) := by decide +kernel
theorem dX5_init_21 : decode cX5_init 21 = .ok (.bipush 6, 2) := by decide +kernel
theorem dX5_init_23 : decode cX5_init 23 = .ok (.newarray .int, 2) := by decide +kernel
theorem dX5_init_25 : decode cX5_init 25 = .ok (.putfield 18, 3) := by decide +kernel
theorem dX5_init_28 : decode cX5_init 28 = .ok (.return_, 1) := by decide +kernel
theorem dX5_clearParts_0 : decode cX5_clearParts 0 = .ok (.aload_n 0, 1) := by decide +kernel
theorem dX5_clearParts_1 : decode cX5_clearParts 1 = .ok (.getfield 15, 3) := by decide +kernel
theorem dX5_clearParts_4 : decode cX5_clearParts 4 = .ok (.iconst 0, 1) := by decide +kernel
theorem dX5_clearParts_5 : decode cX5_clearParts 5 = .ok (.invokestatic 21, 3) := by decide +kernel
theorem dX5_clearParts_8 : decode cX5_clearParts 8 = .ok (.return_, 1) := by decide +kernel
theorem dX5_settle_0 : decode cX5_settle 0 = .ok (.aload_n 0, 1) := by decide +kernel
theorem dX5_settle_1 : decode cX5_settle 1 = .ok (.getfield 18, 3) := by decide +kernel
theorem dX5_settle_4 : decode cX5_settle 4 = .ok (.iconst 0, 1) := by decide +kernel
theorem dX5_settle_5 : decode cX5_settle 5 = .ok (.invokestatic 21, 3) := by decide +kernel
theorem dX5_settle_8 : decode cX5_settle 8 = .ok (.iload_n 2, 1) := by decide +kernel
theorem dX5_settle_9 : decode cX5_settle 9 = .ok (.istore_n 3, 1) := by decide +kernel
theorem dX5_settle_10 : decode cX5_settle 10 = .ok (.iconst 0, 1) := by decide +kernel
theorem dX5_settle_11 : decode cX5_settle 11 = .ok (.istore 4, 2) := by decide +kernel
theorem dX5_settle_13 : decode cX5_settle 13 = .ok (.iload 4, 2) := by decide +kernel
theorem dX5_settle_15 : decode cX5_settle 15 = .ok (.ldc 27, 2) := by decide +kernel
theorem dX5_settle_17 : decode cX5_settle 17 = .ok (.if_icmp .ge 30, 3) := by decide +kernel
theorem dX5_settle_20 : decode cX5_settle 20 = .ok (.aload_n 0, 1) := by decide +kernel
theorem dX5_settle_21 : decode cX5_settle 21 = .ok (.iload_n 1, 1) := by decide +kernel
theorem dX5_settle_22 : decode cX5_settle 22 = .ok (.iload_n 3, 1) := by decide +kernel
theorem dX5_settle_23 : decode cX5_settle 23 = .ok (.invokevirtual 28, 3) := by decide +kernel
theorem dX5_settle_26 : decode cX5_settle 26 = .ok (.istore 5, 2) := by decide +kernel
theorem dX5_settle_28 : decode cX5_settle 28 = .ok (.iload 5, 2) := by decide +kernel
theorem dX5_settle_30 : decode cX5_settle 30 = .ok (.ifCond .ne 6, 3) := by decide +kernel
theorem dX5_settle_33 : decode cX5_settle 33 = .ok (.goto 14, 3) := by decide +kernel
theorem dX5_settle_36 : decode cX5_settle 36 = .ok (.iload_n 3, 1) := by decide +kernel
theorem dX5_settle_37 : decode cX5_settle 37 = .ok (.iload 5, 2) := by decide +kernel
theorem dX5_settle_39 : decode cX5_settle 39 = .ok (.isub, 1) := by decide +kernel
theorem dX5_settle_40 : decode cX5_settle 40 = .ok (.istore_n 3, 1) := by decide +kernel
theorem dX5_settle_41 : decode cX5_settle 41 = .ok (.iinc 4 1, 3) := by decide +kernel
theorem dX5_settle_44 : decode cX5_settle 44 = .ok (.goto (-31), 3) := by decide +kernel
theorem dX5_settle_47 : decode cX5_settle 47 = .ok (.aload_n 0, 1) := by decide +kernel
theorem dX5_settle_48 : decode cX5_settle 48 = .ok (.iload_n 1, 1) := by decide +kernel
theorem dX5_settle_49 : decode cX5_settle 49 = .ok (.iload_n 3, 1) := by decide +kernel
theorem dX5_settle_50 : decode cX5_settle 50 = .ok (.invokevirtual 32, 3) := by decide +kernel
theorem dX5_settle_53 : decode cX5_settle 53 = .ok (.ireturn, 1) := by decide +kernel
theorem dX5_partOf_0 : decode cX5_partOf 0 = .ok (.aload_n 0, 1) := by decide +kernel
theorem dX5_partOf_1 : decode cX5_partOf 1 = .ok (.getfield 11, 3) := by decide +kernel
theorem dX5_partOf_4 : decode cX5_partOf 4 = .ok (.iload_n 2, 1) := by decide +kernel
theorem dX5_partOf_5 : decode cX5_partOf 5 = .ok (.iaload, 1) := by decide +kernel
theorem dX5_partOf_6 : decode cX5_partOf 6 = .ok (.ifCond .le 17, 3) := by decide +kernel
theorem dX5_partOf_9 : decode cX5_partOf 9 = .ok (.aload_n 0, 1) := by decide +kernel
theorem dX5_partOf_10 : decode cX5_partOf 10 = .ok (.getfield 15, 3) := by decide +kernel
theorem dX5_partOf_13 : decode cX5_partOf 13 = .ok (.iload_n 1, 1) := by decide +kernel
theorem dX5_partOf_14 : decode cX5_partOf 14 = .ok (.bipush 6, 2) := by decide +kernel
theorem dX5_partOf_16 : decode cX5_partOf 16 = .ok (.imul, 1) := by decide +kernel
theorem dX5_partOf_17 : decode cX5_partOf 17 = .ok (.iload_n 2, 1) := by decide +kernel
theorem dX5_partOf_18 : decode cX5_partOf 18 = .ok (.iadd, 1) := by decide +kernel
theorem dX5_partOf_19 : decode cX5_partOf 19 = .ok (.iaload, 1) := by decide +kernel
theorem dX5_partOf_20 : decode cX5_partOf 20 = .ok (.goto 4, 3) := by decide +kernel
theorem dX5_partOf_23 : decode cX5_partOf 23 = .ok (.iconst 0, 1) := by decide +kernel
theorem dX5_partOf_24 : decode cX5_partOf 24 = .ok (.ireturn, 1) := by decide +kernel
theorem dX5_payRound_0 : decode cX5_payRound 0 = .ok (.iconst 0, 1) := by decide +kernel
theorem dX5_payRound_1 : decode cX5_payRound 1 = .ok (.istore_n 3, 1) := by decide +kernel
theorem dX5_payRound_2 : decode cX5_payRound 2 = .ok (.iconst 0, 1) := by decide +kernel
theorem dX5_payRound_3 : decode cX5_payRound 3 = .ok (.istore 4, 2) := by decide +kernel
theorem dX5_payRound_5 : decode cX5_payRound 5 = .ok (.iload 4, 2) := by decide +kernel
theorem dX5_payRound_7 : decode cX5_payRound 7 = .ok (.bipush 6, 2) := by decide +kernel
theorem dX5_payRound_9 : decode cX5_payRound 9 = .ok (.if_icmp .ge 19, 3) := by decide +kernel
theorem dX5_payRound_12 : decode cX5_payRound 12 = .ok (.iload_n 3, 1) := by decide +kernel
theorem dX5_payRound_13 : decode cX5_payRound 13 = .ok (.aload_n 0, 1) := by decide +kernel
theorem dX5_payRound_14 : decode cX5_payRound 14 = .ok (.iload_n 1, 1) := by decide +kernel
theorem dX5_payRound_15 : decode cX5_payRound 15 = .ok (.iload 4, 2) := by decide +kernel
theorem dX5_payRound_17 : decode cX5_payRound 17 = .ok (.invokevirtual 35, 3) := by decide +kernel
theorem dX5_payRound_20 : decode cX5_payRound 20 = .ok (.iadd, 1) := by decide +kernel
theorem dX5_payRound_21 : decode cX5_payRound 21 = .ok (.istore_n 3, 1) := by decide +kernel
theorem dX5_payRound_22 : decode cX5_payRound 22 = .ok (.iinc 4 1, 3) := by decide +kernel
theorem dX5_payRound_25 : decode cX5_payRound 25 = .ok (.goto (-20), 3) := by decide +kernel
theorem dX5_payRound_28 : decode cX5_payRound 28 = .ok (.iload_n 3, 1) := by decide +kernel
theorem dX5_payRound_29 : decode cX5_payRound 29 = .ok (.ifCond .gt 5, 3) := by decide +kernel
theorem dX5_payRound_32 : decode cX5_payRound 32 = .ok (.iconst 0, 1) := by decide +kernel
theorem dX5_payRound_33 : decode cX5_payRound 33 = .ok (.ireturn, 1) := by decide +kernel
theorem dX5_payRound_34 : decode cX5_payRound 34 = .ok (.iconst 0, 1) := by decide +kernel
theorem dX5_payRound_35 : decode cX5_payRound 35 = .ok (.istore 4, 2) := by decide +kernel
theorem dX5_payRound_37 : decode cX5_payRound 37 = .ok (.iconst 0, 1) := by decide +kernel
theorem dX5_payRound_38 : decode cX5_payRound 38 = .ok (.istore 5, 2) := by decide +kernel
theorem dX5_payRound_40 : decode cX5_payRound 40 = .ok (.iload 5, 2) := by decide +kernel
theorem dX5_payRound_42 : decode cX5_payRound 42 = .ok (.bipush 6, 2) := by decide +kernel
theorem dX5_payRound_44 : decode cX5_payRound 44 = .ok (.if_icmp .ge 47, 3) := by decide +kernel
theorem dX5_payRound_47 : decode cX5_payRound 47 = .ok (.aload_n 0, 1) := by decide +kernel
theorem dX5_payRound_48 : decode cX5_payRound 48 = .ok (.getfield 11, 3) := by decide +kernel
theorem dX5_payRound_51 : decode cX5_payRound 51 = .ok (.iload 5, 2) := by decide +kernel
theorem dX5_payRound_53 : decode cX5_payRound 53 = .ok (.iaload, 1) := by decide +kernel
theorem dX5_payRound_54 : decode cX5_payRound 54 = .ok (.iload_n 2, 1) := by decide +kernel
theorem dX5_payRound_55 : decode cX5_payRound 55 = .ok (.aload_n 0, 1) := by decide +kernel
theorem dX5_payRound_56 : decode cX5_payRound 56 = .ok (.iload_n 1, 1) := by decide +kernel
theorem dX5_payRound_57 : decode cX5_payRound 57 = .ok (.iload 5, 2) := by decide +kernel
theorem dX5_payRound_59 : decode cX5_payRound 59 = .ok (.invokevirtual 35, 3) := by decide +kernel
theorem dX5_payRound_62 : decode cX5_payRound 62 = .ok (.imul, 1) := by decide +kernel
theorem dX5_payRound_63 : decode cX5_payRound 63 = .ok (.iload_n 3, 1) := by decide +kernel
theorem dX5_payRound_64 : decode cX5_payRound 64 = .ok (.idiv, 1) := by decide +kernel
theorem dX5_payRound_65 : decode cX5_payRound 65 = .ok (.invokestatic 38, 3) := by decide +kernel
theorem dX5_payRound_68 : decode cX5_payRound 68 = .ok (.istore 6, 2) := by decide +kernel
theorem dX5_payRound_70 : decode cX5_payRound 70 = .ok (.aload_n 0, 1) := by decide +kernel
theorem dX5_payRound_71 : decode cX5_payRound 71 = .ok (.iload 5, 2) := by decide +kernel
theorem dX5_payRound_73 : decode cX5_payRound 73 = .ok (.iload 6, 2) := by decide +kernel
theorem dX5_payRound_75 : decode cX5_payRound 75 = .ok (.invokevirtual 43, 3) := by decide +kernel
theorem dX5_payRound_78 : decode cX5_payRound 78 = .ok (.iload 4, 2) := by decide +kernel
theorem dX5_payRound_80 : decode cX5_payRound 80 = .ok (.iload 6, 2) := by decide +kernel
theorem dX5_payRound_82 : decode cX5_payRound 82 = .ok (.iadd, 1) := by decide +kernel
theorem dX5_payRound_83 : decode cX5_payRound 83 = .ok (.istore 4, 2) := by decide +kernel
theorem dX5_payRound_85 : decode cX5_payRound 85 = .ok (.iinc 5 1, 3) := by decide +kernel
theorem dX5_payRound_88 : decode cX5_payRound 88 = .ok (.goto (-48), 3) := by decide +kernel
theorem dX5_payRound_91 : decode cX5_payRound 91 = .ok (.iload 4, 2) := by decide +kernel
theorem dX5_payRound_93 : decode cX5_payRound 93 = .ok (.ireturn, 1) := by decide +kernel
theorem dX5_payOnes_0 : decode cX5_payOnes 0 = .ok (.iload_n 2, 1) := by decide +kernel
theorem dX5_payOnes_1 : decode cX5_payOnes 1 = .ok (.istore_n 3, 1) := by decide +kernel
theorem dX5_payOnes_2 : decode cX5_payOnes 2 = .ok (.iconst 0, 1) := by decide +kernel
theorem dX5_payOnes_3 : decode cX5_payOnes 3 = .ok (.istore 4, 2) := by decide +kernel
theorem dX5_payOnes_5 : decode cX5_payOnes 5 = .ok (.iload 4, 2) := by decide +kernel
theorem dX5_payOnes_7 : decode cX5_payOnes 7 = .ok (.bipush 6, 2) := by decide +kernel
theorem dX5_payOnes_9 : decode cX5_payOnes 9 = .ok (.if_icmp .ge 33, 3) := by decide +kernel
theorem dX5_payOnes_12 : decode cX5_payOnes 12 = .ok (.iload_n 3, 1) := by decide +kernel
theorem dX5_payOnes_13 : decode cX5_payOnes 13 = .ok (.ifCond .le 29, 3) := by decide +kernel
theorem dX5_payOnes_16 : decode cX5_payOnes 16 = .ok (.aload_n 0, 1) := by decide +kernel
theorem dX5_payOnes_17 : decode cX5_payOnes 17 = .ok (.iload_n 1, 1) := by decide +kernel
theorem dX5_payOnes_18 : decode cX5_payOnes 18 = .ok (.iload 4, 2) := by decide +kernel
theorem dX5_payOnes_20 : decode cX5_payOnes 20 = .ok (.invokevirtual 35, 3) := by decide +kernel
theorem dX5_payOnes_23 : decode cX5_payOnes 23 = .ok (.ifCond .le 13, 3) := by decide +kernel
theorem dX5_payOnes_26 : decode cX5_payOnes 26 = .ok (.aload_n 0, 1) := by decide +kernel
theorem dX5_payOnes_27 : decode cX5_payOnes 27 = .ok (.iload 4, 2) := by decide +kernel
theorem dX5_payOnes_29 : decode cX5_payOnes 29 = .ok (.iconst 1, 1) := by decide +kernel
theorem dX5_payOnes_30 : decode cX5_payOnes 30 = .ok (.invokevirtual 43, 3) := by decide +kernel
theorem dX5_payOnes_33 : decode cX5_payOnes 33 = .ok (.iinc 3 (-1), 3) := by decide +kernel
theorem dX5_payOnes_36 : decode cX5_payOnes 36 = .ok (.iinc 4 1, 3) := by decide +kernel
theorem dX5_payOnes_39 : decode cX5_payOnes 39 = .ok (.goto (-34), 3) := by decide +kernel
theorem dX5_payOnes_42 : decode cX5_payOnes 42 = .ok (.iload_n 3, 1) := by decide +kernel
theorem dX5_payOnes_43 : decode cX5_payOnes 43 = .ok (.ireturn, 1) := by decide +kernel
theorem dX5_pay_0 : decode cX5_pay 0 = .ok (.aload_n 0, 1) := by decide +kernel
theorem dX5_pay_1 : decode cX5_pay 1 = .ok (.getfield 11, 3) := by decide +kernel
theorem dX5_pay_4 : decode cX5_pay 4 = .ok (.iload_n 1, 1) := by decide +kernel
theorem dX5_pay_5 : decode cX5_pay 5 = .ok (.dup2, 1) := by decide +kernel
theorem dX5_pay_6 : decode cX5_pay 6 = .ok (.iaload, 1) := by decide +kernel
theorem dX5_pay_7 : decode cX5_pay 7 = .ok (.iload_n 2, 1) := by decide +kernel
theorem dX5_pay_8 : decode cX5_pay 8 = .ok (.isub, 1) := by decide +kernel
theorem dX5_pay_9 : decode cX5_pay 9 = .ok (.iastore, 1) := by decide +kernel
theorem dX5_pay_10 : decode cX5_pay 10 = .ok (.aload_n 0, 1) := by decide +kernel
theorem dX5_pay_11 : decode cX5_pay 11 = .ok (.getfield 18, 3) := by decide +kernel
theorem dX5_pay_14 : decode cX5_pay 14 = .ok (.iload_n 1, 1) := by decide +kernel
theorem dX5_pay_15 : decode cX5_pay 15 = .ok (.dup2, 1) := by decide +kernel
theorem dX5_pay_16 : decode cX5_pay 16 = .ok (.iaload, 1) := by decide +kernel
theorem dX5_pay_17 : decode cX5_pay 17 = .ok (.iload_n 2, 1) := by decide +kernel
theorem dX5_pay_18 : decode cX5_pay 18 = .ok (.iadd, 1) := by decide +kernel
theorem dX5_pay_19 : decode cX5_pay 19 = .ok (.iastore, 1) := by decide +kernel
theorem dX5_pay_20 : decode cX5_pay 20 = .ok (.return_, 1) := by decide +kernel
theorem dX6_init_0 : decode cX6_init 0 = .ok (.aload_n 0, 1) := by decide +kernel
theorem dX6_init_1 : decode cX6_init 1 = .ok (.invokespecial 3, 3) := by decide +kernel
theorem dX6_init_4 : decode cX6_init 4 = .ok (.aload_n 0, 1) := by decide +kernel
theorem dX6_init_5 : decode cX6_init 5 = .ok (.sipush 248, 3) := by decide +kernel
theorem dX6_init_8 : decode cX6_init 8 = .ok (.newarray .int, 2) := by decide +kernel
theorem dX6_init_10 : decode cX6_init 10 = .ok (.putfield 11, 3) := by decide +kernel
theorem dX6_init_13 : decode cX6_init 13 = .ok (.aload_n 0, 1) := by decide +kernel
theorem dX6_init_14 : decode cX6_init 14 = .ok (.sipush 248, 3) := by decide +kernel
theorem dX6_init_17 : decode cX6_init 17 = .ok (.newarray .int, 2) := by decide +kernel
theorem dX6_init_19 : decode cX6_init 19 = .ok (.putfield 15, 3) := by decide +kernel
theorem dX6_init_22 : decode cX6_init 22 = .ok (.aload_n 0, 1) := by decide +kernel
theorem dX6_init_23 : decode cX6_init 23 = .ok (.sipush 256, 3) := by decide +kernel
theorem dX6_init_26 : decode cX6_init 26 = .ok (.newarray .int, 2) := by decide +kernel
theorem dX6_init_28 : decode cX6_init 28 = .ok (.putfield 18, 3) := by decide +kernel
theorem dX6_init_31 : decode cX6_init 31 = .ok (.aload_n 0, 1) := by decide +kernel
theorem dX6_init_32 : decode cX6_init 32 = .ok (.sipush 2048, 3) := by decide +kernel
theorem dX6_init_35 : decode cX6_init 35 = .ok (.newarray .int, 2) := by decide +kernel
theorem dX6_init_37 : decode cX6_init 37 = .ok (.putfield 21, 3) := by decide +kernel
theorem dX6_init_40 : decode cX6_init 40 = .ok (.aload_n 0, 1) := by decide +kernel
theorem dX6_init_41 : decode cX6_init 41 = .ok (.sipush 2048, 3) := by decide +kernel
theorem dX6_init_44 : decode cX6_init 44 = .ok (.newarray .int, 2) := by decide +kernel
theorem dX6_init_46 : decode cX6_init 46 = .ok (.putfield 24, 3) := by decide +kernel
theorem dX6_init_49 : decode cX6_init 49 = .ok (.aload_n 0, 1) := by decide +kernel
theorem dX6_init_50 : decode cX6_init 50 = .ok (.bipush 8, 2) := by decide +kernel
theorem dX6_init_52 : decode cX6_init 52 = .ok (.newarray .int, 2) := by decide +kernel
theorem dX6_init_54 : decode cX6_init 54 = .ok (.putfield 27, 3) := by decide +kernel
theorem dX6_init_57 : decode cX6_init 57 = .ok (.aload_n 0, 1) := by decide +kernel
theorem dX6_init_58 : decode cX6_init 58 = .ok (.iconst 4, 1) := by decide +kernel
theorem dX6_init_59 : decode cX6_init 59 = .ok (.newarray .int, 2) := by decide +kernel
theorem dX6_init_61 : decode cX6_init 61 = .ok (.putfield 30, 3) := by decide +kernel
theorem dX6_init_64 : decode cX6_init 64 = .ok (.aload_n 0, 1) := by decide +kernel
theorem dX6_init_65 : decode cX6_init 65 = .ok (.bipush 8, 2) := by decide +kernel
theorem dX6_init_67 : decode cX6_init 67 = .ok (.newarray .int, 2) := by decide +kernel
theorem dX6_init_69 : decode cX6_init 69 = .ok (.putfield 33, 3) := by decide +kernel
theorem dX6_init_72 : decode cX6_init 72 = .ok (.aload_n 0, 1) := by decide +kernel
theorem dX6_init_73 : decode cX6_init 73 = .ok (.iconst 0, 1) := by decide +kernel
theorem dX6_init_74 : decode cX6_init 74 = .ok (.putfield 36, 3) := by decide +kernel
theorem dX6_init_77 : decode cX6_init 77 = .ok (.aload_n 0, 1) := by decide +kernel
theorem dX6_init_78 : decode cX6_init 78 = .ok (.bipush 8, 2) := by decide +kernel
theorem dX6_init_80 : decode cX6_init 80 = .ok (.newarray .int, 2) := by decide +kernel
theorem dX6_init_82 : decode cX6_init 82 = .ok (.putfield 40, 3) := by decide +kernel
theorem dX6_init_85 : decode cX6_init 85 = .ok (.aload_n 0, 1) := by decide +kernel
theorem dX6_init_86 : decode cX6_init 86 = .ok (.bipush 8, 2) := by decide +kernel
theorem dX6_init_88 : decode cX6_init 88 = .ok (.newarray .int, 2) := by decide +kernel
theorem dX6_init_90 : decode cX6_init 90 = .ok (.putfield 43, 3) := by decide +kernel
theorem dX6_init_93 : decode cX6_init 93 = .ok (.aload_n 0, 1) := by decide +kernel
theorem dX6_init_94 : decode cX6_init 94 = .ok (.bipush 8, 2) := by decide +kernel
theorem dX6_init_96 : decode cX6_init 96 = .ok (.newarray .int, 2) := by decide +kernel
theorem dX6_init_98 : decode cX6_init 98 = .ok (.putfield 46, 3) := by decide +kernel
theorem dX6_init_101 : decode cX6_init 101 = .ok (.aload_n 0, 1) := by decide +kernel
theorem dX6_init_102 : decode cX6_init 102 = .ok (.iconst 0, 1) := by decide +kernel
theorem dX6_init_103 : decode cX6_init 103 = .ok (.putfield 49, 3) := by decide +kernel
theorem dX6_init_106 : decode cX6_init 106 = .ok (.aload_n 0, 1) := by decide +kernel
theorem dX6_init_107 : decode cX6_init 107 = .ok (.iconst (-1), 1) := by decide +kernel
theorem dX6_init_108 : decode cX6_init 108 = .ok (.putfield 52, 3) := by decide +kernel
theorem dX6_init_111 : decode cX6_init 111 = .ok (.aload_n 0, 1) := by decide +kernel
theorem dX6_init_112 : decode cX6_init 112 = .ok (.iconst 0, 1) := by decide +kernel
theorem dX6_init_113 : decode cX6_init 113 = .ok (.putfield 55, 3) := by decide +kernel
theorem dX6_init_116 : decode cX6_init 116 = .ok (.aload_n 0, 1) := by decide +kernel
theorem dX6_init_117 : decode cX6_init 117 = .ok (.iconst 0, 1) := by decide +kernel
theorem dX6_init_118 : decode cX6_init 118 = .ok (.putfield 58, 3) := by decide +kernel
theorem dX6_init_121 : decode cX6_init 121 = .ok (.aload_n 0, 1) := by decide +kernel
theorem dX6_init_122 : decode cX6_init 122 = .ok (.iconst 0, 1) := by decide +kernel
theorem dX6_init_123 : decode cX6_init 123 = .ok (.putfield 62, 3) := by decide +kernel
theorem dX6_init_126 : decode cX6_init 126 = .ok (.return_, 1) := by decide +kernel
theorem dX6_drop_0 : decode cX6_drop 0 = .ok (.aload_n 0, 1) := by decide +kernel
theorem dX6_drop_1 : decode cX6_drop 1 = .ok (.iconst 0, 1) := by decide +kernel
theorem dX6_drop_2 : decode cX6_drop 2 = .ok (.putfield 58, 3) := by decide +kernel
theorem dX6_drop_5 : decode cX6_drop 5 = .ok (.aload_n 0, 1) := by decide +kernel
theorem dX6_drop_6 : decode cX6_drop 6 = .ok (.iconst 0, 1) := by decide +kernel
theorem dX6_drop_7 : decode cX6_drop 7 = .ok (.putfield 62, 3) := by decide +kernel
theorem dX6_drop_10 : decode cX6_drop 10 = .ok (.return_, 1) := by decide +kernel
theorem dX6_make_0 : decode cX6_make 0 = .ok (.iconst 0, 1) := by decide +kernel
theorem dX6_make_1 : decode cX6_make 1 = .ok (.istore_n 2, 1) := by decide +kernel
theorem dX6_make_2 : decode cX6_make 2 = .ok (.iload_n 2, 1) := by decide +kernel
theorem dX6_make_3 : decode cX6_make 3 = .ok (.aload_n 1, 1) := by decide +kernel
theorem dX6_make_4 : decode cX6_make 4 = .ok (.getfield 65, 3) := by decide +kernel
theorem dX6_make_7 : decode cX6_make 7 = .ok (.if_icmp .ge 15, 3) := by decide +kernel
theorem dX6_make_10 : decode cX6_make 10 = .ok (.aload_n 0, 1) := by decide +kernel
theorem dX6_make_11 : decode cX6_make 11 = .ok (.aload_n 1, 1) := by decide +kernel
theorem dX6_make_12 : decode cX6_make 12 = .ok (.iload_n 2, 1) := by decide +kernel
theorem dX6_make_13 : decode cX6_make 13 = .ok (.invokevirtual 70, 3) := by decide +kernel
theorem dX6_make_16 : decode cX6_make 16 = .ok (.iinc 2 1, 3) := by decide +kernel
theorem dX6_make_19 : decode cX6_make 19 = .ok (.goto (-17), 3) := by decide +kernel
theorem dX6_make_22 : decode cX6_make 22 = .ok (.aload_n 0, 1) := by decide +kernel
theorem dX6_make_23 : decode cX6_make 23 = .ok (.aload_n 1, 1) := by decide +kernel
theorem dX6_make_24 : decode cX6_make 24 = .ok (.invokevirtual 74, 3) := by decide +kernel
theorem dX6_make_27 : decode cX6_make 27 = .ok (.aload_n 0, 1) := by decide +kernel
theorem dX6_make_28 : decode cX6_make 28 = .ok (.aload_n 1, 1) := by decide +kernel
theorem dX6_make_29 : decode cX6_make 29 = .ok (.invokevirtual 78, 3) := by decide +kernel
theorem dX6_make_32 : decode cX6_make 32 = .ok (.aload_n 0, 1) := by decide +kernel
theorem dX6_make_33 : decode cX6_make 33 = .ok (.aload_n 1, 1) := by decide +kernel
theorem dX6_make_34 : decode cX6_make 34 = .ok (.invokevirtual 81, 3) := by decide +kernel
theorem dX6_make_37 : decode cX6_make 37 = .ok (.aload_n 0, 1) := by decide +kernel
theorem dX6_make_38 : decode cX6_make 38 = .ok (.aload_n 1, 1) := by decide +kernel
theorem dX6_make_39 : decode cX6_make 39 = .ok (.invokevirtual 84, 3) := by decide +kernel
theorem dX6_make_42 : decode cX6_make 42 = .ok (.aload_n 0, 1) := by decide +kernel
theorem dX6_make_43 : decode cX6_make 43 = .ok (.iconst 1, 1) := by decide +kernel
theorem dX6_make_44 : decode cX6_make 44 = .ok (.putfield 58, 3) := by decide +kernel
theorem dX6_make_47 : decode cX6_make 47 = .ok (.aload_n 0, 1) := by decide +kernel
theorem dX6_make_48 : decode cX6_make 48 = .ok (.iconst 0, 1) := by decide +kernel
theorem dX6_make_49 : decode cX6_make 49 = .ok (.putfield 62, 3) := by decide +kernel
theorem dX6_make_52 : decode cX6_make 52 = .ok (.aload_n 0, 1) := by decide +kernel
theorem dX6_make_53 : decode cX6_make 53 = .ok (.getfield 55, 3) := by decide +kernel
theorem dX6_make_56 : decode cX6_make 56 = .ok (.ireturn, 1) := by decide +kernel
theorem dX6_fillBegins_0 : decode cX6_fillBegins 0 = .ok (.iconst (-1), 1) := by decide +kernel
theorem dX6_fillBegins_1 : decode cX6_fillBegins 1 = .ok (.istore_n 3, 1) := by decide +kernel
theorem dX6_fillBegins_2 : decode cX6_fillBegins 2 = .ok (.iconst 0, 1) := by decide +kernel
theorem dX6_fillBegins_3 : decode cX6_fillBegins 3 = .ok (.istore 4, 2) := by decide +kernel
theorem dX6_fillBegins_5 : decode cX6_fillBegins 5 = .ok (.iload 4, 2) := by decide +kernel
theorem dX6_fillBegins_7 : decode cX6_fillBegins 7 = .ok (.bipush 31, 2) := by decide +kernel
theorem dX6_fillBegins_9 : decode cX6_fillBegins 9 = .ok (.if_icmp .ge 59, 3) := by decide +kernel
theorem dX6_fillBegins_12 : decode cX6_fillBegins 12 = .ok (.aload_n 1, 1) := by decide +kernel
theorem dX6_fillBegins_13 : decode cX6_fillBegins 13 = .ok (.iload_n 2, 1) := by decide +kernel
theorem dX6_fillBegins_14 : decode cX6_fillBegins 14 = .ok (.iload 4, 2) := by decide +kernel
theorem dX6_fillBegins_16 : decode cX6_fillBegins 16 = .ok (.invokevirtual 87, 3) := by decide +kernel
theorem dX6_fillBegins_19 : decode cX6_fillBegins 19 = .ok (.istore 5, 2) := by decide +kernel
theorem dX6_fillBegins_21 : decode cX6_fillBegins 21 = .ok (.iload 5, 2) := by decide +kernel
theorem dX6_fillBegins_23 : decode cX6_fillBegins 23 = .ok (.iload 4, 2) := by decide +kernel
theorem dX6_fillBegins_25 : decode cX6_fillBegins 25 = .ok (.if_icmp .ne 8, 3) := by decide +kernel
theorem dX6_fillBegins_28 : decode cX6_fillBegins 28 = .ok (.iload 4, 2) := by decide +kernel
theorem dX6_fillBegins_30 : decode cX6_fillBegins 30 = .ok (.goto 4, 3) := by decide +kernel
theorem dX6_fillBegins_33 : decode cX6_fillBegins 33 = .ok (.iload_n 3, 1) := by decide +kernel
theorem dX6_fillBegins_34 : decode cX6_fillBegins 34 = .ok (.istore_n 3, 1) := by decide +kernel
theorem dX6_fillBegins_35 : decode cX6_fillBegins 35 = .ok (.aload_n 0, 1) := by decide +kernel
theorem dX6_fillBegins_36 : decode cX6_fillBegins 36 = .ok (.getfield 11, 3) := by decide +kernel
theorem dX6_fillBegins_39 : decode cX6_fillBegins 39 = .ok (.iload_n 2, 1) := by decide +kernel
theorem dX6_fillBegins_40 : decode cX6_fillBegins 40 = .ok (.bipush 31, 2) := by decide +kernel
theorem dX6_fillBegins_42 : decode cX6_fillBegins 42 = .ok (.imul, 1) := by decide +kernel
theorem dX6_fillBegins_43 : decode cX6_fillBegins 43 = .ok (.iload 4, 2) := by decide +kernel
theorem dX6_fillBegins_45 : decode cX6_fillBegins 45 = .ok (.iadd, 1) := by decide +kernel
theorem dX6_fillBegins_46 : decode cX6_fillBegins 46 = .ok (.iload 5, 2) := by decide +kernel
theorem dX6_fillBegins_48 : decode cX6_fillBegins 48 = .ok (.iastore, 1) := by decide +kernel
theorem dX6_fillBegins_49 : decode cX6_fillBegins 49 = .ok (.aload_n 0, 1) := by decide +kernel
theorem dX6_fillBegins_50 : decode cX6_fillBegins 50 = .ok (.getfield 15, 3) := by decide +kernel
theorem dX6_fillBegins_53 : decode cX6_fillBegins 53 = .ok (.iload_n 2, 1) := by decide +kernel
theorem dX6_fillBegins_54 : decode cX6_fillBegins 54 = .ok (.bipush 31, 2) := by decide +kernel
theorem dX6_fillBegins_56 : decode cX6_fillBegins 56 = .ok (.imul, 1) := by decide +kernel
theorem dX6_fillBegins_57 : decode cX6_fillBegins 57 = .ok (.iload 4, 2) := by decide +kernel
theorem dX6_fillBegins_59 : decode cX6_fillBegins 59 = .ok (.iadd, 1) := by decide +kernel
theorem dX6_fillBegins_60 : decode cX6_fillBegins 60 = .ok (.iload_n 3, 1) := by decide +kernel
theorem dX6_fillBegins_61 : decode cX6_fillBegins 61 = .ok (.iastore, 1) := by decide +kernel
theorem dX6_fillBegins_62 : decode cX6_fillBegins 62 = .ok (.iinc 4 1, 3) := by decide +kernel
theorem dX6_fillBegins_65 : decode cX6_fillBegins 65 = .ok (.goto (-60), 3) := by decide +kernel
theorem dX6_fillBegins_68 : decode cX6_fillBegins 68 = .ok (.return_, 1) := by decide +kernel
theorem dX6_endOf_0 : decode cX6_endOf 0 = .ok (.iload_n 3, 1) := by decide +kernel
theorem dX6_endOf_1 : decode cX6_endOf 1 = .ok (.bipush 31, 2) := by decide +kernel
theorem dX6_endOf_3 : decode cX6_endOf 3 = .ok (.if_icmp .ge 17, 3) := by decide +kernel
theorem dX6_endOf_6 : decode cX6_endOf 6 = .ok (.aload_n 0, 1) := by decide +kernel
theorem dX6_endOf_7 : decode cX6_endOf 7 = .ok (.getfield 11, 3) := by decide +kernel
theorem dX6_endOf_10 : decode cX6_endOf 10 = .ok (.iload_n 2, 1) := by decide +kernel
theorem dX6_endOf_11 : decode cX6_endOf 11 = .ok (.bipush 31, 2) := by decide +kernel
theorem dX6_endOf_13 : decode cX6_endOf 13 = .ok (.imul, 1) := by decide +kernel
theorem dX6_endOf_14 : decode cX6_endOf 14 = .ok (.iload_n 3, 1) := by decide +kernel
theorem dX6_endOf_15 : decode cX6_endOf 15 = .ok (.iadd, 1) := by decide +kernel
theorem dX6_endOf_16 : decode cX6_endOf 16 = .ok (.iaload, 1) := by decide +kernel
theorem dX6_endOf_17 : decode cX6_endOf 17 = .ok (.goto 4, 3) := by decide +kernel
theorem dX6_endOf_20 : decode cX6_endOf 20 = .ok (.iconst (-1), 1) := by decide +kernel
theorem dX6_endOf_21 : decode cX6_endOf 21 = .ok (.istore 4, 2) := by decide +kernel
theorem dX6_endOf_23 : decode cX6_endOf 23 = .ok (.iload 4, 2) := by decide +kernel
theorem dX6_endOf_25 : decode cX6_endOf 25 = .ok (.iconst (-1), 1) := by decide +kernel
theorem dX6_endOf_26 : decode cX6_endOf 26 = .ok (.if_icmp .ne 9, 3) := by decide +kernel
theorem dX6_endOf_29 : decode cX6_endOf 29 = .ok (.sipush 1000, 3) := by decide +kernel
theorem dX6_endOf_32 : decode cX6_endOf 32 = .ok (.goto 14, 3) := by decide +kernel
theorem dX6_endOf_35 : decode cX6_endOf 35 = .ok (.iload 4, 2) := by decide +kernel
theorem dX6_endOf_37 : decode cX6_endOf 37 = .ok (.aload_n 1, 1) := by decide +kernel
theorem dX6_endOf_38 : decode cX6_endOf 38 = .ok (.iload_n 2, 1) := by decide +kernel
theorem dX6_endOf_39 : decode cX6_endOf 39 = .ok (.iconst 1, 1) := by decide +kernel
theorem dX6_endOf_40 : decode cX6_endOf 40 = .ok (.invokevirtual 91, 3) := by decide +kernel
theorem dX6_endOf_43 : decode cX6_endOf 43 = .ok (.iadd, 1) := by decide +kernel
theorem dX6_endOf_44 : decode cX6_endOf 44 = .ok (.iconst 1, 1) := by decide +kernel
theorem dX6_endOf_45 : decode cX6_endOf 45 = .ok (.isub, 1) := by decide +kernel
theorem dX6_endOf_46 : decode cX6_endOf 46 = .ok (.ireturn, 1) := by decide +kernel
theorem dX6_fillEarly_0 : decode cX6_fillEarly 0 = .ok (.aload_n 0, 1) := by decide +kernel
theorem dX6_fillEarly_1 : decode cX6_fillEarly 1 = .ok (.getfield 21, 3) := by decide +kernel
theorem dX6_fillEarly_4 : decode cX6_fillEarly 4 = .ok (.sipush 1000, 3) := by decide +kernel
theorem dX6_fillEarly_7 : decode cX6_fillEarly 7 = .ok (.invokestatic 94, 3) := by decide +kernel
theorem dX6_fillEarly_10 : decode cX6_fillEarly 10 = .ok (.iconst 0, 1) := by decide +kernel
theorem dX6_fillEarly_11 : decode cX6_fillEarly 11 = .ok (.istore_n 2, 1) := by decide +kernel
theorem dX6_fillEarly_12 : decode cX6_fillEarly 12 = .ok (.iload_n 2, 1) := by decide +kernel
theorem dX6_fillEarly_13 : decode cX6_fillEarly 13 = .ok (.aload_n 1, 1) := by decide +kernel
theorem dX6_fillEarly_14 : decode cX6_fillEarly 14 = .ok (.getfield 65, 3) := by decide +kernel
theorem dX6_fillEarly_17 : decode cX6_fillEarly 17 = .ok (.if_icmp .ge 29, 3) := by decide +kernel
theorem dX6_fillEarly_20 : decode cX6_fillEarly 20 = .ok (.aload_n 0, 1) := by decide +kernel
theorem dX6_fillEarly_21 : decode cX6_fillEarly 21 = .ok (.getfield 21, 3) := by decide +kernel
theorem dX6_fillEarly_24 : decode cX6_fillEarly 24 = .ok (.iconst 1, 1) := by decide +kernel
theorem dX6_fillEarly_25 : decode cX6_fillEarly 25 = .ok (.iload_n 2, 1) := by decide +kernel
theorem dX6_fillEarly_26 : decode cX6_fillEarly 26 = .ok (.ishl, 1) := by decide +kernel
theorem dX6_fillEarly_27 : decode cX6_fillEarly 27 = .ok (.bipush 8, 2) := by decide +kernel
theorem dX6_fillEarly_29 : decode cX6_fillEarly 29 = .ok (.imul, 1) := by decide +kernel
theorem dX6_fillEarly_30 : decode cX6_fillEarly 30 = .ok (.iload_n 2, 1) := by decide +kernel
theorem dX6_fillEarly_31 : decode cX6_fillEarly 31 = .ok (.iadd, 1) := by decide +kernel
theorem dX6_fillEarly_32 : decode cX6_fillEarly 32 = .ok (.aload_n 0, 1) := by decide +kernel
theorem dX6_fillEarly_33 : decode cX6_fillEarly 33 = .ok (.aload_n 1, 1) := by decide +kernel
theorem dX6_fillEarly_34 : decode cX6_fillEarly 34 = .ok (.iload_n 2, 1) := by decide +kernel
theorem dX6_fillEarly_35 : decode cX6_fillEarly 35 = .ok (.iconst 0, 1) := by decide +kernel
theorem dX6_fillEarly_36 : decode cX6_fillEarly 36 = .ok (.invokevirtual 100, 3) := by decide +kernel
theorem dX6_fillEarly_39 : decode cX6_fillEarly 39 = .ok (.iastore, 1) := by decide +kernel
theorem dX6_fillEarly_40 : decode cX6_fillEarly 40 = .ok (.iinc 2 1, 3) := by decide +kernel
theorem dX6_fillEarly_43 : decode cX6_fillEarly 43 = .ok (.goto (-31), 3) := by decide +kernel
theorem dX6_fillEarly_46 : decode cX6_fillEarly 46 = .ok (.iconst 1, 1) := by decide +kernel
theorem dX6_fillEarly_47 : decode cX6_fillEarly 47 = .ok (.istore_n 2, 1) := by decide +kernel
theorem dX6_fillEarly_48 : decode cX6_fillEarly 48 = .ok (.iload_n 2, 1) := by decide +kernel
theorem dX6_fillEarly_49 : decode cX6_fillEarly 49 = .ok (.iconst 1, 1) := by decide +kernel
theorem dX6_fillEarly_50 : decode cX6_fillEarly 50 = .ok (.aload_n 1, 1) := by decide +kernel
theorem dX6_fillEarly_51 : decode cX6_fillEarly 51 = .ok (.getfield 65, 3) := by decide +kernel
theorem dX6_fillEarly_54 : decode cX6_fillEarly 54 = .ok (.ishl, 1) := by decide +kernel
theorem dX6_fillEarly_55 : decode cX6_fillEarly 55 = .ok (.if_icmp .ge 49, 3) := by decide +kernel
theorem dX6_fillEarly_58 : decode cX6_fillEarly 58 = .ok (.iconst 0, 1) := by decide +kernel
theorem dX6_fillEarly_59 : decode cX6_fillEarly 59 = .ok (.istore_n 3, 1) := by decide +kernel
theorem dX6_fillEarly_60 : decode cX6_fillEarly 60 = .ok (.iload_n 3, 1) := by decide +kernel
theorem dX6_fillEarly_61 : decode cX6_fillEarly 61 = .ok (.aload_n 1, 1) := by decide +kernel
theorem dX6_fillEarly_62 : decode cX6_fillEarly 62 = .ok (.getfield 65, 3) := by decide +kernel
theorem dX6_fillEarly_65 : decode cX6_fillEarly 65 = .ok (.if_icmp .ge 33, 3) := by decide +kernel
theorem dX6_fillEarly_68 : decode cX6_fillEarly 68 = .ok (.aload_n 0, 1) := by decide +kernel
theorem dX6_fillEarly_69 : decode cX6_fillEarly 69 = .ok (.getfield 21, 3) := by decide +kernel
theorem dX6_fillEarly_72 : decode cX6_fillEarly 72 = .ok (.iload_n 2, 1) := by decide +kernel
theorem dX6_fillEarly_73 : decode cX6_fillEarly 73 = .ok (.bipush 8, 2) := by decide +kernel
theorem dX6_fillEarly_75 : decode cX6_fillEarly 75 = .ok (.imul, 1) := by decide +kernel
theorem dX6_fillEarly_76 : decode cX6_fillEarly 76 = .ok (.iload_n 3, 1) := by decide +kernel
theorem dX6_fillEarly_77 : decode cX6_fillEarly 77 = .ok (.iadd, 1) := by decide +kernel
theorem dX6_fillEarly_78 : decode cX6_fillEarly 78 = .ok (.iaload, 1) := by decide +kernel
theorem dX6_fillEarly_79 : decode cX6_fillEarly 79 = .ok (.sipush 1000, 3) := by decide +kernel
theorem dX6_fillEarly_82 : decode cX6_fillEarly 82 = .ok (.if_icmp .eq 10, 3) := by decide +kernel
theorem dX6_fillEarly_85 : decode cX6_fillEarly 85 = .ok (.aload_n 0, 1) := by decide +kernel
theorem dX6_fillEarly_86 : decode cX6_fillEarly 86 = .ok (.aload_n 1, 1) := by decide +kernel
theorem dX6_fillEarly_87 : decode cX6_fillEarly 87 = .ok (.iload_n 2, 1) := by decide +kernel
theorem dX6_fillEarly_88 : decode cX6_fillEarly 88 = .ok (.iload_n 3, 1) := by decide +kernel
theorem dX6_fillEarly_89 : decode cX6_fillEarly 89 = .ok (.invokevirtual 104, 3) := by decide +kernel
theorem dX6_fillEarly_92 : decode cX6_fillEarly 92 = .ok (.iinc 3 1, 3) := by decide +kernel
theorem dX6_fillEarly_95 : decode cX6_fillEarly 95 = .ok (.goto (-35), 3) := by decide +kernel
theorem dX6_fillEarly_98 : decode cX6_fillEarly 98 = .ok (.iinc 2 1, 3) := by decide +kernel
theorem dX6_fillEarly_101 : decode cX6_fillEarly 101 = .ok (.goto (-53), 3) := by decide +kernel
theorem dX6_fillEarly_104 : decode cX6_fillEarly 104 = .ok (.return_, 1) := by decide +kernel
theorem dX6_goOn_0 : decode cX6_goOn 0 = .ok (.aload_n 0, 1) := by decide +kernel
theorem dX6_goOn_1 : decode cX6_goOn 1 = .ok (.getfield 21, 3) := by decide +kernel
theorem dX6_goOn_4 : decode cX6_goOn 4 = .ok (.iload_n 2, 1) := by decide +kernel
theorem dX6_goOn_5 : decode cX6_goOn 5 = .ok (.bipush 8, 2) := by decide +kernel
theorem dX6_goOn_7 : decode cX6_goOn 7 = .ok (.imul, 1) := by decide +kernel
theorem dX6_goOn_8 : decode cX6_goOn 8 = .ok (.iload_n 3, 1) := by decide +kernel
theorem dX6_goOn_9 : decode cX6_goOn 9 = .ok (.iadd, 1) := by decide +kernel
theorem dX6_goOn_10 : decode cX6_goOn 10 = .ok (.iaload, 1) := by decide +kernel
theorem dX6_goOn_11 : decode cX6_goOn 11 = .ok (.istore 4, 2) := by decide +kernel
theorem dX6_goOn_13 : decode cX6_goOn 13 = .ok (.iconst 0, 1) := by decide +kernel
theorem dX6_goOn_14 : decode cX6_goOn 14 = .ok (.istore 5, 2) := by decide +kernel
theorem dX6_goOn_16 : decode cX6_goOn 16 = .ok (.iload 5, 2) := by decide +kernel
theorem dX6_goOn_18 : decode cX6_goOn 18 = .ok (.aload_n 1, 1) := by decide +kernel
theorem dX6_goOn_19 : decode cX6_goOn 19 = .ok (.getfield 65, 3) := by decide +kernel
theorem dX6_goOn_22 : decode cX6_goOn 22 = .ok (.if_icmp .ge 68, 3) := by decide +kernel
theorem dX6_goOn_25 : decode cX6_goOn 25 = .ok (.iload_n 2, 1) := by decide +kernel
theorem dX6_goOn_26 : decode cX6_goOn 26 = .ok (.iload 5, 2) := by decide +kernel
theorem dX6_goOn_28 : decode cX6_goOn 28 = .ok (.ishr, 1) := by decide +kernel
theorem dX6_goOn_29 : decode cX6_goOn 29 = .ok (.iconst 1, 1) := by decide +kernel
theorem dX6_goOn_30 : decode cX6_goOn 30 = .ok (.iand, 1) := by decide +kernel
theorem dX6_goOn_31 : decode cX6_goOn 31 = .ok (.ifCond .ne 53, 3) := by decide +kernel
theorem dX6_goOn_34 : decode cX6_goOn 34 = .ok (.iload_n 2, 1) := by decide +kernel
theorem dX6_goOn_35 : decode cX6_goOn 35 = .ok (.iconst 1, 1) := by decide +kernel
theorem dX6_goOn_36 : decode cX6_goOn 36 = .ok (.iload 5, 2) := by decide +kernel
theorem dX6_goOn_38 : decode cX6_goOn 38 = .ok (.ishl, 1) := by decide +kernel
theorem dX6_goOn_39 : decode cX6_goOn 39 = .ok (.ior, 1) := by decide +kernel
theorem dX6_goOn_40 : decode cX6_goOn 40 = .ok (.bipush 8, 2) := by decide +kernel
theorem dX6_goOn_42 : decode cX6_goOn 42 = .ok (.imul, 1) := by decide +kernel
theorem dX6_goOn_43 : decode cX6_goOn 43 = .ok (.iload 5, 2) := by decide +kernel
theorem dX6_goOn_45 : decode cX6_goOn 45 = .ok (.iadd, 1) := by decide +kernel
theorem dX6_goOn_46 : decode cX6_goOn 46 = .ok (.istore 6, 2) := by decide +kernel
theorem dX6_goOn_48 : decode cX6_goOn 48 = .ok (.aload_n 0, 1) := by decide +kernel
theorem dX6_goOn_49 : decode cX6_goOn 49 = .ok (.getfield 21, 3) := by decide +kernel
theorem dX6_goOn_52 : decode cX6_goOn 52 = .ok (.iload 6, 2) := by decide +kernel
theorem dX6_goOn_54 : decode cX6_goOn 54 = .ok (.aload_n 0, 1) := by decide +kernel
theorem dX6_goOn_55 : decode cX6_goOn 55 = .ok (.getfield 21, 3) := by decide +kernel
theorem dX6_goOn_58 : decode cX6_goOn 58 = .ok (.iload 6, 2) := by decide +kernel
theorem dX6_goOn_60 : decode cX6_goOn 60 = .ok (.iaload, 1) := by decide +kernel
theorem dX6_goOn_61 : decode cX6_goOn 61 = .ok (.aload_n 0, 1) := by decide +kernel
theorem dX6_goOn_62 : decode cX6_goOn 62 = .ok (.aload_n 1, 1) := by decide +kernel
theorem dX6_goOn_63 : decode cX6_goOn 63 = .ok (.iload 5, 2) := by decide +kernel
theorem dX6_goOn_65 : decode cX6_goOn 65 = .ok (.iload 4, 2) := by decide +kernel
theorem dX6_goOn_67 : decode cX6_goOn 67 = .ok (.iconst 1, 1) := by decide +kernel
theorem dX6_goOn_68 : decode cX6_goOn 68 = .ok (.iadd, 1) := by decide +kernel
theorem dX6_goOn_69 : decode cX6_goOn 69 = .ok (.aload_n 1, 1) := by decide +kernel
theorem dX6_goOn_70 : decode cX6_goOn 70 = .ok (.iload_n 3, 1) := by decide +kernel
theorem dX6_goOn_71 : decode cX6_goOn 71 = .ok (.iload 5, 2) := by decide +kernel
theorem dX6_goOn_73 : decode cX6_goOn 73 = .ok (.invokestatic 108, 3) := by decide +kernel
theorem dX6_goOn_76 : decode cX6_goOn 76 = .ok (.iadd, 1) := by decide +kernel
theorem dX6_goOn_77 : decode cX6_goOn 77 = .ok (.invokevirtual 100, 3) := by decide +kernel
theorem dX6_goOn_80 : decode cX6_goOn 80 = .ok (.invokestatic 111, 3) := by decide +kernel
theorem dX6_goOn_83 : decode cX6_goOn 83 = .ok (.iastore, 1) := by decide +kernel
theorem dX6_goOn_84 : decode cX6_goOn 84 = .ok (.iinc 5 1, 3) := by decide +kernel
theorem dX6_goOn_87 : decode cX6_goOn 87 = .ok (.goto (-71), 3) := by decide +kernel
theorem dX6_goOn_90 : decode cX6_goOn 90 = .ok (.return_, 1) := by decide +kernel
theorem dX6_travel_0 : decode cX6_travel 0 = .ok (.aload_n 0, 1) := by decide +kernel
theorem dX6_travel_1 : decode cX6_travel 1 = .ok (.aload_n 0, 1) := by decide +kernel
theorem dX6_travel_2 : decode cX6_travel 2 = .ok (.iload_n 1, 1) := by decide +kernel
theorem dX6_travel_3 : decode cX6_travel 3 = .ok (.iconst 0, 1) := by decide +kernel
theorem dX6_travel_4 : decode cX6_travel 4 = .ok (.invokevirtual 91, 3) := by decide +kernel
theorem dX6_travel_7 : decode cX6_travel 7 = .ok (.aload_n 0, 1) := by decide +kernel
theorem dX6_travel_8 : decode cX6_travel 8 = .ok (.iload_n 2, 1) := by decide +kernel
theorem dX6_travel_9 : decode cX6_travel 9 = .ok (.iconst 0, 1) := by decide +kernel
theorem dX6_travel_10 : decode cX6_travel 10 = .ok (.invokevirtual 91, 3) := by decide +kernel
theorem dX6_travel_13 : decode cX6_travel 13 = .ok (.invokevirtual 116, 3) := by decide +kernel
theorem dX6_travel_16 : decode cX6_travel 16 = .ok (.ireturn, 1) := by decide +kernel
theorem dX6_findBest_0 : decode cX6_findBest 0 = .ok (.aload_n 0, 1) := by decide +kernel
theorem dX6_findBest_1 : decode cX6_findBest 1 = .ok (.iconst 0, 1) := by decide +kernel
theorem dX6_findBest_2 : decode cX6_findBest 2 = .ok (.putfield 55, 3) := by decide +kernel
theorem dX6_findBest_5 : decode cX6_findBest 5 = .ok (.aload_n 0, 1) := by decide +kernel
theorem dX6_findBest_6 : decode cX6_findBest 6 = .ok (.iconst (-1), 1) := by decide +kernel
theorem dX6_findBest_7 : decode cX6_findBest 7 = .ok (.putfield 52, 3) := by decide +kernel
theorem dX6_findBest_10 : decode cX6_findBest 10 = .ok (.aload_n 0, 1) := by decide +kernel
theorem dX6_findBest_11 : decode cX6_findBest 11 = .ok (.getfield 18, 3) := by decide +kernel
theorem dX6_findBest_14 : decode cX6_findBest 14 = .ok (.iconst 0, 1) := by decide +kernel
theorem dX6_findBest_15 : decode cX6_findBest 15 = .ok (.iconst 0, 1) := by decide +kernel
theorem dX6_findBest_16 : decode cX6_findBest 16 = .ok (.iastore, 1) := by decide +kernel
theorem dX6_findBest_17 : decode cX6_findBest 17 = .ok (.iconst 1, 1) := by decide +kernel
theorem dX6_findBest_18 : decode cX6_findBest 18 = .ok (.istore_n 2, 1) := by decide +kernel
theorem dX6_findBest_19 : decode cX6_findBest 19 = .ok (.iload_n 2, 1) := by decide +kernel
theorem dX6_findBest_20 : decode cX6_findBest 20 = .ok (.iconst 1, 1) := by decide +kernel
theorem dX6_findBest_21 : decode cX6_findBest 21 = .ok (.aload_n 1, 1) := by decide +kernel
theorem dX6_findBest_22 : decode cX6_findBest 22 = .ok (.getfield 65, 3) := by decide +kernel
theorem dX6_findBest_25 : decode cX6_findBest 25 = .ok (.ishl, 1) := by decide +kernel
theorem dX6_findBest_26 : decode cX6_findBest 26 = .ok (.if_icmp .ge 136, 3) := by decide +kernel
theorem dX6_findBest_29 : decode cX6_findBest 29 = .ok (.aload_n 0, 1) := by decide +kernel
theorem dX6_findBest_30 : decode cX6_findBest 30 = .ok (.getfield 18, 3) := by decide +kernel
theorem dX6_findBest_33 : decode cX6_findBest 33 = .ok (.iload_n 2, 1) := by decide +kernel
theorem dX6_findBest_34 : decode cX6_findBest 34 = .ok (.iconst 0, 1) := by decide +kernel
theorem dX6_findBest_35 : decode cX6_findBest 35 = .ok (.iastore, 1) := by decide +kernel
theorem dX6_findBest_36 : decode cX6_findBest 36 = .ok (.sipush 1000, 3) := by decide +kernel
theorem dX6_findBest_39 : decode cX6_findBest 39 = .ok (.istore_n 3, 1) := by decide +kernel
theorem dX6_findBest_40 : decode cX6_findBest 40 = .ok (.iconst 0, 1) := by decide +kernel
theorem dX6_findBest_41 : decode cX6_findBest 41 = .ok (.istore 4, 2) := by decide +kernel
theorem dX6_findBest_43 : decode cX6_findBest 43 = .ok (.iload 4, 2) := by decide +kernel
theorem dX6_findBest_45 : decode cX6_findBest 45 = .ok (.aload_n 1, 1) := by decide +kernel
theorem dX6_findBest_46 : decode cX6_findBest 46 = .ok (.getfield 65, 3) := by decide +kernel
theorem dX6_findBest_49 : decode cX6_findBest 49 = .ok (.if_icmp .ge 51, 3) := by decide +kernel
theorem dX6_findBest_52 : decode cX6_findBest 52 = .ok (.iload_n 2, 1) := by decide +kernel
theorem dX6_findBest_53 : decode cX6_findBest 53 = .ok (.iload 4, 2) := by decide +kernel
theorem dX6_findBest_55 : decode cX6_findBest 55 = .ok (.ishr, 1) := by decide +kernel
theorem dX6_findBest_56 : decode cX6_findBest 56 = .ok (.iconst 1, 1) := by decide +kernel
theorem dX6_findBest_57 : decode cX6_findBest 57 = .ok (.iand, 1) := by decide +kernel
theorem dX6_findBest_58 : decode cX6_findBest 58 = .ok (.ifCond .eq 36, 3) := by decide +kernel
theorem dX6_findBest_61 : decode cX6_findBest 61 = .ok (.aload_n 0, 1) := by decide +kernel
theorem dX6_findBest_62 : decode cX6_findBest 62 = .ok (.getfield 18, 3) := by decide +kernel
theorem dX6_findBest_65 : decode cX6_findBest 65 = .ok (.iload_n 2, 1) := by decide +kernel
theorem dX6_findBest_66 : decode cX6_findBest 66 = .ok (.dup2, 1) := by decide +kernel
theorem dX6_findBest_67 : decode cX6_findBest 67 = .ok (.iaload, 1) := by decide +kernel
theorem dX6_findBest_68 : decode cX6_findBest 68 = .ok (.aload_n 1, 1) := by decide +kernel
theorem dX6_findBest_69 : decode cX6_findBest 69 = .ok (.iload 4, 2) := by decide +kernel
theorem dX6_findBest_71 : decode cX6_findBest 71 = .ok (.iconst 5, 1) := by decide +kernel
theorem dX6_findBest_72 : decode cX6_findBest 72 = .ok (.invokevirtual 91, 3) := by decide +kernel
theorem dX6_findBest_75 : decode cX6_findBest 75 = .ok (.iadd, 1) := by decide +kernel
theorem dX6_findBest_76 : decode cX6_findBest 76 = .ok (.iastore, 1) := by decide +kernel
theorem dX6_findBest_77 : decode cX6_findBest 77 = .ok (.iload_n 3, 1) := by decide +kernel
theorem dX6_findBest_78 : decode cX6_findBest 78 = .ok (.aload_n 0, 1) := by decide +kernel
theorem dX6_findBest_79 : decode cX6_findBest 79 = .ok (.getfield 21, 3) := by decide +kernel
theorem dX6_findBest_82 : decode cX6_findBest 82 = .ok (.iload_n 2, 1) := by decide +kernel
theorem dX6_findBest_83 : decode cX6_findBest 83 = .ok (.bipush 8, 2) := by decide +kernel
theorem dX6_findBest_85 : decode cX6_findBest 85 = .ok (.imul, 1) := by decide +kernel
theorem dX6_findBest_86 : decode cX6_findBest 86 = .ok (.iload 4, 2) := by decide +kernel
theorem dX6_findBest_88 : decode cX6_findBest 88 = .ok (.iadd, 1) := by decide +kernel
theorem dX6_findBest_89 : decode cX6_findBest 89 = .ok (.iaload, 1) := by decide +kernel
theorem dX6_findBest_90 : decode cX6_findBest 90 = .ok (.invokestatic 111, 3) := by decide +kernel
theorem dX6_findBest_93 : decode cX6_findBest 93 = .ok (.istore_n 3, 1) := by decide +kernel
theorem dX6_findBest_94 : decode cX6_findBest 94 = .ok (.iinc 4 1, 3) := by decide +kernel
theorem dX6_findBest_97 : decode cX6_findBest 97 = .ok (.goto (-54), 3) := by decide +kernel
theorem dX6_findBest_100 : decode cX6_findBest 100 = .ok (.iload_n 3, 1) := by decide +kernel
theorem dX6_findBest_101 : decode cX6_findBest 101 = .ok (.sipush 1000, 3) := by decide +kernel
theorem dX6_findBest_104 : decode cX6_findBest 104 = .ok (.if_icmp .eq 52, 3) := by decide +kernel
theorem dX6_findBest_107 : decode cX6_findBest 107 = .ok (.aload_n 0, 1) := by decide +kernel
theorem dX6_findBest_108 : decode cX6_findBest 108 = .ok (.getfield 18, 3) := by decide +kernel
theorem dX6_findBest_111 : decode cX6_findBest 111 = .ok (.iload_n 2, 1) := by decide +kernel
theorem dX6_findBest_112 : decode cX6_findBest 112 = .ok (.iaload, 1) := by decide +kernel
theorem dX6_findBest_113 : decode cX6_findBest 113 = .ok (.aload_n 0, 1) := by decide +kernel
theorem dX6_findBest_114 : decode cX6_findBest 114 = .ok (.getfield 55, 3) := by decide +kernel
theorem dX6_findBest_117 : decode cX6_findBest 117 = .ok (.if_icmp .gt 24, 3) := by decide +kernel
theorem dX6_findBest_120 : decode cX6_findBest 120 = .ok (.aload_n 0, 1) := by decide +kernel
theorem dX6_findBest_121 : decode cX6_findBest 121 = .ok (.getfield 18, 3) := by decide +kernel
theorem dX6_findBest_124 : decode cX6_findBest 124 = .ok (.iload_n 2, 1) := by decide +kernel
theorem dX6_findBest_125 : decode cX6_findBest 125 = .ok (.iaload, 1) := by decide +kernel
theorem dX6_findBest_126 : decode cX6_findBest 126 = .ok (.aload_n 0, 1) := by decide +kernel
theorem dX6_findBest_127 : decode cX6_findBest 127 = .ok (.getfield 55, 3) := by decide +kernel
theorem dX6_findBest_130 : decode cX6_findBest 130 = .ok (.if_icmp .ne 26, 3) := by decide +kernel
theorem dX6_findBest_133 : decode cX6_findBest 133 = .ok (.iload_n 3, 1) := by decide +kernel
theorem dX6_findBest_134 : decode cX6_findBest 134 = .ok (.aload_n 0, 1) := by decide +kernel
theorem dX6_findBest_135 : decode cX6_findBest 135 = .ok (.getfield 52, 3) := by decide +kernel
theorem dX6_findBest_138 : decode cX6_findBest 138 = .ok (.if_icmp .ge 18, 3) := by decide +kernel
theorem dX6_findBest_141 : decode cX6_findBest 141 = .ok (.aload_n 0, 1) := by decide +kernel
theorem dX6_findBest_142 : decode cX6_findBest 142 = .ok (.aload_n 0, 1) := by decide +kernel
theorem dX6_findBest_143 : decode cX6_findBest 143 = .ok (.getfield 18, 3) := by decide +kernel
theorem dX6_findBest_146 : decode cX6_findBest 146 = .ok (.iload_n 2, 1) := by decide +kernel
theorem dX6_findBest_147 : decode cX6_findBest 147 = .ok (.iaload, 1) := by decide +kernel
theorem dX6_findBest_148 : decode cX6_findBest 148 = .ok (.putfield 55, 3) := by decide +kernel
theorem dX6_findBest_151 : decode cX6_findBest 151 = .ok (.aload_n 0, 1) := by decide +kernel
theorem dX6_findBest_152 : decode cX6_findBest 152 = .ok (.iload_n 3, 1) := by decide +kernel
theorem dX6_findBest_153 : decode cX6_findBest 153 = .ok (.putfield 52, 3) := by decide +kernel
theorem dX6_findBest_156 : decode cX6_findBest 156 = .ok (.iinc 2 1, 3) := by decide +kernel
theorem dX6_findBest_159 : decode cX6_findBest 159 = .ok (.goto (-140), 3) := by decide +kernel
theorem dX6_findBest_162 : decode cX6_findBest 162 = .ok (.return_, 1) := by decide +kernel
theorem dX6_fillLate_0 : decode cX6_fillLate 0 = .ok (.iconst 1, 1) := by decide +kernel
theorem dX6_fillLate_1 : decode cX6_fillLate 1 = .ok (.aload_n 1, 1) := by decide +kernel
theorem dX6_fillLate_2 : decode cX6_fillLate 2 = .ok (.getfield 65, 3) := by decide +kernel
theorem dX6_fillLate_5 : decode cX6_fillLate 5 = .ok (.ishl, 1) := by decide +kernel
theorem dX6_fillLate_6 : decode cX6_fillLate 6 = .ok (.iconst 1, 1) := by decide +kernel
theorem dX6_fillLate_7 : decode cX6_fillLate 7 = .ok (.isub, 1) := by decide +kernel
theorem dX6_fillLate_8 : decode cX6_fillLate 8 = .ok (.istore_n 2, 1) := by decide +kernel
theorem dX6_fillLate_9 : decode cX6_fillLate 9 = .ok (.iload_n 2, 1) := by decide +kernel
theorem dX6_fillLate_10 : decode cX6_fillLate 10 = .ok (.ifCond .le 55, 3) := by decide +kernel
theorem dX6_fillLate_13 : decode cX6_fillLate 13 = .ok (.iconst 0, 1) := by decide +kernel
theorem dX6_fillLate_14 : decode cX6_fillLate 14 = .ok (.istore_n 3, 1) := by decide +kernel
theorem dX6_fillLate_15 : decode cX6_fillLate 15 = .ok (.iload_n 3, 1) := by decide +kernel
theorem dX6_fillLate_16 : decode cX6_fillLate 16 = .ok (.aload_n 1, 1) := by decide +kernel
theorem dX6_fillLate_17 : decode cX6_fillLate 17 = .ok (.getfield 65, 3) := by decide +kernel
theorem dX6_fillLate_20 : decode cX6_fillLate 20 = .ok (.if_icmp .ge 39, 3) := by decide +kernel
theorem dX6_fillLate_23 : decode cX6_fillLate 23 = .ok (.aload_n 0, 1) := by decide +kernel
theorem dX6_fillLate_24 : decode cX6_fillLate 24 = .ok (.getfield 24, 3) := by decide +kernel
theorem dX6_fillLate_27 : decode cX6_fillLate 27 = .ok (.iload_n 2, 1) := by decide +kernel
theorem dX6_fillLate_28 : decode cX6_fillLate 28 = .ok (.bipush 8, 2) := by decide +kernel
theorem dX6_fillLate_30 : decode cX6_fillLate 30 = .ok (.imul, 1) := by decide +kernel
theorem dX6_fillLate_31 : decode cX6_fillLate 31 = .ok (.iload_n 3, 1) := by decide +kernel
theorem dX6_fillLate_32 : decode cX6_fillLate 32 = .ok (.iadd, 1) := by decide +kernel
theorem dX6_fillLate_33 : decode cX6_fillLate 33 = .ok (.iload_n 2, 1) := by decide +kernel
theorem dX6_fillLate_34 : decode cX6_fillLate 34 = .ok (.iload_n 3, 1) := by decide +kernel
theorem dX6_fillLate_35 : decode cX6_fillLate 35 = .ok (.ishr, 1) := by decide +kernel
theorem dX6_fillLate_36 : decode cX6_fillLate 36 = .ok (.iconst 1, 1) := by decide +kernel
theorem dX6_fillLate_37 : decode cX6_fillLate 37 = .ok (.iand, 1) := by decide +kernel
theorem dX6_fillLate_38 : decode cX6_fillLate 38 = .ok (.ifCond .eq 13, 3) := by decide +kernel
theorem dX6_fillLate_41 : decode cX6_fillLate 41 = .ok (.aload_n 0, 1) := by decide +kernel
theorem dX6_fillLate_42 : decode cX6_fillLate 42 = .ok (.aload_n 1, 1) := by decide +kernel
theorem dX6_fillLate_43 : decode cX6_fillLate 43 = .ok (.iload_n 2, 1) := by decide +kernel
theorem dX6_fillLate_44 : decode cX6_fillLate 44 = .ok (.iload_n 3, 1) := by decide +kernel
theorem dX6_fillLate_45 : decode cX6_fillLate 45 = .ok (.invokevirtual 118, 3) := by decide +kernel
theorem dX6_fillLate_48 : decode cX6_fillLate 48 = .ok (.goto 4, 3) := by decide +kernel
theorem dX6_fillLate_51 : decode cX6_fillLate 51 = .ok (.iconst (-1), 1) := by decide +kernel
theorem dX6_fillLate_52 : decode cX6_fillLate 52 = .ok (.iastore, 1) := by decide +kernel
theorem dX6_fillLate_53 : decode cX6_fillLate 53 = .ok (.iinc 3 1, 3) := by decide +kernel
theorem dX6_fillLate_56 : decode cX6_fillLate 56 = .ok (.goto (-41), 3) := by decide +kernel
theorem dX6_fillLate_59 : decode cX6_fillLate 59 = .ok (.iinc 2 (-1), 3) := by decide +kernel
theorem dX6_fillLate_62 : decode cX6_fillLate 62 = .ok (.goto (-53), 3) := by decide +kernel
theorem dX6_fillLate_65 : decode cX6_fillLate 65 = .ok (.return_, 1) := by decide +kernel
theorem dX6_latestEnd_0 : decode cX6_latestEnd 0 = .ok (.aload_n 0, 1) := by decide +kernel
theorem dX6_latestEnd_1 : decode cX6_latestEnd 1 = .ok (.getfield 18, 3) := by decide +kernel
theorem dX6_latestEnd_4 : decode cX6_latestEnd 4 = .ok (.iload_n 2, 1) := by decide +kernel
theorem dX6_latestEnd_5 : decode cX6_latestEnd 5 = .ok (.iaload, 1) := by decide +kernel
theorem dX6_latestEnd_6 : decode cX6_latestEnd 6 = .ok (.aload_n 0, 1) := by decide +kernel
theorem dX6_latestEnd_7 : decode cX6_latestEnd 7 = .ok (.getfield 55, 3) := by decide +kernel
theorem dX6_latestEnd_10 : decode cX6_latestEnd 10 = .ok (.if_icmp .ne 10, 3) := by decide +kernel
theorem dX6_latestEnd_13 : decode cX6_latestEnd 13 = .ok (.aload_n 0, 1) := by decide +kernel
theorem dX6_latestEnd_14 : decode cX6_latestEnd 14 = .ok (.getfield 52, 3) := by decide +kernel
theorem dX6_latestEnd_17 : decode cX6_latestEnd 17 = .ok (.goto 4, 3) := by decide +kernel
theorem dX6_latestEnd_20 : decode cX6_latestEnd 20 = .ok (.iconst (-1), 1) := by decide +kernel
theorem dX6_latestEnd_21 : decode cX6_latestEnd 21 = .ok (.istore 4, 2) := by decide +kernel
theorem dX6_latestEnd_23 : decode cX6_latestEnd 23 = .ok (.iconst 0, 1) := by decide +kernel
theorem dX6_latestEnd_24 : decode cX6_latestEnd 24 = .ok (.istore 5, 2) := by decide +kernel
theorem dX6_latestEnd_26 : decode cX6_latestEnd 26 = .ok (.iload 5, 2) := by decide +kernel
theorem dX6_latestEnd_28 : decode cX6_latestEnd 28 = .ok (.aload_n 1, 1) := by decide +kernel
theorem dX6_latestEnd_29 : decode cX6_latestEnd 29 = .ok (.getfield 65, 3) := by decide +kernel
theorem dX6_latestEnd_32 : decode cX6_latestEnd 32 = .ok (.if_icmp .ge 96, 3) := by decide +kernel
theorem dX6_latestEnd_35 : decode cX6_latestEnd 35 = .ok (.iload_n 2, 1) := by decide +kernel
theorem dX6_latestEnd_36 : decode cX6_latestEnd 36 = .ok (.iload 5, 2) := by decide +kernel
theorem dX6_latestEnd_38 : decode cX6_latestEnd 38 = .ok (.ishr, 1) := by decide +kernel
theorem dX6_latestEnd_39 : decode cX6_latestEnd 39 = .ok (.iconst 1, 1) := by decide +kernel
theorem dX6_latestEnd_40 : decode cX6_latestEnd 40 = .ok (.iand, 1) := by decide +kernel
theorem dX6_latestEnd_41 : decode cX6_latestEnd 41 = .ok (.ifCond .ne 81, 3) := by decide +kernel
theorem dX6_latestEnd_44 : decode cX6_latestEnd 44 = .ok (.aload_n 0, 1) := by decide +kernel
theorem dX6_latestEnd_45 : decode cX6_latestEnd 45 = .ok (.getfield 24, 3) := by decide +kernel
theorem dX6_latestEnd_48 : decode cX6_latestEnd 48 = .ok (.iload_n 2, 1) := by decide +kernel
theorem dX6_latestEnd_49 : decode cX6_latestEnd 49 = .ok (.iconst 1, 1) := by decide +kernel
theorem dX6_latestEnd_50 : decode cX6_latestEnd 50 = .ok (.iload 5, 2) := by decide +kernel
theorem dX6_latestEnd_52 : decode cX6_latestEnd 52 = .ok (.ishl, 1) := by decide +kernel
theorem dX6_latestEnd_53 : decode cX6_latestEnd 53 = .ok (.ior, 1) := by decide +kernel
theorem dX6_latestEnd_54 : decode cX6_latestEnd 54 = .ok (.bipush 8, 2) := by decide +kernel
theorem dX6_latestEnd_56 : decode cX6_latestEnd 56 = .ok (.imul, 1) := by decide +kernel
theorem dX6_latestEnd_57 : decode cX6_latestEnd 57 = .ok (.iload 5, 2) := by decide +kernel
theorem dX6_latestEnd_59 : decode cX6_latestEnd 59 = .ok (.iadd, 1) := by decide +kernel
theorem dX6_latestEnd_60 : decode cX6_latestEnd 60 = .ok (.iaload, 1) := by decide +kernel
theorem dX6_latestEnd_61 : decode cX6_latestEnd 61 = .ok (.aload_n 1, 1) := by decide +kernel
theorem dX6_latestEnd_62 : decode cX6_latestEnd 62 = .ok (.iload 5, 2) := by decide +kernel
theorem dX6_latestEnd_64 : decode cX6_latestEnd 64 = .ok (.iconst 1, 1) := by decide +kernel
theorem dX6_latestEnd_65 : decode cX6_latestEnd 65 = .ok (.invokevirtual 91, 3) := by decide +kernel
theorem dX6_latestEnd_68 : decode cX6_latestEnd 68 = .ok (.isub, 1) := by decide +kernel
theorem dX6_latestEnd_69 : decode cX6_latestEnd 69 = .ok (.iconst 1, 1) := by decide +kernel
theorem dX6_latestEnd_70 : decode cX6_latestEnd 70 = .ok (.iadd, 1) := by decide +kernel
theorem dX6_latestEnd_71 : decode cX6_latestEnd 71 = .ok (.istore 6, 2) := by decide +kernel
theorem dX6_latestEnd_73 : decode cX6_latestEnd 73 = .ok (.iload 6, 2) := by decide +kernel
theorem dX6_latestEnd_75 : decode cX6_latestEnd 75 = .ok (.ifCond .ge 7, 3) := by decide +kernel
theorem dX6_latestEnd_78 : decode cX6_latestEnd 78 = .ok (.iconst (-1), 1) := by decide +kernel
theorem dX6_latestEnd_79 : decode cX6_latestEnd 79 = .ok (.goto 16, 3) := by decide +kernel
theorem dX6_latestEnd_82 : decode cX6_latestEnd 82 = .ok (.aload_n 0, 1) := by decide +kernel
theorem dX6_latestEnd_83 : decode cX6_latestEnd 83 = .ok (.getfield 15, 3) := by decide +kernel
theorem dX6_latestEnd_86 : decode cX6_latestEnd 86 = .ok (.iload 5, 2) := by decide +kernel
theorem dX6_latestEnd_88 : decode cX6_latestEnd 88 = .ok (.bipush 31, 2) := by decide +kernel
theorem dX6_latestEnd_90 : decode cX6_latestEnd 90 = .ok (.imul, 1) := by decide +kernel
theorem dX6_latestEnd_91 : decode cX6_latestEnd 91 = .ok (.iload 6, 2) := by decide +kernel
theorem dX6_latestEnd_93 : decode cX6_latestEnd 93 = .ok (.iadd, 1) := by decide +kernel
theorem dX6_latestEnd_94 : decode cX6_latestEnd 94 = .ok (.iaload, 1) := by decide +kernel
theorem dX6_latestEnd_95 : decode cX6_latestEnd 95 = .ok (.istore 7, 2) := by decide +kernel
theorem dX6_latestEnd_97 : decode cX6_latestEnd 97 = .ok (.iload 7, 2) := by decide +kernel
theorem dX6_latestEnd_99 : decode cX6_latestEnd 99 = .ok (.iconst (-1), 1) := by decide +kernel
theorem dX6_latestEnd_100 : decode cX6_latestEnd 100 = .ok (.if_icmp .eq 22, 3) := by decide +kernel
theorem dX6_latestEnd_103 : decode cX6_latestEnd 103 = .ok (.iload 4, 2) := by decide +kernel
theorem dX6_latestEnd_105 : decode cX6_latestEnd 105 = .ok (.iload 7, 2) := by decide +kernel
theorem dX6_latestEnd_107 : decode cX6_latestEnd 107 = .ok (.iconst 1, 1) := by decide +kernel
theorem dX6_latestEnd_108 : decode cX6_latestEnd 108 = .ok (.isub, 1) := by decide +kernel
theorem dX6_latestEnd_109 : decode cX6_latestEnd 109 = .ok (.aload_n 1, 1) := by decide +kernel
theorem dX6_latestEnd_110 : decode cX6_latestEnd 110 = .ok (.iload_n 3, 1) := by decide +kernel
theorem dX6_latestEnd_111 : decode cX6_latestEnd 111 = .ok (.iload 5, 2) := by decide +kernel
theorem dX6_latestEnd_113 : decode cX6_latestEnd 113 = .ok (.invokestatic 108, 3) := by decide +kernel
theorem dX6_latestEnd_116 : decode cX6_latestEnd 116 = .ok (.isub, 1) := by decide +kernel
theorem dX6_latestEnd_117 : decode cX6_latestEnd 117 = .ok (.invokestatic 121, 3) := by decide +kernel
theorem dX6_latestEnd_120 : decode cX6_latestEnd 120 = .ok (.istore 4, 2) := by decide +kernel
theorem dX6_latestEnd_122 : decode cX6_latestEnd 122 = .ok (.iinc 5 1, 3) := by decide +kernel
theorem dX6_latestEnd_125 : decode cX6_latestEnd 125 = .ok (.goto (-99), 3) := by decide +kernel
theorem dX6_latestEnd_128 : decode cX6_latestEnd 128 = .ok (.iload 4, 2) := by decide +kernel
theorem dX6_latestEnd_130 : decode cX6_latestEnd 130 = .ok (.ireturn, 1) := by decide +kernel
theorem dX6_fillRow_0 : decode cX6_fillRow 0 = .ok (.aload_n 0, 1) := by decide +kernel
theorem dX6_fillRow_1 : decode cX6_fillRow 1 = .ok (.iconst 0, 1) := by decide +kernel
theorem dX6_fillRow_2 : decode cX6_fillRow 2 = .ok (.putfield 49, 3) := by decide +kernel
theorem dX6_fillRow_5 : decode cX6_fillRow 5 = .ok (.iconst 0, 1) := by decide +kernel
theorem dX6_fillRow_6 : decode cX6_fillRow 6 = .ok (.istore_n 2, 1) := by decide +kernel
theorem dX6_fillRow_7 : decode cX6_fillRow 7 = .ok (.iconst 0, 1) := by decide +kernel
theorem dX6_fillRow_8 : decode cX6_fillRow 8 = .ok (.istore_n 3, 1) := by decide +kernel
theorem dX6_fillRow_9 : decode cX6_fillRow 9 = .ok (.iconst 0, 1) := by decide +kernel
theorem dX6_fillRow_10 : decode cX6_fillRow 10 = .ok (.istore 4, 2) := by decide +kernel
theorem dX6_fillRow_12 : decode cX6_fillRow 12 = .ok (.iload 4, 2) := by decide +kernel
theorem dX6_fillRow_14 : decode cX6_fillRow 14 = .ok (.aload_n 1, 1) := by decide +kernel
theorem dX6_fillRow_15 : decode cX6_fillRow 15 = .ok (.getfield 65, 3) := by decide +kernel
theorem dX6_fillRow_18 : decode cX6_fillRow 18 = .ok (.if_icmp .ge 109, 3) := by decide +kernel
theorem dX6_fillRow_21 : decode cX6_fillRow 21 = .ok (.aload_n 0, 1) := by decide +kernel
theorem dX6_fillRow_22 : decode cX6_fillRow 22 = .ok (.getfield 18, 3) := by decide +kernel
theorem dX6_fillRow_25 : decode cX6_fillRow 25 = .ok (.iload_n 2, 1) := by decide +kernel
theorem dX6_fillRow_26 : decode cX6_fillRow 26 = .ok (.iaload, 1) := by decide +kernel
theorem dX6_fillRow_27 : decode cX6_fillRow 27 = .ok (.aload_n 0, 1) := by decide +kernel
theorem dX6_fillRow_28 : decode cX6_fillRow 28 = .ok (.getfield 55, 3) := by decide +kernel
theorem dX6_fillRow_31 : decode cX6_fillRow 31 = .ok (.if_icmp .eq 96, 3) := by decide +kernel
theorem dX6_fillRow_34 : decode cX6_fillRow 34 = .ok (.aload_n 0, 1) := by decide +kernel
theorem dX6_fillRow_35 : decode cX6_fillRow 35 = .ok (.aload_n 1, 1) := by decide +kernel
theorem dX6_fillRow_36 : decode cX6_fillRow 36 = .ok (.iload_n 2, 1) := by decide +kernel
theorem dX6_fillRow_37 : decode cX6_fillRow 37 = .ok (.iload_n 3, 1) := by decide +kernel
theorem dX6_fillRow_38 : decode cX6_fillRow 38 = .ok (.invokevirtual 124, 3) := by decide +kernel
theorem dX6_fillRow_41 : decode cX6_fillRow 41 = .ok (.istore 5, 2) := by decide +kernel
theorem dX6_fillRow_43 : decode cX6_fillRow 43 = .ok (.iload 5, 2) := by decide +kernel
theorem dX6_fillRow_45 : decode cX6_fillRow 45 = .ok (.iconst (-1), 1) := by decide +kernel
theorem dX6_fillRow_46 : decode cX6_fillRow 46 = .ok (.if_icmp .ne 4, 3) := by decide +kernel
theorem dX6_fillRow_49 : decode cX6_fillRow 49 = .ok (.return_, 1) := by decide +kernel
theorem dX6_fillRow_50 : decode cX6_fillRow 50 = .ok (.aload_n 0, 1) := by decide +kernel
theorem dX6_fillRow_51 : decode cX6_fillRow 51 = .ok (.aload_n 1, 1) := by decide +kernel
theorem dX6_fillRow_52 : decode cX6_fillRow 52 = .ok (.iload 5, 2) := by decide +kernel
theorem dX6_fillRow_54 : decode cX6_fillRow 54 = .ok (.aload_n 0, 1) := by decide +kernel
theorem dX6_fillRow_55 : decode cX6_fillRow 55 = .ok (.aload_n 1, 1) := by decide +kernel
theorem dX6_fillRow_56 : decode cX6_fillRow 56 = .ok (.iload 5, 2) := by decide +kernel
theorem dX6_fillRow_58 : decode cX6_fillRow 58 = .ok (.iload_n 3, 1) := by decide +kernel
theorem dX6_fillRow_59 : decode cX6_fillRow 59 = .ok (.invokevirtual 127, 3) := by decide +kernel
theorem dX6_fillRow_62 : decode cX6_fillRow 62 = .ok (.invokevirtual 100, 3) := by decide +kernel
theorem dX6_fillRow_65 : decode cX6_fillRow 65 = .ok (.istore 6, 2) := by decide +kernel
theorem dX6_fillRow_67 : decode cX6_fillRow 67 = .ok (.aload_n 0, 1) := by decide +kernel
theorem dX6_fillRow_68 : decode cX6_fillRow 68 = .ok (.getfield 40, 3) := by decide +kernel
theorem dX6_fillRow_71 : decode cX6_fillRow 71 = .ok (.aload_n 0, 1) := by decide +kernel
theorem dX6_fillRow_72 : decode cX6_fillRow 72 = .ok (.getfield 49, 3) := by decide +kernel
theorem dX6_fillRow_75 : decode cX6_fillRow 75 = .ok (.iload 5, 2) := by decide +kernel
theorem dX6_fillRow_77 : decode cX6_fillRow 77 = .ok (.iastore, 1) := by decide +kernel
theorem dX6_fillRow_78 : decode cX6_fillRow 78 = .ok (.aload_n 0, 1) := by decide +kernel
theorem dX6_fillRow_79 : decode cX6_fillRow 79 = .ok (.getfield 43, 3) := by decide +kernel
theorem dX6_fillRow_82 : decode cX6_fillRow 82 = .ok (.aload_n 0, 1) := by decide +kernel
theorem dX6_fillRow_83 : decode cX6_fillRow 83 = .ok (.getfield 49, 3) := by decide +kernel
theorem dX6_fillRow_86 : decode cX6_fillRow 86 = .ok (.iload 6, 2) := by decide +kernel
theorem dX6_fillRow_88 : decode cX6_fillRow 88 = .ok (.aload_n 1, 1) := by decide +kernel
theorem dX6_fillRow_89 : decode cX6_fillRow 89 = .ok (.iload 5, 2) := by decide +kernel
theorem dX6_fillRow_91 : decode cX6_fillRow 91 = .ok (.iconst 1, 1) := by decide +kernel
theorem dX6_fillRow_92 : decode cX6_fillRow 92 = .ok (.invokevirtual 91, 3) := by decide +kernel
theorem dX6_fillRow_95 : decode cX6_fillRow 95 = .ok (.isub, 1) := by decide +kernel
theorem dX6_fillRow_96 : decode cX6_fillRow 96 = .ok (.iconst 1, 1) := by decide +kernel
theorem dX6_fillRow_97 : decode cX6_fillRow 97 = .ok (.iadd, 1) := by decide +kernel
theorem dX6_fillRow_98 : decode cX6_fillRow 98 = .ok (.iastore, 1) := by decide +kernel
theorem dX6_fillRow_99 : decode cX6_fillRow 99 = .ok (.aload_n 0, 1) := by decide +kernel
theorem dX6_fillRow_100 : decode cX6_fillRow 100 = .ok (.dup, 1) := by decide +kernel
theorem dX6_fillRow_101 : decode cX6_fillRow 101 = .ok (.getfield 49, 3) := by decide +kernel
theorem dX6_fillRow_104 : decode cX6_fillRow 104 = .ok (.iconst 1, 1) := by decide +kernel
theorem dX6_fillRow_105 : decode cX6_fillRow 105 = .ok (.iadd, 1) := by decide +kernel
theorem dX6_fillRow_106 : decode cX6_fillRow 106 = .ok (.putfield 49, 3) := by decide +kernel
theorem dX6_fillRow_109 : decode cX6_fillRow 109 = .ok (.iload_n 2, 1) := by decide +kernel
theorem dX6_fillRow_110 : decode cX6_fillRow 110 = .ok (.iconst 1, 1) := by decide +kernel
theorem dX6_fillRow_111 : decode cX6_fillRow 111 = .ok (.iload 5, 2) := by decide +kernel
theorem dX6_fillRow_113 : decode cX6_fillRow 113 = .ok (.ishl, 1) := by decide +kernel
theorem dX6_fillRow_114 : decode cX6_fillRow 114 = .ok (.ior, 1) := by decide +kernel
theorem dX6_fillRow_115 : decode cX6_fillRow 115 = .ok (.istore_n 2, 1) := by decide +kernel
theorem dX6_fillRow_116 : decode cX6_fillRow 116 = .ok (.iload 6, 2) := by decide +kernel
theorem dX6_fillRow_118 : decode cX6_fillRow 118 = .ok (.iconst 1, 1) := by decide +kernel
theorem dX6_fillRow_119 : decode cX6_fillRow 119 = .ok (.iadd, 1) := by decide +kernel
theorem dX6_fillRow_120 : decode cX6_fillRow 120 = .ok (.istore_n 3, 1) := by decide +kernel
theorem dX6_fillRow_121 : decode cX6_fillRow 121 = .ok (.iinc 4 1, 3) := by decide +kernel
theorem dX6_fillRow_124 : decode cX6_fillRow 124 = .ok (.goto (-112), 3) := by decide +kernel
theorem dX6_fillRow_127 : decode cX6_fillRow 127 = .ok (.return_, 1) := by decide +kernel
theorem dX6_leastNext_0 : decode cX6_leastNext 0 = .ok (.iconst 0, 1) := by decide +kernel
theorem dX6_leastNext_1 : decode cX6_leastNext 1 = .ok (.istore 4, 2) := by decide +kernel
theorem dX6_leastNext_3 : decode cX6_leastNext 3 = .ok (.iload 4, 2) := by decide +kernel
theorem dX6_leastNext_5 : decode cX6_leastNext 5 = .ok (.aload_n 1, 1) := by decide +kernel
theorem dX6_leastNext_6 : decode cX6_leastNext 6 = .ok (.getfield 65, 3) := by decide +kernel
theorem dX6_leastNext_9 : decode cX6_leastNext 9 = .ok (.if_icmp .ge 56, 3) := by decide +kernel
theorem dX6_leastNext_12 : decode cX6_leastNext 12 = .ok (.iload_n 2, 1) := by decide +kernel
theorem dX6_leastNext_13 : decode cX6_leastNext 13 = .ok (.iload 4, 2) := by decide +kernel
theorem dX6_leastNext_15 : decode cX6_leastNext 15 = .ok (.ishr, 1) := by decide +kernel
theorem dX6_leastNext_16 : decode cX6_leastNext 16 = .ok (.iconst 1, 1) := by decide +kernel
theorem dX6_leastNext_17 : decode cX6_leastNext 17 = .ok (.iand, 1) := by decide +kernel
theorem dX6_leastNext_18 : decode cX6_leastNext 18 = .ok (.ifCond .ne 41, 3) := by decide +kernel
theorem dX6_leastNext_21 : decode cX6_leastNext 21 = .ok (.aload_n 0, 1) := by decide +kernel
theorem dX6_leastNext_22 : decode cX6_leastNext 22 = .ok (.aload_n 1, 1) := by decide +kernel
theorem dX6_leastNext_23 : decode cX6_leastNext 23 = .ok (.iload 4, 2) := by decide +kernel
theorem dX6_leastNext_25 : decode cX6_leastNext 25 = .ok (.aload_n 0, 1) := by decide +kernel
theorem dX6_leastNext_26 : decode cX6_leastNext 26 = .ok (.aload_n 1, 1) := by decide +kernel
theorem dX6_leastNext_27 : decode cX6_leastNext 27 = .ok (.iload 4, 2) := by decide +kernel
theorem dX6_leastNext_29 : decode cX6_leastNext 29 = .ok (.iload_n 3, 1) := by decide +kernel
theorem dX6_leastNext_30 : decode cX6_leastNext 30 = .ok (.invokevirtual 127, 3) := by decide +kernel
theorem dX6_leastNext_33 : decode cX6_leastNext 33 = .ok (.invokevirtual 100, 3) := by decide +kernel
theorem dX6_leastNext_36 : decode cX6_leastNext 36 = .ok (.aload_n 0, 1) := by decide +kernel
theorem dX6_leastNext_37 : decode cX6_leastNext 37 = .ok (.getfield 24, 3) := by decide +kernel
theorem dX6_leastNext_40 : decode cX6_leastNext 40 = .ok (.iload_n 2, 1) := by decide +kernel
theorem dX6_leastNext_41 : decode cX6_leastNext 41 = .ok (.iconst 1, 1) := by decide +kernel
theorem dX6_leastNext_42 : decode cX6_leastNext 42 = .ok (.iload 4, 2) := by decide +kernel
theorem dX6_leastNext_44 : decode cX6_leastNext 44 = .ok (.ishl, 1) := by decide +kernel
theorem dX6_leastNext_45 : decode cX6_leastNext 45 = .ok (.ior, 1) := by decide +kernel
theorem dX6_leastNext_46 : decode cX6_leastNext 46 = .ok (.bipush 8, 2) := by decide +kernel
theorem dX6_leastNext_48 : decode cX6_leastNext 48 = .ok (.imul, 1) := by decide +kernel
theorem dX6_leastNext_49 : decode cX6_leastNext 49 = .ok (.iload 4, 2) := by decide +kernel
theorem dX6_leastNext_51 : decode cX6_leastNext 51 = .ok (.iadd, 1) := by decide +kernel
theorem dX6_leastNext_52 : decode cX6_leastNext 52 = .ok (.iaload, 1) := by decide +kernel
theorem dX6_leastNext_53 : decode cX6_leastNext 53 = .ok (.if_icmp .gt 6, 3) := by decide +kernel
theorem dX6_leastNext_56 : decode cX6_leastNext 56 = .ok (.iload 4, 2) := by decide +kernel
theorem dX6_leastNext_58 : decode cX6_leastNext 58 = .ok (.ireturn, 1) := by decide +kernel
theorem dX6_leastNext_59 : decode cX6_leastNext 59 = .ok (.iinc 4 1, 3) := by decide +kernel
theorem dX6_leastNext_62 : decode cX6_leastNext 62 = .ok (.goto (-59), 3) := by decide +kernel
theorem dX6_leastNext_65 : decode cX6_leastNext 65 = .ok (.iconst (-1), 1) := by decide +kernel
theorem dX6_leastNext_66 : decode cX6_leastNext 66 = .ok (.ireturn, 1) := by decide +kernel
theorem dX6_dayAt_0 : decode cX6_dayAt 0 = .ok (.aload_n 0, 1) := by decide +kernel
theorem dX6_dayAt_1 : decode cX6_dayAt 1 = .ok (.getfield 49, 3) := by decide +kernel
theorem dX6_dayAt_4 : decode cX6_dayAt 4 = .ok (.ifCond .ne 7, 3) := by decide +kernel
theorem dX6_dayAt_7 : decode cX6_dayAt 7 = .ok (.iload_n 3, 1) := by decide +kernel
theorem dX6_dayAt_8 : decode cX6_dayAt 8 = .ok (.goto 21, 3) := by decide +kernel
theorem dX6_dayAt_11 : decode cX6_dayAt 11 = .ok (.iload_n 3, 1) := by decide +kernel
theorem dX6_dayAt_12 : decode cX6_dayAt 12 = .ok (.aload_n 1, 1) := by decide +kernel
theorem dX6_dayAt_13 : decode cX6_dayAt 13 = .ok (.aload_n 0, 1) := by decide +kernel
theorem dX6_dayAt_14 : decode cX6_dayAt 14 = .ok (.getfield 40, 3) := by decide +kernel
theorem dX6_dayAt_17 : decode cX6_dayAt 17 = .ok (.aload_n 0, 1) := by decide +kernel
theorem dX6_dayAt_18 : decode cX6_dayAt 18 = .ok (.getfield 49, 3) := by decide +kernel
theorem dX6_dayAt_21 : decode cX6_dayAt 21 = .ok (.iconst 1, 1) := by decide +kernel
theorem dX6_dayAt_22 : decode cX6_dayAt 22 = .ok (.isub, 1) := by decide +kernel
theorem dX6_dayAt_23 : decode cX6_dayAt 23 = .ok (.iaload, 1) := by decide +kernel
theorem dX6_dayAt_24 : decode cX6_dayAt 24 = .ok (.iload_n 2, 1) := by decide +kernel
theorem dX6_dayAt_25 : decode cX6_dayAt 25 = .ok (.invokestatic 108, 3) := by decide +kernel
theorem dX6_dayAt_28 : decode cX6_dayAt 28 = .ok (.iadd, 1) := by decide +kernel
theorem dX6_dayAt_29 : decode cX6_dayAt 29 = .ok (.ireturn, 1) := by decide +kernel
theorem dX6_layEven_0 : decode cX6_layEven 0 = .ok (.iconst 0, 1) := by decide +kernel
theorem dX6_layEven_1 : decode cX6_layEven 1 = .ok (.istore_n 3, 1) := by decide +kernel
theorem dX6_layEven_2 : decode cX6_layEven 2 = .ok (.iload_n 3, 1) := by decide +kernel
theorem dX6_layEven_3 : decode cX6_layEven 3 = .ok (.aload_n 0, 1) := by decide +kernel
theorem dX6_layEven_4 : decode cX6_layEven 4 = .ok (.getfield 49, 3) := by decide +kernel
theorem dX6_layEven_7 : decode cX6_layEven 7 = .ok (.if_icmp .ge 47, 3) := by decide +kernel
theorem dX6_layEven_10 : decode cX6_layEven 10 = .ok (.aload_n 1, 1) := by decide +kernel
theorem dX6_layEven_11 : decode cX6_layEven 11 = .ok (.aload_n 0, 1) := by decide +kernel
theorem dX6_layEven_12 : decode cX6_layEven 12 = .ok (.getfield 40, 3) := by decide +kernel
theorem dX6_layEven_15 : decode cX6_layEven 15 = .ok (.iload_n 3, 1) := by decide +kernel
theorem dX6_layEven_16 : decode cX6_layEven 16 = .ok (.iaload, 1) := by decide +kernel
theorem dX6_layEven_17 : decode cX6_layEven 17 = .ok (.iconst 0, 1) := by decide +kernel
theorem dX6_layEven_18 : decode cX6_layEven 18 = .ok (.invokevirtual 91, 3) := by decide +kernel
theorem dX6_layEven_21 : decode cX6_layEven 21 = .ok (.istore 4, 2) := by decide +kernel
theorem dX6_layEven_23 : decode cX6_layEven 23 = .ok (.aload_n 0, 1) := by decide +kernel
theorem dX6_layEven_24 : decode cX6_layEven 24 = .ok (.getfield 27, 3) := by decide +kernel
theorem dX6_layEven_27 : decode cX6_layEven 27 = .ok (.iload_n 3, 1) := by decide +kernel
theorem dX6_layEven_28 : decode cX6_layEven 28 = .ok (.aload_n 1, 1) := by decide +kernel
theorem dX6_layEven_29 : decode cX6_layEven 29 = .ok (.aload_n 0, 1) := by decide +kernel
theorem dX6_layEven_30 : decode cX6_layEven 30 = .ok (.getfield 40, 3) := by decide +kernel
theorem dX6_layEven_33 : decode cX6_layEven 33 = .ok (.iload_n 3, 1) := by decide +kernel
theorem dX6_layEven_34 : decode cX6_layEven 34 = .ok (.iaload, 1) := by decide +kernel
theorem dX6_layEven_35 : decode cX6_layEven 35 = .ok (.iconst 1, 1) := by decide +kernel
theorem dX6_layEven_36 : decode cX6_layEven 36 = .ok (.invokevirtual 91, 3) := by decide +kernel
theorem dX6_layEven_39 : decode cX6_layEven 39 = .ok (.aload_n 1, 1) := by decide +kernel
theorem dX6_layEven_40 : decode cX6_layEven 40 = .ok (.getfield 130, 3) := by decide +kernel
theorem dX6_layEven_43 : decode cX6_layEven 43 = .ok (.iload 4, 2) := by decide +kernel
theorem dX6_layEven_45 : decode cX6_layEven 45 = .ok (.iaload, 1) := by decide +kernel
theorem dX6_layEven_46 : decode cX6_layEven 46 = .ok (.imul, 1) := by decide +kernel
theorem dX6_layEven_47 : decode cX6_layEven 47 = .ok (.iastore, 1) := by decide +kernel
theorem dX6_layEven_48 : decode cX6_layEven 48 = .ok (.iinc 3 1, 3) := by decide +kernel
theorem dX6_layEven_51 : decode cX6_layEven 51 = .ok (.goto (-49), 3) := by decide +kernel
theorem dX6_layEven_54 : decode cX6_layEven 54 = .ok (.aload_n 0, 1) := by decide +kernel
theorem dX6_layEven_55 : decode cX6_layEven 55 = .ok (.ldc 133, 2) := by decide +kernel
theorem dX6_layEven_57 : decode cX6_layEven 57 = .ok (.putfield 36, 3) := by decide +kernel
theorem dX6_layEven_60 : decode cX6_layEven 60 = .ok (.aload_n 0, 1) := by decide +kernel
theorem dX6_layEven_61 : decode cX6_layEven 61 = .ok (.iconst 0, 1) := by decide +kernel
theorem dX6_layEven_62 : decode cX6_layEven 62 = .ok (.iload_n 2, 1) := by decide +kernel
theorem dX6_layEven_63 : decode cX6_layEven 63 = .ok (.iconst 0, 1) := by decide +kernel
theorem dX6_layEven_64 : decode cX6_layEven 64 = .ok (.invokestatic 134, 3) := by decide +kernel
theorem dX6_layEven_67 : decode cX6_layEven 67 = .ok (.aload_n 0, 1) := by decide +kernel
theorem dX6_layEven_68 : decode cX6_layEven 68 = .ok (.iconst 1, 1) := by decide +kernel
theorem dX6_layEven_69 : decode cX6_layEven 69 = .ok (.putfield 62, 3) := by decide +kernel
theorem dX6_layEven_72 : decode cX6_layEven 72 = .ok (.aload_n 0, 1) := by decide +kernel
theorem dX6_layEven_73 : decode cX6_layEven 73 = .ok (.getfield 36, 3) := by decide +kernel
theorem dX6_layEven_76 : decode cX6_layEven 76 = .ok (.ireturn, 1) := by decide +kernel
theorem dX6_lay_0 : decode cX6_lay 0 = .ok (.iload_n 1, 1) := by decide +kernel
theorem dX6_lay_1 : decode cX6_lay 1 = .ok (.aload_n 0, 1) := by decide +kernel
theorem dX6_lay_2 : decode cX6_lay 2 = .ok (.getfield 49, 3) := by decide +kernel
theorem dX6_lay_5 : decode cX6_lay 5 = .ok (.if_icmp .ge 9, 3) := by decide +kernel
theorem dX6_lay_8 : decode cX6_lay 8 = .ok (.iload_n 1, 1) := by decide +kernel
theorem dX6_lay_9 : decode cX6_lay 9 = .ok (.bipush 8, 2) := by decide +kernel
theorem dX6_lay_11 : decode cX6_lay 11 = .ok (.if_icmp .lt 9, 3) := by decide +kernel
theorem dX6_lay_14 : decode cX6_lay 14 = .ok (.aload_n 0, 1) := by decide +kernel
theorem dX6_lay_15 : decode cX6_lay 15 = .ok (.iload_n 2, 1) := by decide +kernel
theorem dX6_lay_16 : decode cX6_lay 16 = .ok (.invokevirtual 138, 3) := by decide +kernel
theorem dX6_lay_19 : decode cX6_lay 19 = .ok (.return_, 1) := by decide +kernel
theorem dX6_lay_20 : decode cX6_lay 20 = .ok (.iconst 0, 1) := by decide +kernel
theorem dX6_lay_21 : decode cX6_lay 21 = .ok (.istore 4, 2) := by decide +kernel
theorem dX6_lay_23 : decode cX6_lay 23 = .ok (.iload 4, 2) := by decide +kernel
theorem dX6_lay_25 : decode cX6_lay 25 = .ok (.iload_n 3, 1) := by decide +kernel
theorem dX6_lay_26 : decode cX6_lay 26 = .ok (.if_icmp .gt 85, 3) := by decide +kernel
theorem dX6_lay_29 : decode cX6_lay 29 = .ok (.iload 4, 2) := by decide +kernel
theorem dX6_lay_31 : decode cX6_lay 31 = .ok (.iload_n 2, 1) := by decide +kernel
theorem dX6_lay_32 : decode cX6_lay 32 = .ok (.if_icmp .ge 79, 3) := by decide +kernel
theorem dX6_lay_35 : decode cX6_lay 35 = .ok (.aload_n 0, 1) := by decide +kernel
theorem dX6_lay_36 : decode cX6_lay 36 = .ok (.getfield 30, 3) := by decide +kernel
theorem dX6_lay_39 : decode cX6_lay 39 = .ok (.iload 4, 2) := by decide +kernel
theorem dX6_lay_41 : decode cX6_lay 41 = .ok (.dup2, 1) := by decide +kernel
theorem dX6_lay_42 : decode cX6_lay 42 = .ok (.iaload, 1) := by decide +kernel
theorem dX6_lay_43 : decode cX6_lay 43 = .ok (.aload_n 0, 1) := by decide +kernel
theorem dX6_lay_44 : decode cX6_lay 44 = .ok (.getfield 27, 3) := by decide +kernel
theorem dX6_lay_47 : decode cX6_lay 47 = .ok (.iload_n 1, 1) := by decide +kernel
theorem dX6_lay_48 : decode cX6_lay 48 = .ok (.iaload, 1) := by decide +kernel
theorem dX6_lay_49 : decode cX6_lay 49 = .ok (.iadd, 1) := by decide +kernel
theorem dX6_lay_50 : decode cX6_lay 50 = .ok (.iastore, 1) := by decide +kernel
theorem dX6_lay_51 : decode cX6_lay 51 = .ok (.aload_n 0, 1) := by decide +kernel
theorem dX6_lay_52 : decode cX6_lay 52 = .ok (.getfield 33, 3) := by decide +kernel
theorem dX6_lay_55 : decode cX6_lay 55 = .ok (.iload_n 1, 1) := by decide +kernel
theorem dX6_lay_56 : decode cX6_lay 56 = .ok (.iload 4, 2) := by decide +kernel
theorem dX6_lay_58 : decode cX6_lay 58 = .ok (.iastore, 1) := by decide +kernel
theorem dX6_lay_59 : decode cX6_lay 59 = .ok (.aload_n 0, 1) := by decide +kernel
theorem dX6_lay_60 : decode cX6_lay 60 = .ok (.getfield 30, 3) := by decide +kernel
theorem dX6_lay_63 : decode cX6_lay 63 = .ok (.iload 4, 2) := by decide +kernel
theorem dX6_lay_65 : decode cX6_lay 65 = .ok (.iaload, 1) := by decide +kernel
theorem dX6_lay_66 : decode cX6_lay 66 = .ok (.aload_n 0, 1) := by decide +kernel
theorem dX6_lay_67 : decode cX6_lay 67 = .ok (.getfield 36, 3) := by decide +kernel
theorem dX6_lay_70 : decode cX6_lay 70 = .ok (.if_icmp .ge 19, 3) := by decide +kernel
theorem dX6_lay_73 : decode cX6_lay 73 = .ok (.aload_n 0, 1) := by decide +kernel
theorem dX6_lay_74 : decode cX6_lay 74 = .ok (.iload_n 1, 1) := by decide +kernel
theorem dX6_lay_75 : decode cX6_lay 75 = .ok (.iconst 1, 1) := by decide +kernel
theorem dX6_lay_76 : decode cX6_lay 76 = .ok (.iadd, 1) := by decide +kernel
theorem dX6_lay_77 : decode cX6_lay 77 = .ok (.iload_n 2, 1) := by decide +kernel
theorem dX6_lay_78 : decode cX6_lay 78 = .ok (.iload_n 3, 1) := by decide +kernel
theorem dX6_lay_79 : decode cX6_lay 79 = .ok (.iload 4, 2) := by decide +kernel
theorem dX6_lay_81 : decode cX6_lay 81 = .ok (.iconst 1, 1) := by decide +kernel
theorem dX6_lay_82 : decode cX6_lay 82 = .ok (.iadd, 1) := by decide +kernel
theorem dX6_lay_83 : decode cX6_lay 83 = .ok (.invokestatic 121, 3) := by decide +kernel
theorem dX6_lay_86 : decode cX6_lay 86 = .ok (.invokestatic 134, 3) := by decide +kernel
theorem dX6_lay_89 : decode cX6_lay 89 = .ok (.aload_n 0, 1) := by decide +kernel
theorem dX6_lay_90 : decode cX6_lay 90 = .ok (.getfield 30, 3) := by decide +kernel
theorem dX6_lay_93 : decode cX6_lay 93 = .ok (.iload 4, 2) := by decide +kernel
theorem dX6_lay_95 : decode cX6_lay 95 = .ok (.dup2, 1) := by decide +kernel
theorem dX6_lay_96 : decode cX6_lay 96 = .ok (.iaload, 1) := by decide +kernel
theorem dX6_lay_97 : decode cX6_lay 97 = .ok (.aload_n 0, 1) := by decide +kernel
theorem dX6_lay_98 : decode cX6_lay 98 = .ok (.getfield 27, 3) := by decide +kernel
theorem dX6_lay_101 : decode cX6_lay 101 = .ok (.iload_n 1, 1) := by decide +kernel
theorem dX6_lay_102 : decode cX6_lay 102 = .ok (.iaload, 1) := by decide +kernel
theorem dX6_lay_103 : decode cX6_lay 103 = .ok (.isub, 1) := by decide +kernel
theorem dX6_lay_104 : decode cX6_lay 104 = .ok (.iastore, 1) := by decide +kernel
theorem dX6_lay_105 : decode cX6_lay 105 = .ok (.iinc 4 1, 3) := by decide +kernel
theorem dX6_lay_108 : decode cX6_lay 108 = .ok (.goto (-85), 3) := by decide +kernel
theorem dX6_lay_111 : decode cX6_lay 111 = .ok (.return_, 1) := by decide +kernel
theorem dX6_keepShares_0 : decode cX6_keepShares 0 = .ok (.iconst 0, 1) := by decide +kernel
theorem dX6_keepShares_1 : decode cX6_keepShares 1 = .ok (.istore_n 2, 1) := by decide +kernel
theorem dX6_keepShares_2 : decode cX6_keepShares 2 = .ok (.iconst 0, 1) := by decide +kernel
theorem dX6_keepShares_3 : decode cX6_keepShares 3 = .ok (.istore_n 3, 1) := by decide +kernel
theorem dX6_keepShares_4 : decode cX6_keepShares 4 = .ok (.iload_n 3, 1) := by decide +kernel
theorem dX6_keepShares_5 : decode cX6_keepShares 5 = .ok (.iload_n 1, 1) := by decide +kernel
theorem dX6_keepShares_6 : decode cX6_keepShares 6 = .ok (.if_icmp .ge 20, 3) := by decide +kernel
theorem dX6_keepShares_9 : decode cX6_keepShares 9 = .ok (.iload_n 2, 1) := by decide +kernel
theorem dX6_keepShares_10 : decode cX6_keepShares 10 = .ok (.aload_n 0, 1) := by decide +kernel
theorem dX6_keepShares_11 : decode cX6_keepShares 11 = .ok (.getfield 30, 3) := by decide +kernel
theorem dX6_keepShares_14 : decode cX6_keepShares 14 = .ok (.iload_n 3, 1) := by decide +kernel
theorem dX6_keepShares_15 : decode cX6_keepShares 15 = .ok (.iaload, 1) := by decide +kernel
theorem dX6_keepShares_16 : decode cX6_keepShares 16 = .ok (.invokestatic 121, 3) := by decide +kernel
theorem dX6_keepShares_19 : decode cX6_keepShares 19 = .ok (.istore_n 2, 1) := by decide +kernel
theorem dX6_keepShares_20 : decode cX6_keepShares 20 = .ok (.iinc 3 1, 3) := by decide +kernel
theorem dX6_keepShares_23 : decode cX6_keepShares 23 = .ok (.goto (-19), 3) := by decide +kernel
theorem dX6_keepShares_26 : decode cX6_keepShares 26 = .ok (.iload_n 2, 1) := by decide +kernel
theorem dX6_keepShares_27 : decode cX6_keepShares 27 = .ok (.aload_n 0, 1) := by decide +kernel
theorem dX6_keepShares_28 : decode cX6_keepShares 28 = .ok (.getfield 36, 3) := by decide +kernel
theorem dX6_keepShares_31 : decode cX6_keepShares 31 = .ok (.if_icmp .ge 25, 3) := by decide +kernel
theorem dX6_keepShares_34 : decode cX6_keepShares 34 = .ok (.aload_n 0, 1) := by decide +kernel
theorem dX6_keepShares_35 : decode cX6_keepShares 35 = .ok (.iload_n 2, 1) := by decide +kernel
theorem dX6_keepShares_36 : decode cX6_keepShares 36 = .ok (.putfield 36, 3) := by decide +kernel
theorem dX6_keepShares_39 : decode cX6_keepShares 39 = .ok (.aload_n 0, 1) := by decide +kernel
theorem dX6_keepShares_40 : decode cX6_keepShares 40 = .ok (.getfield 33, 3) := by decide +kernel
theorem dX6_keepShares_43 : decode cX6_keepShares 43 = .ok (.iconst 0, 1) := by decide +kernel
theorem dX6_keepShares_44 : decode cX6_keepShares 44 = .ok (.aload_n 0, 1) := by decide +kernel
theorem dX6_keepShares_45 : decode cX6_keepShares 45 = .ok (.getfield 46, 3) := by decide +kernel
theorem dX6_keepShares_48 : decode cX6_keepShares 48 = .ok (.iconst 0, 1) := by decide +kernel
theorem dX6_keepShares_49 : decode cX6_keepShares 49 = .ok (.aload_n 0, 1) := by decide +kernel
theorem dX6_keepShares_50 : decode cX6_keepShares 50 = .ok (.getfield 49, 3) := by decide +kernel
theorem dX6_keepShares_53 : decode cX6_keepShares 53 = .ok (.invokestatic 142, 3) := by decide +kernel
theorem dX6_keepShares_56 : decode cX6_keepShares 56 = .ok (.return_, 1) := by decide +kernel
theorem dX6_chanceToGo_0 : decode cX6_chanceToGo 0 = .ok (.ldc 148, 2) := by decide +kernel
theorem dX6_chanceToGo_2 : decode cX6_chanceToGo 2 = .ok (.istore_n 3, 1) := by decide +kernel
theorem dX6_chanceToGo_3 : decode cX6_chanceToGo 3 = .ok (.iconst 0, 1) := by decide +kernel
theorem dX6_chanceToGo_4 : decode cX6_chanceToGo 4 = .ok (.istore 4, 2) := by decide +kernel
theorem dX6_chanceToGo_6 : decode cX6_chanceToGo 6 = .ok (.iload 4, 2) := by decide +kernel
theorem dX6_chanceToGo_8 : decode cX6_chanceToGo 8 = .ok (.aload_n 0, 1) := by decide +kernel
theorem dX6_chanceToGo_9 : decode cX6_chanceToGo 9 = .ok (.getfield 49, 3) := by decide +kernel
theorem dX6_chanceToGo_12 : decode cX6_chanceToGo 12 = .ok (.if_icmp .ge 66, 3) := by decide +kernel
theorem dX6_chanceToGo_15 : decode cX6_chanceToGo 15 = .ok (.aload_n 0, 1) := by decide +kernel
theorem dX6_chanceToGo_16 : decode cX6_chanceToGo 16 = .ok (.getfield 43, 3) := by decide +kernel
theorem dX6_chanceToGo_19 : decode cX6_chanceToGo 19 = .ok (.iload 4, 2) := by decide +kernel
theorem dX6_chanceToGo_21 : decode cX6_chanceToGo 21 = .ok (.iaload, 1) := by decide +kernel
theorem dX6_chanceToGo_22 : decode cX6_chanceToGo 22 = .ok (.aload_n 1, 1) := by decide +kernel
theorem dX6_chanceToGo_23 : decode cX6_chanceToGo 23 = .ok (.aload_n 0, 1) := by decide +kernel
theorem dX6_chanceToGo_24 : decode cX6_chanceToGo 24 = .ok (.getfield 40, 3) := by decide +kernel
theorem dX6_chanceToGo_27 : decode cX6_chanceToGo 27 = .ok (.iload 4, 2) := by decide +kernel
theorem dX6_chanceToGo_29 : decode cX6_chanceToGo 29 = .ok (.iaload, 1) := by decide +kernel
theorem dX6_chanceToGo_30 : decode cX6_chanceToGo 30 = .ok (.iconst 1, 1) := by decide +kernel
theorem dX6_chanceToGo_31 : decode cX6_chanceToGo 31 = .ok (.invokevirtual 91, 3) := by decide +kernel
theorem dX6_chanceToGo_34 : decode cX6_chanceToGo 34 = .ok (.iadd, 1) := by decide +kernel
theorem dX6_chanceToGo_35 : decode cX6_chanceToGo 35 = .ok (.istore 5, 2) := by decide +kernel
theorem dX6_chanceToGo_37 : decode cX6_chanceToGo 37 = .ok (.aload_n 0, 1) := by decide +kernel
theorem dX6_chanceToGo_38 : decode cX6_chanceToGo 38 = .ok (.getfield 43, 3) := by decide +kernel
theorem dX6_chanceToGo_41 : decode cX6_chanceToGo 41 = .ok (.iload 4, 2) := by decide +kernel
theorem dX6_chanceToGo_43 : decode cX6_chanceToGo 43 = .ok (.iaload, 1) := by decide +kernel
theorem dX6_chanceToGo_44 : decode cX6_chanceToGo 44 = .ok (.istore 6, 2) := by decide +kernel
theorem dX6_chanceToGo_46 : decode cX6_chanceToGo 46 = .ok (.iload 6, 2) := by decide +kernel
theorem dX6_chanceToGo_48 : decode cX6_chanceToGo 48 = .ok (.iload 5, 2) := by decide +kernel
theorem dX6_chanceToGo_50 : decode cX6_chanceToGo 50 = .ok (.if_icmp .ge 22, 3) := by decide +kernel
theorem dX6_chanceToGo_53 : decode cX6_chanceToGo 53 = .ok (.iload_n 3, 1) := by decide +kernel
theorem dX6_chanceToGo_54 : decode cX6_chanceToGo 54 = .ok (.bipush 100, 2) := by decide +kernel
theorem dX6_chanceToGo_56 : decode cX6_chanceToGo 56 = .ok (.aload_n 2, 1) := by decide +kernel
theorem dX6_chanceToGo_57 : decode cX6_chanceToGo 57 = .ok (.iload 6, 2) := by decide +kernel
theorem dX6_chanceToGo_59 : decode cX6_chanceToGo 59 = .ok (.iaload, 1) := by decide +kernel
theorem dX6_chanceToGo_60 : decode cX6_chanceToGo 60 = .ok (.isub, 1) := by decide +kernel
theorem dX6_chanceToGo_61 : decode cX6_chanceToGo 61 = .ok (.imul, 1) := by decide +kernel
theorem dX6_chanceToGo_62 : decode cX6_chanceToGo 62 = .ok (.bipush 100, 2) := by decide +kernel
theorem dX6_chanceToGo_64 : decode cX6_chanceToGo 64 = .ok (.idiv, 1) := by decide +kernel
theorem dX6_chanceToGo_65 : decode cX6_chanceToGo 65 = .ok (.istore_n 3, 1) := by decide +kernel
theorem dX6_chanceToGo_66 : decode cX6_chanceToGo 66 = .ok (.iinc 6 1, 3) := by decide +kernel
theorem dX6_chanceToGo_69 : decode cX6_chanceToGo 69 = .ok (.goto (-23), 3) := by decide +kernel
theorem dX6_chanceToGo_72 : decode cX6_chanceToGo 72 = .ok (.iinc 4 1, 3) := by decide +kernel
theorem dX6_chanceToGo_75 : decode cX6_chanceToGo 75 = .ok (.goto (-69), 3) := by decide +kernel
theorem dX6_chanceToGo_78 : decode cX6_chanceToGo 78 = .ok (.iload_n 3, 1) := by decide +kernel
theorem dX6_chanceToGo_79 : decode cX6_chanceToGo 79 = .ok (.ireturn, 1) := by decide +kernel
theorem dX6_doneBefore_0 : decode cX6_doneBefore 0 = .ok (.iconst 0, 1) := by decide +kernel
theorem dX6_doneBefore_1 : decode cX6_doneBefore 1 = .ok (.istore_n 3, 1) := by decide +kernel
theorem dX6_doneBefore_2 : decode cX6_doneBefore 2 = .ok (.iconst 0, 1) := by decide +kernel
theorem dX6_doneBefore_3 : decode cX6_doneBefore 3 = .ok (.istore 4, 2) := by decide +kernel
theorem dX6_doneBefore_5 : decode cX6_doneBefore 5 = .ok (.iload 4, 2) := by decide +kernel
theorem dX6_doneBefore_7 : decode cX6_doneBefore 7 = .ok (.aload_n 0, 1) := by decide +kernel
theorem dX6_doneBefore_8 : decode cX6_doneBefore 8 = .ok (.getfield 49, 3) := by decide +kernel
theorem dX6_doneBefore_11 : decode cX6_doneBefore 11 = .ok (.if_icmp .ge 36, 3) := by decide +kernel
theorem dX6_doneBefore_14 : decode cX6_doneBefore 14 = .ok (.aload_n 0, 1) := by decide +kernel
theorem dX6_doneBefore_15 : decode cX6_doneBefore 15 = .ok (.getfield 43, 3) := by decide +kernel
theorem dX6_doneBefore_18 : decode cX6_doneBefore 18 = .ok (.iload 4, 2) := by decide +kernel
theorem dX6_doneBefore_20 : decode cX6_doneBefore 20 = .ok (.iaload, 1) := by decide +kernel
theorem dX6_doneBefore_21 : decode cX6_doneBefore 21 = .ok (.aload_n 1, 1) := by decide +kernel
theorem dX6_doneBefore_22 : decode cX6_doneBefore 22 = .ok (.aload_n 0, 1) := by decide +kernel
theorem dX6_doneBefore_23 : decode cX6_doneBefore 23 = .ok (.getfield 40, 3) := by decide +kernel
theorem dX6_doneBefore_26 : decode cX6_doneBefore 26 = .ok (.iload 4, 2) := by decide +kernel
theorem dX6_doneBefore_28 : decode cX6_doneBefore 28 = .ok (.iaload, 1) := by decide +kernel
theorem dX6_doneBefore_29 : decode cX6_doneBefore 29 = .ok (.iconst 1, 1) := by decide +kernel
theorem dX6_doneBefore_30 : decode cX6_doneBefore 30 = .ok (.invokevirtual 91, 3) := by decide +kernel
theorem dX6_doneBefore_33 : decode cX6_doneBefore 33 = .ok (.iadd, 1) := by decide +kernel
theorem dX6_doneBefore_34 : decode cX6_doneBefore 34 = .ok (.iload_n 2, 1) := by decide +kernel
theorem dX6_doneBefore_35 : decode cX6_doneBefore 35 = .ok (.if_icmp .gt 6, 3) := by decide +kernel
theorem dX6_doneBefore_38 : decode cX6_doneBefore 38 = .ok (.iinc 3 1, 3) := by decide +kernel
theorem dX6_doneBefore_41 : decode cX6_doneBefore 41 = .ok (.iinc 4 1, 3) := by decide +kernel
theorem dX6_doneBefore_44 : decode cX6_doneBefore 44 = .ok (.goto (-39), 3) := by decide +kernel
theorem dX6_doneBefore_47 : decode cX6_doneBefore 47 = .ok (.iload_n 3, 1) := by decide +kernel
theorem dX6_doneBefore_48 : decode cX6_doneBefore 48 = .ok (.ireturn, 1) := by decide +kernel
theorem dX7_init_0 : decode cX7_init 0 = .ok (.aload_n 0, 1) := by decide +kernel
theorem dX7_init_1 : decode cX7_init 1 = .ok (.invokespecial 3, 3) := by decide +kernel
theorem dX7_init_4 : decode cX7_init 4 = .ok (.aload_n 0, 1) := by decide +kernel
theorem dX7_init_5 : decode cX7_init 5 = .ok (.bipush 120, 2) := by decide +kernel
theorem dX7_init_7 : decode cX7_init 7 = .ok (.newarray .int, 2) := by decide +kernel
theorem dX7_init_9 : decode cX7_init 9 = .ok (.putfield 11, 3) := by decide +kernel
theorem dX7_init_12 : decode cX7_init 12 = .ok (.aload_n 0, 1) := by decide +kernel
theorem dX7_init_13 : decode cX7_init 13 = .ok (.bipush 120, 2) := by decide +kernel
theorem dX7_init_15 : decode cX7_init 15 = .ok (.newarray .int, 2) := by decide +kernel
theorem dX7_init_17 : decode cX7_init 17 = .ok (.putfield 15, 3) := by decide +kernel
theorem dX7_init_20 : decode cX7_init 20 = .ok (.aload_n 0, 1) := by decide +kernel
theorem dX7_init_21 : decode cX7_init 21 = .ok (.bipush 12, 2) := by decide +kernel
theorem dX7_init_23 : decode cX7_init 23 = .ok (.newarray .int, 2) := by decide +kernel
theorem dX7_init_25 : decode cX7_init 25 = .ok (.putfield 18, 3) := by decide +kernel
theorem dX7_init_28 : decode cX7_init 28 = .ok (.aload_n 0, 1) := by decide +kernel
theorem dX7_init_29 : decode cX7_init 29 = .ok (.bipush 12, 2) := by decide +kernel
theorem dX7_init_31 : decode cX7_init 31 = .ok (.newarray .int, 2) := by decide +kernel
theorem dX7_init_33 : decode cX7_init 33 = .ok (.putfield 21, 3) := by decide +kernel
theorem dX7_init_36 : decode cX7_init 36 = .ok (.return_, 1) := by decide +kernel
theorem dX7_clear_0 : decode cX7_clear 0 = .ok (.aload_n 0, 1) := by decide +kernel
theorem dX7_clear_1 : decode cX7_clear 1 = .ok (.getfield 18, 3) := by decide +kernel
theorem dX7_clear_4 : decode cX7_clear 4 = .ok (.iconst 0, 1) := by decide +kernel
theorem dX7_clear_5 : decode cX7_clear 5 = .ok (.invokestatic 24, 3) := by decide +kernel
theorem dX7_clear_8 : decode cX7_clear 8 = .ok (.aload_n 0, 1) := by decide +kernel
theorem dX7_clear_9 : decode cX7_clear 9 = .ok (.getfield 21, 3) := by decide +kernel
theorem dX7_clear_12 : decode cX7_clear 12 = .ok (.iconst 0, 1) := by decide +kernel
theorem dX7_clear_13 : decode cX7_clear 13 = .ok (.invokestatic 24, 3) := by decide +kernel
theorem dX7_clear_16 : decode cX7_clear 16 = .ok (.return_, 1) := by decide +kernel
theorem dX7_add_0 : decode cX7_add 0 = .ok (.aload_n 0, 1) := by decide +kernel
theorem dX7_add_1 : decode cX7_add 1 = .ok (.getfield 18, 3) := by decide +kernel
theorem dX7_add_4 : decode cX7_add 4 = .ok (.iload_n 1, 1) := by decide +kernel
theorem dX7_add_5 : decode cX7_add 5 = .ok (.iaload, 1) := by decide +kernel
theorem dX7_add_6 : decode cX7_add 6 = .ok (.bipush 10, 2) := by decide +kernel
theorem dX7_add_8 : decode cX7_add 8 = .ok (.if_icmp .lt 5, 3) := by decide +kernel
theorem dX7_add_11 : decode cX7_add 11 = .ok (.iconst 0, 1) := by decide +kernel
theorem dX7_add_12 : decode cX7_add 12 = .ok (.ireturn, 1) := by decide +kernel
theorem dX7_add_13 : decode cX7_add 13 = .ok (.iload_n 1, 1) := by decide +kernel
theorem dX7_add_14 : decode cX7_add 14 = .ok (.bipush 10, 2) := by decide +kernel
theorem dX7_add_16 : decode cX7_add 16 = .ok (.imul, 1) := by decide +kernel
theorem dX7_add_17 : decode cX7_add 17 = .ok (.aload_n 0, 1) := by decide +kernel
theorem dX7_add_18 : decode cX7_add 18 = .ok (.getfield 18, 3) := by decide +kernel
theorem dX7_add_21 : decode cX7_add 21 = .ok (.iload_n 1, 1) := by decide +kernel
theorem dX7_add_22 : decode cX7_add 22 = .ok (.iaload, 1) := by decide +kernel
theorem dX7_add_23 : decode cX7_add 23 = .ok (.iadd, 1) := by decide +kernel
theorem dX7_add_24 : decode cX7_add 24 = .ok (.istore 4, 2) := by decide +kernel
theorem dX7_add_26 : decode cX7_add 26 = .ok (.aload_n 0, 1) := by decide +kernel
theorem dX7_add_27 : decode cX7_add 27 = .ok (.getfield 11, 3) := by decide +kernel
theorem dX7_add_30 : decode cX7_add 30 = .ok (.iload 4, 2) := by decide +kernel
theorem dX7_add_32 : decode cX7_add 32 = .ok (.iload_n 2, 1) := by decide +kernel
theorem dX7_add_33 : decode cX7_add 33 = .ok (.iastore, 1) := by decide +kernel
theorem dX7_add_34 : decode cX7_add 34 = .ok (.aload_n 0, 1) := by decide +kernel
theorem dX7_add_35 : decode cX7_add 35 = .ok (.getfield 15, 3) := by decide +kernel
theorem dX7_add_38 : decode cX7_add 38 = .ok (.iload 4, 2) := by decide +kernel
theorem dX7_add_40 : decode cX7_add 40 = .ok (.iload_n 3, 1) := by decide +kernel
theorem dX7_add_41 : decode cX7_add 41 = .ok (.iastore, 1) := by decide +kernel
theorem dX7_add_42 : decode cX7_add 42 = .ok (.aload_n 0, 1) := by decide +kernel
theorem dX7_add_43 : decode cX7_add 43 = .ok (.getfield 18, 3) := by decide +kernel
theorem dX7_add_46 : decode cX7_add 46 = .ok (.iload_n 1, 1) := by decide +kernel
theorem dX7_add_47 : decode cX7_add 47 = .ok (.dup2, 1) := by decide +kernel
theorem dX7_add_48 : decode cX7_add 48 = .ok (.iaload, 1) := by decide +kernel
theorem dX7_add_49 : decode cX7_add 49 = .ok (.iconst 1, 1) := by decide +kernel
theorem dX7_add_50 : decode cX7_add 50 = .ok (.iadd, 1) := by decide +kernel
theorem dX7_add_51 : decode cX7_add 51 = .ok (.iastore, 1) := by decide +kernel
theorem dX7_add_52 : decode cX7_add 52 = .ok (.iconst 1, 1) := by decide +kernel
theorem dX7_add_53 : decode cX7_add 53 = .ok (.ireturn, 1) := by decide +kernel
theorem dX7_latestYear_0 : decode cX7_latestYear 0 = .ok (.iconst 0, 1) := by decide +kernel
theorem dX7_latestYear_1 : decode cX7_latestYear 1 = .ok (.istore_n 2, 1) := by decide +kernel
theorem dX7_latestYear_2 : decode cX7_latestYear 2 = .ok (.iload_n 1, 1) := by decide +kernel
theorem dX7_latestYear_3 : decode cX7_latestYear 3 = .ok (.bipush 10, 2) := by decide +kernel
theorem dX7_latestYear_5 : decode cX7_latestYear 5 = .ok (.imul, 1) := by decide +kernel
theorem dX7_latestYear_6 : decode cX7_latestYear 6 = .ok (.istore_n 3, 1) := by decide +kernel
theorem dX7_latestYear_7 : decode cX7_latestYear 7 = .ok (.iload_n 3, 1) := by decide +kernel
theorem dX7_latestYear_8 : decode cX7_latestYear 8 = .ok (.iload_n 1, 1) := by decide +kernel
theorem dX7_latestYear_9 : decode cX7_latestYear 9 = .ok (.bipush 10, 2) := by decide +kernel
theorem dX7_latestYear_11 : decode cX7_latestYear 11 = .ok (.imul, 1) := by decide +kernel
theorem dX7_latestYear_12 : decode cX7_latestYear 12 = .ok (.aload_n 0, 1) := by decide +kernel
theorem dX7_latestYear_13 : decode cX7_latestYear 13 = .ok (.getfield 18, 3) := by decide +kernel
theorem dX7_latestYear_16 : decode cX7_latestYear 16 = .ok (.iload_n 1, 1) := by decide +kernel
theorem dX7_latestYear_17 : decode cX7_latestYear 17 = .ok (.iaload, 1) := by decide +kernel
theorem dX7_latestYear_18 : decode cX7_latestYear 18 = .ok (.iadd, 1) := by decide +kernel
theorem dX7_latestYear_19 : decode cX7_latestYear 19 = .ok (.if_icmp .ge 20, 3) := by decide +kernel
theorem dX7_latestYear_22 : decode cX7_latestYear 22 = .ok (.iload_n 2, 1) := by decide +kernel
theorem dX7_latestYear_23 : decode cX7_latestYear 23 = .ok (.aload_n 0, 1) := by decide +kernel
theorem dX7_latestYear_24 : decode cX7_latestYear 24 = .ok (.getfield 11, 3) := by decide +kernel
theorem dX7_latestYear_27 : decode cX7_latestYear 27 = .ok (.iload_n 3, 1) := by decide +kernel
theorem dX7_latestYear_28 : decode cX7_latestYear 28 = .ok (.iaload, 1) := by decide +kernel
theorem dX7_latestYear_29 : decode cX7_latestYear 29 = .ok (.invokestatic 30, 3) := by decide +kernel
theorem dX7_latestYear_32 : decode cX7_latestYear 32 = .ok (.istore_n 2, 1) := by decide +kernel
theorem dX7_latestYear_33 : decode cX7_latestYear 33 = .ok (.iinc 3 1, 3) := by decide +kernel
theorem dX7_latestYear_36 : decode cX7_latestYear 36 = .ok (.goto (-29), 3) := by decide +kernel
theorem dX7_latestYear_39 : decode cX7_latestYear 39 = .ok (.iload_n 2, 1) := by decide +kernel
theorem dX7_latestYear_40 : decode cX7_latestYear 40 = .ok (.ireturn, 1) := by decide +kernel
theorem dX7_hasLean_0 : decode cX7_hasLean 0 = .ok (.iload_n 1, 1) := by decide +kernel
theorem dX7_hasLean_1 : decode cX7_hasLean 1 = .ok (.bipush 10, 2) := by decide +kernel
theorem dX7_hasLean_3 : decode cX7_hasLean 3 = .ok (.imul, 1) := by decide +kernel
theorem dX7_hasLean_4 : decode cX7_hasLean 4 = .ok (.istore_n 2, 1) := by decide +kernel
theorem dX7_hasLean_5 : decode cX7_hasLean 5 = .ok (.iload_n 2, 1) := by decide +kernel
theorem dX7_hasLean_6 : decode cX7_hasLean 6 = .ok (.aload_n 0, 1) := by decide +kernel
theorem dX7_hasLean_7 : decode cX7_hasLean 7 = .ok (.getfield 18, 3) := by decide +kernel
theorem dX7_hasLean_10 : decode cX7_hasLean 10 = .ok (.iload_n 1, 1) := by decide +kernel
theorem dX7_hasLean_11 : decode cX7_hasLean 11 = .ok (.iaload, 1) := by decide +kernel
theorem dX7_hasLean_12 : decode cX7_hasLean 12 = .ok (.iadd, 1) := by decide +kernel
theorem dX7_hasLean_13 : decode cX7_hasLean 13 = .ok (.istore_n 3, 1) := by decide +kernel
theorem dX7_hasLean_14 : decode cX7_hasLean 14 = .ok (.iconst 2, 1) := by decide +kernel
theorem dX7_hasLean_15 : decode cX7_hasLean 15 = .ok (.aload_n 0, 1) := by decide +kernel
theorem dX7_hasLean_16 : decode cX7_hasLean 16 = .ok (.getfield 21, 3) := by decide +kernel
theorem dX7_hasLean_19 : decode cX7_hasLean 19 = .ok (.iload_n 1, 1) := by decide +kernel
theorem dX7_hasLean_20 : decode cX7_hasLean 20 = .ok (.iaload, 1) := by decide +kernel
theorem dX7_hasLean_21 : decode cX7_hasLean 21 = .ok (.imul, 1) := by decide +kernel
theorem dX7_hasLean_22 : decode cX7_hasLean 22 = .ok (.istore 4, 2) := by decide +kernel
theorem dX7_hasLean_24 : decode cX7_hasLean 24 = .ok (.iconst 0, 1) := by decide +kernel
theorem dX7_hasLean_25 : decode cX7_hasLean 25 = .ok (.istore 5, 2) := by decide +kernel
theorem dX7_hasLean_27 : decode cX7_hasLean 27 = .ok (.lconst 0, 1) := by decide +kernel
theorem dX7_hasLean_28 : decode cX7_hasLean 28 = .ok (.lstore 6, 2) := by decide +kernel
theorem dX7_hasLean_30 : decode cX7_hasLean 30 = .ok (.lconst 1, 1) := by decide +kernel
theorem dX7_hasLean_31 : decode cX7_hasLean 31 = .ok (.lstore 8, 2) := by decide +kernel
theorem dX7_hasLean_33 : decode cX7_hasLean 33 = .ok (.lconst 0, 1) := by decide +kernel
theorem dX7_hasLean_34 : decode cX7_hasLean 34 = .ok (.lstore 10, 2) := by decide +kernel
theorem dX7_hasLean_36 : decode cX7_hasLean 36 = .ok (.lconst 1, 1) := by decide +kernel
theorem dX7_hasLean_37 : decode cX7_hasLean 37 = .ok (.lstore 12, 2) := by decide +kernel
theorem dX7_hasLean_39 : decode cX7_hasLean 39 = .ok (.iload_n 2, 1) := by decide +kernel
theorem dX7_hasLean_40 : decode cX7_hasLean 40 = .ok (.istore 14, 2) := by decide +kernel
theorem dX7_hasLean_42 : decode cX7_hasLean 42 = .ok (.iload 14, 2) := by decide +kernel
theorem dX7_hasLean_44 : decode cX7_hasLean 44 = .ok (.iload_n 3, 1) := by decide +kernel
theorem dX7_hasLean_45 : decode cX7_hasLean 45 = .ok (.if_icmp .ge 173, 3) := by decide +kernel
theorem dX7_hasLean_48 : decode cX7_hasLean 48 = .ok (.iload_n 2, 1) := by decide +kernel
theorem dX7_hasLean_49 : decode cX7_hasLean 49 = .ok (.istore 15, 2) := by decide +kernel
theorem dX7_hasLean_51 : decode cX7_hasLean 51 = .ok (.iload 15, 2) := by decide +kernel
theorem dX7_hasLean_53 : decode cX7_hasLean 53 = .ok (.iload_n 3, 1) := by decide +kernel
theorem dX7_hasLean_54 : decode cX7_hasLean 54 = .ok (.if_icmp .ge 158, 3) := by decide +kernel
theorem dX7_hasLean_57 : decode cX7_hasLean 57 = .ok (.aload_n 0, 1) := by decide +kernel
theorem dX7_hasLean_58 : decode cX7_hasLean 58 = .ok (.getfield 11, 3) := by decide +kernel
theorem dX7_hasLean_61 : decode cX7_hasLean 61 = .ok (.iload 15, 2) := by decide +kernel
theorem dX7_hasLean_63 : decode cX7_hasLean 63 = .ok (.iaload, 1) := by decide +kernel
theorem dX7_hasLean_64 : decode cX7_hasLean 64 = .ok (.aload_n 0, 1) := by decide +kernel
theorem dX7_hasLean_65 : decode cX7_hasLean 65 = .ok (.getfield 11, 3) := by decide +kernel
theorem dX7_hasLean_68 : decode cX7_hasLean 68 = .ok (.iload 14, 2) := by decide +kernel
theorem dX7_hasLean_70 : decode cX7_hasLean 70 = .ok (.iaload, 1) := by decide +kernel
theorem dX7_hasLean_71 : decode cX7_hasLean 71 = .ok (.isub, 1) := by decide +kernel
theorem dX7_hasLean_72 : decode cX7_hasLean 72 = .ok (.istore 16, 2) := by decide +kernel
theorem dX7_hasLean_74 : decode cX7_hasLean 74 = .ok (.aload_n 0, 1) := by decide +kernel
theorem dX7_hasLean_75 : decode cX7_hasLean 75 = .ok (.getfield 15, 3) := by decide +kernel
theorem dX7_hasLean_78 : decode cX7_hasLean 78 = .ok (.iload 15, 2) := by decide +kernel
theorem dX7_hasLean_80 : decode cX7_hasLean 80 = .ok (.iaload, 1) := by decide +kernel
theorem dX7_hasLean_81 : decode cX7_hasLean 81 = .ok (.aload_n 0, 1) := by decide +kernel
theorem dX7_hasLean_82 : decode cX7_hasLean 82 = .ok (.getfield 15, 3) := by decide +kernel
theorem dX7_hasLean_85 : decode cX7_hasLean 85 = .ok (.iload 14, 2) := by decide +kernel
theorem dX7_hasLean_87 : decode cX7_hasLean 87 = .ok (.iaload, 1) := by decide +kernel
theorem dX7_hasLean_88 : decode cX7_hasLean 88 = .ok (.isub, 1) := by decide +kernel
theorem dX7_hasLean_89 : decode cX7_hasLean 89 = .ok (.istore 17, 2) := by decide +kernel
theorem dX7_hasLean_91 : decode cX7_hasLean 91 = .ok (.iload 16, 2) := by decide +kernel
theorem dX7_hasLean_93 : decode cX7_hasLean 93 = .ok (.ifCond .ne 12, 3) := by decide +kernel
theorem dX7_hasLean_96 : decode cX7_hasLean 96 = .ok (.iload 17, 2) := by decide +kernel
theorem dX7_hasLean_98 : decode cX7_hasLean 98 = .ok (.iload 4, 2) := by decide +kernel
theorem dX7_hasLean_100 : decode cX7_hasLean 100 = .ok (.if_icmp .le 5, 3) := by decide +kernel
theorem dX7_hasLean_103 : decode cX7_hasLean 103 = .ok (.iconst 0, 1) := by decide +kernel
theorem dX7_hasLean_104 : decode cX7_hasLean 104 = .ok (.ireturn, 1) := by decide +kernel
theorem dX7_hasLean_105 : decode cX7_hasLean 105 = .ok (.iload 16, 2) := by decide +kernel
theorem dX7_hasLean_107 : decode cX7_hasLean 107 = .ok (.ifCond .le 40, 3) := by decide +kernel
theorem dX7_hasLean_110 : decode cX7_hasLean 110 = .ok (.iload 5, 2) := by decide +kernel
theorem dX7_hasLean_112 : decode cX7_hasLean 112 = .ok (.ifCond .eq 22, 3) := by decide +kernel
theorem dX7_hasLean_115 : decode cX7_hasLean 115 = .ok (.iload 17, 2) := by decide +kernel
theorem dX7_hasLean_117 : decode cX7_hasLean 117 = .ok (.iload 4, 2) := by decide +kernel
theorem dX7_hasLean_119 : decode cX7_hasLean 119 = .ok (.iadd, 1) := by decide +kernel
theorem dX7_hasLean_120 : decode cX7_hasLean 120 = .ok (.i2l, 1) := by decide +kernel
theorem dX7_hasLean_121 : decode cX7_hasLean 121 = .ok (.lload 8, 2) := by decide +kernel
theorem dX7_hasLean_123 : decode cX7_hasLean 123 = .ok (.lmul, 1) := by decide +kernel
theorem dX7_hasLean_124 : decode cX7_hasLean 124 = .ok (.lload 6, 2) := by decide +kernel
theorem dX7_hasLean_126 : decode cX7_hasLean 126 = .ok (.iload 16, 2) := by decide +kernel
theorem dX7_hasLean_128 : decode cX7_hasLean 128 = .ok (.i2l, 1) := by decide +kernel
theorem dX7_hasLean_129 : decode cX7_hasLean 129 = .ok (.lmul, 1) := by decide +kernel
theorem dX7_hasLean_130 : decode cX7_hasLean 130 = .ok (.lcmp, 1) := by decide +kernel
theorem dX7_hasLean_131 : decode cX7_hasLean 131 = .ok (.ifCond .ge 16, 3) := by decide +kernel
theorem dX7_hasLean_134 : decode cX7_hasLean 134 = .ok (.iload 17, 2) := by decide +kernel
theorem dX7_hasLean_136 : decode cX7_hasLean 136 = .ok (.iload 4, 2) := by decide +kernel
theorem dX7_hasLean_138 : decode cX7_hasLean 138 = .ok (.iadd, 1) := by decide +kernel
theorem dX7_hasLean_139 : decode cX7_hasLean 139 = .ok (.i2l, 1) := by decide +kernel
theorem dX7_hasLean_140 : decode cX7_hasLean 140 = .ok (.lstore 6, 2) := by decide +kernel
theorem dX7_hasLean_142 : decode cX7_hasLean 142 = .ok (.iload 16, 2) := by decide +kernel
theorem dX7_hasLean_144 : decode cX7_hasLean 144 = .ok (.i2l, 1) := by decide +kernel
theorem dX7_hasLean_145 : decode cX7_hasLean 145 = .ok (.lstore 8, 2) := by decide +kernel
theorem dX7_hasLean_147 : decode cX7_hasLean 147 = .ok (.iload 16, 2) := by decide +kernel
theorem dX7_hasLean_149 : decode cX7_hasLean 149 = .ok (.ifCond .le 40, 3) := by decide +kernel
theorem dX7_hasLean_152 : decode cX7_hasLean 152 = .ok (.iload 5, 2) := by decide +kernel
theorem dX7_hasLean_154 : decode cX7_hasLean 154 = .ok (.ifCond .eq 22, 3) := by decide +kernel
theorem dX7_hasLean_157 : decode cX7_hasLean 157 = .ok (.iload 17, 2) := by decide +kernel
theorem dX7_hasLean_159 : decode cX7_hasLean 159 = .ok (.iload 4, 2) := by decide +kernel
theorem dX7_hasLean_161 : decode cX7_hasLean 161 = .ok (.isub, 1) := by decide +kernel
theorem dX7_hasLean_162 : decode cX7_hasLean 162 = .ok (.i2l, 1) := by decide +kernel
theorem dX7_hasLean_163 : decode cX7_hasLean 163 = .ok (.lload 12, 2) := by decide +kernel
theorem dX7_hasLean_165 : decode cX7_hasLean 165 = .ok (.lmul, 1) := by decide +kernel
theorem dX7_hasLean_166 : decode cX7_hasLean 166 = .ok (.lload 10, 2) := by decide +kernel
theorem dX7_hasLean_168 : decode cX7_hasLean 168 = .ok (.iload 16, 2) := by decide +kernel
theorem dX7_hasLean_170 : decode cX7_hasLean 170 = .ok (.i2l, 1) := by decide +kernel
theorem dX7_hasLean_171 : decode cX7_hasLean 171 = .ok (.lmul, 1) := by decide +kernel
theorem dX7_hasLean_172 : decode cX7_hasLean 172 = .ok (.lcmp, 1) := by decide +kernel
theorem dX7_hasLean_173 : decode cX7_hasLean 173 = .ok (.ifCond .le 16, 3) := by decide +kernel
theorem dX7_hasLean_176 : decode cX7_hasLean 176 = .ok (.iload 17, 2) := by decide +kernel
theorem dX7_hasLean_178 : decode cX7_hasLean 178 = .ok (.iload 4, 2) := by decide +kernel
theorem dX7_hasLean_180 : decode cX7_hasLean 180 = .ok (.isub, 1) := by decide +kernel
theorem dX7_hasLean_181 : decode cX7_hasLean 181 = .ok (.i2l, 1) := by decide +kernel
theorem dX7_hasLean_182 : decode cX7_hasLean 182 = .ok (.lstore 10, 2) := by decide +kernel
theorem dX7_hasLean_184 : decode cX7_hasLean 184 = .ok (.iload 16, 2) := by decide +kernel
theorem dX7_hasLean_186 : decode cX7_hasLean 186 = .ok (.i2l, 1) := by decide +kernel
theorem dX7_hasLean_187 : decode cX7_hasLean 187 = .ok (.lstore 12, 2) := by decide +kernel
theorem dX7_hasLean_189 : decode cX7_hasLean 189 = .ok (.iload 5, 2) := by decide +kernel
theorem dX7_hasLean_191 : decode cX7_hasLean 191 = .ok (.ifCond .ne 8, 3) := by decide +kernel
theorem dX7_hasLean_194 : decode cX7_hasLean 194 = .ok (.iload 16, 2) := by decide +kernel
theorem dX7_hasLean_196 : decode cX7_hasLean 196 = .ok (.ifCond .le 7, 3) := by decide +kernel
theorem dX7_hasLean_199 : decode cX7_hasLean 199 = .ok (.iconst 1, 1) := by decide +kernel
theorem dX7_hasLean_200 : decode cX7_hasLean 200 = .ok (.goto 4, 3) := by decide +kernel
theorem dX7_hasLean_203 : decode cX7_hasLean 203 = .ok (.iconst 0, 1) := by decide +kernel
theorem dX7_hasLean_204 : decode cX7_hasLean 204 = .ok (.istore 5, 2) := by decide +kernel
theorem dX7_hasLean_206 : decode cX7_hasLean 206 = .ok (.iinc 15 1, 3) := by decide +kernel
theorem dX7_hasLean_209 : decode cX7_hasLean 209 = .ok (.goto (-158), 3) := by decide +kernel
theorem dX7_hasLean_212 : decode cX7_hasLean 212 = .ok (.iinc 14 1, 3) := by decide +kernel
theorem dX7_hasLean_215 : decode cX7_hasLean 215 = .ok (.goto (-173), 3) := by decide +kernel
theorem dX7_hasLean_218 : decode cX7_hasLean 218 = .ok (.iload 5, 2) := by decide +kernel
theorem dX7_hasLean_220 : decode cX7_hasLean 220 = .ok (.ifCond .eq 21, 3) := by decide +kernel
theorem dX7_hasLean_223 : decode cX7_hasLean 223 = .ok (.lload 10, 2) := by decide +kernel
theorem dX7_hasLean_225 : decode cX7_hasLean 225 = .ok (.lload 8, 2) := by decide +kernel
theorem dX7_hasLean_227 : decode cX7_hasLean 227 = .ok (.lmul, 1) := by decide +kernel
theorem dX7_hasLean_228 : decode cX7_hasLean 228 = .ok (.lload 6, 2) := by decide +kernel
theorem dX7_hasLean_230 : decode cX7_hasLean 230 = .ok (.lload 12, 2) := by decide +kernel
theorem dX7_hasLean_232 : decode cX7_hasLean 232 = .ok (.lmul, 1) := by decide +kernel
theorem dX7_hasLean_233 : decode cX7_hasLean 233 = .ok (.lcmp, 1) := by decide +kernel
theorem dX7_hasLean_234 : decode cX7_hasLean 234 = .ok (.ifCond .gt 7, 3) := by decide +kernel
theorem dX7_hasLean_237 : decode cX7_hasLean 237 = .ok (.iconst 1, 1) := by decide +kernel
theorem dX7_hasLean_238 : decode cX7_hasLean 238 = .ok (.goto 4, 3) := by decide +kernel
theorem dX7_hasLean_241 : decode cX7_hasLean 241 = .ok (.iconst 0, 1) := by decide +kernel
theorem dX7_hasLean_242 : decode cX7_hasLean 242 = .ok (.ireturn, 1) := by decide +kernel
theorem dX7_greatest_0 : decode cX7_greatest 0 = .ok (.aload_n 0, 1) := by decide +kernel
theorem dX7_greatest_1 : decode cX7_greatest 1 = .ok (.iload_n 1, 1) := by decide +kernel
theorem dX7_greatest_2 : decode cX7_greatest 2 = .ok (.iload_n 2, 1) := by decide +kernel
theorem dX7_greatest_3 : decode cX7_greatest 3 = .ok (.iconst 1, 1) := by decide +kernel
theorem dX7_greatest_4 : decode cX7_greatest 4 = .ok (.invokevirtual 36, 3) := by decide +kernel
theorem dX7_greatest_7 : decode cX7_greatest 7 = .ok (.ireturn, 1) := by decide +kernel
theorem dX7_least_0 : decode cX7_least 0 = .ok (.aload_n 0, 1) := by decide +kernel
theorem dX7_least_1 : decode cX7_least 1 = .ok (.iload_n 1, 1) := by decide +kernel
theorem dX7_least_2 : decode cX7_least 2 = .ok (.iload_n 2, 1) := by decide +kernel
theorem dX7_least_3 : decode cX7_least 3 = .ok (.iconst (-1), 1) := by decide +kernel
theorem dX7_least_4 : decode cX7_least 4 = .ok (.invokevirtual 36, 3) := by decide +kernel
theorem dX7_least_7 : decode cX7_least 7 = .ok (.ineg, 1) := by decide +kernel
theorem dX7_least_8 : decode cX7_least 8 = .ok (.ireturn, 1) := by decide +kernel
theorem dX7_most_0 : decode cX7_most 0 = .ok (.iload_n 1, 1) := by decide +kernel
theorem dX7_most_1 : decode cX7_most 1 = .ok (.bipush 10, 2) := by decide +kernel
theorem dX7_most_3 : decode cX7_most 3 = .ok (.imul, 1) := by decide +kernel
theorem dX7_most_4 : decode cX7_most 4 = .ok (.istore 4, 2) := by decide +kernel
theorem dX7_most_6 : decode cX7_most 6 = .ok (.iload 4, 2) := by decide +kernel
theorem dX7_most_8 : decode cX7_most 8 = .ok (.aload_n 0, 1) := by decide +kernel
theorem dX7_most_9 : decode cX7_most 9 = .ok (.getfield 18, 3) := by decide +kernel
theorem dX7_most_12 : decode cX7_most 12 = .ok (.iload_n 1, 1) := by decide +kernel
theorem dX7_most_13 : decode cX7_most 13 = .ok (.iaload, 1) := by decide +kernel
theorem dX7_most_14 : decode cX7_most 14 = .ok (.iadd, 1) := by decide +kernel
theorem dX7_most_15 : decode cX7_most 15 = .ok (.istore 5, 2) := by decide +kernel
theorem dX7_most_17 : decode cX7_most 17 = .ok (.ldc 40, 2) := by decide +kernel
theorem dX7_most_19 : decode cX7_most 19 = .ok (.istore 6, 2) := by decide +kernel
theorem dX7_most_21 : decode cX7_most 21 = .ok (.iload 4, 2) := by decide +kernel
theorem dX7_most_23 : decode cX7_most 23 = .ok (.istore 7, 2) := by decide +kernel
theorem dX7_most_25 : decode cX7_most 25 = .ok (.iload 7, 2) := by decide +kernel
theorem dX7_most_27 : decode cX7_most 27 = .ok (.iload 5, 2) := by decide +kernel
theorem dX7_most_29 : decode cX7_most 29 = .ok (.if_icmp .ge 102, 3) := by decide +kernel
theorem dX7_most_32 : decode cX7_most 32 = .ok (.aload_n 0, 1) := by decide +kernel
theorem dX7_most_33 : decode cX7_most 33 = .ok (.getfield 11, 3) := by decide +kernel
theorem dX7_most_36 : decode cX7_most 36 = .ok (.iload 7, 2) := by decide +kernel
theorem dX7_most_38 : decode cX7_most 38 = .ok (.iaload, 1) := by decide +kernel
theorem dX7_most_39 : decode cX7_most 39 = .ok (.iload_n 2, 1) := by decide +kernel
theorem dX7_most_40 : decode cX7_most 40 = .ok (.if_icmp .ne 26, 3) := by decide +kernel
theorem dX7_most_43 : decode cX7_most 43 = .ok (.iload 6, 2) := by decide +kernel
theorem dX7_most_45 : decode cX7_most 45 = .ok (.iload_n 3, 1) := by decide +kernel
theorem dX7_most_46 : decode cX7_most 46 = .ok (.aload_n 0, 1) := by decide +kernel
theorem dX7_most_47 : decode cX7_most 47 = .ok (.getfield 15, 3) := by decide +kernel
theorem dX7_most_50 : decode cX7_most 50 = .ok (.iload 7, 2) := by decide +kernel
theorem dX7_most_52 : decode cX7_most 52 = .ok (.iaload, 1) := by decide +kernel
theorem dX7_most_53 : decode cX7_most 53 = .ok (.imul, 1) := by decide +kernel
theorem dX7_most_54 : decode cX7_most 54 = .ok (.aload_n 0, 1) := by decide +kernel
theorem dX7_most_55 : decode cX7_most 55 = .ok (.getfield 21, 3) := by decide +kernel
theorem dX7_most_58 : decode cX7_most 58 = .ok (.iload_n 1, 1) := by decide +kernel
theorem dX7_most_59 : decode cX7_most 59 = .ok (.iaload, 1) := by decide +kernel
theorem dX7_most_60 : decode cX7_most 60 = .ok (.iadd, 1) := by decide +kernel
theorem dX7_most_61 : decode cX7_most 61 = .ok (.invokestatic 41, 3) := by decide +kernel
theorem dX7_most_64 : decode cX7_most 64 = .ok (.istore 6, 2) := by decide +kernel
theorem dX7_most_66 : decode cX7_most 66 = .ok (.iload 4, 2) := by decide +kernel
theorem dX7_most_68 : decode cX7_most 68 = .ok (.istore 8, 2) := by decide +kernel
theorem dX7_most_70 : decode cX7_most 70 = .ok (.iload 8, 2) := by decide +kernel
theorem dX7_most_72 : decode cX7_most 72 = .ok (.iload 5, 2) := by decide +kernel
theorem dX7_most_74 : decode cX7_most 74 = .ok (.if_icmp .ge 51, 3) := by decide +kernel
theorem dX7_most_77 : decode cX7_most 77 = .ok (.aload_n 0, 1) := by decide +kernel
theorem dX7_most_78 : decode cX7_most 78 = .ok (.getfield 11, 3) := by decide +kernel
theorem dX7_most_81 : decode cX7_most 81 = .ok (.iload 7, 2) := by decide +kernel
theorem dX7_most_83 : decode cX7_most 83 = .ok (.iaload, 1) := by decide +kernel
theorem dX7_most_84 : decode cX7_most 84 = .ok (.iload_n 2, 1) := by decide +kernel
theorem dX7_most_85 : decode cX7_most 85 = .ok (.isub, 1) := by decide +kernel
theorem dX7_most_86 : decode cX7_most 86 = .ok (.aload_n 0, 1) := by decide +kernel
theorem dX7_most_87 : decode cX7_most 87 = .ok (.getfield 11, 3) := by decide +kernel
theorem dX7_most_90 : decode cX7_most 90 = .ok (.iload 8, 2) := by decide +kernel
theorem dX7_most_92 : decode cX7_most 92 = .ok (.iaload, 1) := by decide +kernel
theorem dX7_most_93 : decode cX7_most 93 = .ok (.iload_n 2, 1) := by decide +kernel
theorem dX7_most_94 : decode cX7_most 94 = .ok (.isub, 1) := by decide +kernel
theorem dX7_most_95 : decode cX7_most 95 = .ok (.invokestatic 44, 3) := by decide +kernel
theorem dX7_most_98 : decode cX7_most 98 = .ok (.ifCond .eq 21, 3) := by decide +kernel
theorem dX7_most_101 : decode cX7_most 101 = .ok (.iload 6, 2) := by decide +kernel
theorem dX7_most_103 : decode cX7_most 103 = .ok (.aload_n 0, 1) := by decide +kernel
theorem dX7_most_104 : decode cX7_most 104 = .ok (.iload_n 1, 1) := by decide +kernel
theorem dX7_most_105 : decode cX7_most 105 = .ok (.iload_n 2, 1) := by decide +kernel
theorem dX7_most_106 : decode cX7_most 106 = .ok (.iload_n 3, 1) := by decide +kernel
theorem dX7_most_107 : decode cX7_most 107 = .ok (.iload 7, 2) := by decide +kernel
theorem dX7_most_109 : decode cX7_most 109 = .ok (.iload 8, 2) := by decide +kernel
theorem dX7_most_111 : decode cX7_most 111 = .ok (.invokevirtual 48, 3) := by decide +kernel
theorem dX7_most_114 : decode cX7_most 114 = .ok (.invokestatic 41, 3) := by decide +kernel
theorem dX7_most_117 : decode cX7_most 117 = .ok (.istore 6, 2) := by decide +kernel
theorem dX7_most_119 : decode cX7_most 119 = .ok (.iinc 8 1, 3) := by decide +kernel
theorem dX7_most_122 : decode cX7_most 122 = .ok (.goto (-52), 3) := by decide +kernel
theorem dX7_most_125 : decode cX7_most 125 = .ok (.iinc 7 1, 3) := by decide +kernel
theorem dX7_most_128 : decode cX7_most 128 = .ok (.goto (-103), 3) := by decide +kernel
theorem dX7_most_131 : decode cX7_most 131 = .ok (.iload 6, 2) := by decide +kernel
theorem dX7_most_133 : decode cX7_most 133 = .ok (.ireturn, 1) := by decide +kernel
theorem dX7_bounds_0 : decode cX7_bounds 0 = .ok (.iload_n 0, 1) := by decide +kernel
theorem dX7_bounds_1 : decode cX7_bounds 1 = .ok (.ifCond .ge 7, 3) := by decide +kernel
theorem dX7_bounds_4 : decode cX7_bounds 4 = .ok (.iload_n 1, 1) := by decide +kernel
theorem dX7_bounds_5 : decode cX7_bounds 5 = .ok (.ifCond .gt 21, 3) := by decide +kernel
theorem dX7_bounds_8 : decode cX7_bounds 8 = .ok (.iload_n 0, 1) := by decide +kernel
theorem dX7_bounds_9 : decode cX7_bounds 9 = .ok (.ifCond .le 8, 3) := by decide +kernel
theorem dX7_bounds_12 : decode cX7_bounds 12 = .ok (.iload_n 1, 1) := by decide +kernel
theorem dX7_bounds_13 : decode cX7_bounds 13 = .ok (.iload_n 0, 1) := by decide +kernel
theorem dX7_bounds_14 : decode cX7_bounds 14 = .ok (.if_icmp .gt 12, 3) := by decide +kernel
theorem dX7_bounds_17 : decode cX7_bounds 17 = .ok (.iload_n 0, 1) := by decide +kernel
theorem dX7_bounds_18 : decode cX7_bounds 18 = .ok (.ifCond .ge 12, 3) := by decide +kernel
theorem dX7_bounds_21 : decode cX7_bounds 21 = .ok (.iload_n 1, 1) := by decide +kernel
theorem dX7_bounds_22 : decode cX7_bounds 22 = .ok (.iload_n 0, 1) := by decide +kernel
theorem dX7_bounds_23 : decode cX7_bounds 23 = .ok (.if_icmp .ge 7, 3) := by decide +kernel
theorem dX7_bounds_26 : decode cX7_bounds 26 = .ok (.iconst 1, 1) := by decide +kernel
theorem dX7_bounds_27 : decode cX7_bounds 27 = .ok (.goto 4, 3) := by decide +kernel
theorem dX7_bounds_30 : decode cX7_bounds 30 = .ok (.iconst 0, 1) := by decide +kernel
theorem dX7_bounds_31 : decode cX7_bounds 31 = .ok (.ireturn, 1) := by decide +kernel
theorem dX7_lineAt_0 : decode cX7_lineAt 0 = .ok (.aload_n 0, 1) := by decide +kernel
theorem dX7_lineAt_1 : decode cX7_lineAt 1 = .ok (.getfield 11, 3) := by decide +kernel
theorem dX7_lineAt_4 : decode cX7_lineAt 4 = .ok (.iload 4, 2) := by decide +kernel
theorem dX7_lineAt_6 : decode cX7_lineAt 6 = .ok (.iaload, 1) := by decide +kernel
theorem dX7_lineAt_7 : decode cX7_lineAt 7 = .ok (.iload_n 2, 1) := by decide +kernel
theorem dX7_lineAt_8 : decode cX7_lineAt 8 = .ok (.isub, 1) := by decide +kernel
theorem dX7_lineAt_9 : decode cX7_lineAt 9 = .ok (.istore 6, 2) := by decide +kernel
theorem dX7_lineAt_11 : decode cX7_lineAt 11 = .ok (.aload_n 0, 1) := by decide +kernel
theorem dX7_lineAt_12 : decode cX7_lineAt 12 = .ok (.getfield 11, 3) := by decide +kernel
theorem dX7_lineAt_15 : decode cX7_lineAt 15 = .ok (.iload 5, 2) := by decide +kernel
theorem dX7_lineAt_17 : decode cX7_lineAt 17 = .ok (.iaload, 1) := by decide +kernel
theorem dX7_lineAt_18 : decode cX7_lineAt 18 = .ok (.iload_n 2, 1) := by decide +kernel
theorem dX7_lineAt_19 : decode cX7_lineAt 19 = .ok (.isub, 1) := by decide +kernel
theorem dX7_lineAt_20 : decode cX7_lineAt 20 = .ok (.istore 7, 2) := by decide +kernel
theorem dX7_lineAt_22 : decode cX7_lineAt 22 = .ok (.iload 7, 2) := by decide +kernel
theorem dX7_lineAt_24 : decode cX7_lineAt 24 = .ok (.iload 6, 2) := by decide +kernel
theorem dX7_lineAt_26 : decode cX7_lineAt 26 = .ok (.if_icmp .ne 6, 3) := by decide +kernel
theorem dX7_lineAt_29 : decode cX7_lineAt 29 = .ok (.ldc 40, 2) := by decide +kernel
theorem dX7_lineAt_31 : decode cX7_lineAt 31 = .ok (.ireturn, 1) := by decide +kernel
theorem dX7_lineAt_32 : decode cX7_lineAt 32 = .ok (.iload 6, 2) := by decide +kernel
theorem dX7_lineAt_34 : decode cX7_lineAt 34 = .ok (.ifCond .ge 12, 3) := by decide +kernel
theorem dX7_lineAt_37 : decode cX7_lineAt 37 = .ok (.iload 7, 2) := by decide +kernel
theorem dX7_lineAt_39 : decode cX7_lineAt 39 = .ok (.ifCond .le 7, 3) := by decide +kernel
theorem dX7_lineAt_42 : decode cX7_lineAt 42 = .ok (.iconst 1, 1) := by decide +kernel
theorem dX7_lineAt_43 : decode cX7_lineAt 43 = .ok (.goto 4, 3) := by decide +kernel
theorem dX7_lineAt_46 : decode cX7_lineAt 46 = .ok (.iconst 0, 1) := by decide +kernel
theorem dX7_lineAt_47 : decode cX7_lineAt 47 = .ok (.istore 8, 2) := by decide +kernel
theorem dX7_lineAt_49 : decode cX7_lineAt 49 = .ok (.iload_n 3, 1) := by decide +kernel
theorem dX7_lineAt_50 : decode cX7_lineAt 50 = .ok (.aload_n 0, 1) := by decide +kernel
theorem dX7_lineAt_51 : decode cX7_lineAt 51 = .ok (.getfield 15, 3) := by decide +kernel
theorem dX7_lineAt_54 : decode cX7_lineAt 54 = .ok (.iload 4, 2) := by decide +kernel
theorem dX7_lineAt_56 : decode cX7_lineAt 56 = .ok (.iaload, 1) := by decide +kernel
theorem dX7_lineAt_57 : decode cX7_lineAt 57 = .ok (.imul, 1) := by decide +kernel
theorem dX7_lineAt_58 : decode cX7_lineAt 58 = .ok (.aload_n 0, 1) := by decide +kernel
theorem dX7_lineAt_59 : decode cX7_lineAt 59 = .ok (.getfield 21, 3) := by decide +kernel
theorem dX7_lineAt_62 : decode cX7_lineAt 62 = .ok (.iload_n 1, 1) := by decide +kernel
theorem dX7_lineAt_63 : decode cX7_lineAt 63 = .ok (.iaload, 1) := by decide +kernel
theorem dX7_lineAt_64 : decode cX7_lineAt 64 = .ok (.iadd, 1) := by decide +kernel
theorem dX7_lineAt_65 : decode cX7_lineAt 65 = .ok (.istore 9, 2) := by decide +kernel
theorem dX7_lineAt_67 : decode cX7_lineAt 67 = .ok (.iload_n 3, 1) := by decide +kernel
theorem dX7_lineAt_68 : decode cX7_lineAt 68 = .ok (.aload_n 0, 1) := by decide +kernel
theorem dX7_lineAt_69 : decode cX7_lineAt 69 = .ok (.getfield 15, 3) := by decide +kernel
theorem dX7_lineAt_72 : decode cX7_lineAt 72 = .ok (.iload 5, 2) := by decide +kernel
theorem dX7_lineAt_74 : decode cX7_lineAt 74 = .ok (.iaload, 1) := by decide +kernel
theorem dX7_lineAt_75 : decode cX7_lineAt 75 = .ok (.imul, 1) := by decide +kernel
theorem dX7_lineAt_76 : decode cX7_lineAt 76 = .ok (.iload 8, 2) := by decide +kernel
theorem dX7_lineAt_78 : decode cX7_lineAt 78 = .ok (.ifCond .eq 12, 3) := by decide +kernel
theorem dX7_lineAt_81 : decode cX7_lineAt 81 = .ok (.aload_n 0, 1) := by decide +kernel
theorem dX7_lineAt_82 : decode cX7_lineAt 82 = .ok (.getfield 21, 3) := by decide +kernel
theorem dX7_lineAt_85 : decode cX7_lineAt 85 = .ok (.iload_n 1, 1) := by decide +kernel
theorem dX7_lineAt_86 : decode cX7_lineAt 86 = .ok (.iaload, 1) := by decide +kernel
theorem dX7_lineAt_87 : decode cX7_lineAt 87 = .ok (.goto 10, 3) := by decide +kernel
theorem dX7_lineAt_90 : decode cX7_lineAt 90 = .ok (.aload_n 0, 1) := by decide +kernel
theorem dX7_lineAt_91 : decode cX7_lineAt 91 = .ok (.getfield 21, 3) := by decide +kernel
theorem dX7_lineAt_94 : decode cX7_lineAt 94 = .ok (.iload_n 1, 1) := by decide +kernel
theorem dX7_lineAt_95 : decode cX7_lineAt 95 = .ok (.iaload, 1) := by decide +kernel
theorem dX7_lineAt_96 : decode cX7_lineAt 96 = .ok (.ineg, 1) := by decide +kernel
theorem dX7_lineAt_97 : decode cX7_lineAt 97 = .ok (.iadd, 1) := by decide +kernel
theorem dX7_lineAt_98 : decode cX7_lineAt 98 = .ok (.istore 10, 2) := by decide +kernel
theorem dX7_lineAt_100 : decode cX7_lineAt 100 = .ok (.iload 10, 2) := by decide +kernel
theorem dX7_lineAt_102 : decode cX7_lineAt 102 = .ok (.iload 6, 2) := by decide +kernel
theorem dX7_lineAt_104 : decode cX7_lineAt 104 = .ok (.imul, 1) := by decide +kernel
theorem dX7_lineAt_105 : decode cX7_lineAt 105 = .ok (.iload 9, 2) := by decide +kernel
theorem dX7_lineAt_107 : decode cX7_lineAt 107 = .ok (.iload 7, 2) := by decide +kernel
theorem dX7_lineAt_109 : decode cX7_lineAt 109 = .ok (.imul, 1) := by decide +kernel
theorem dX7_lineAt_110 : decode cX7_lineAt 110 = .ok (.isub, 1) := by decide +kernel
theorem dX7_lineAt_111 : decode cX7_lineAt 111 = .ok (.iload 7, 2) := by decide +kernel
theorem dX7_lineAt_113 : decode cX7_lineAt 113 = .ok (.iload 6, 2) := by decide +kernel
theorem dX7_lineAt_115 : decode cX7_lineAt 115 = .ok (.isub, 1) := by decide +kernel
theorem dX7_lineAt_116 : decode cX7_lineAt 116 = .ok (.invokestatic 52, 3) := by decide +kernel
theorem dX7_lineAt_119 : decode cX7_lineAt 119 = .ok (.ineg, 1) := by decide +kernel
theorem dX7_lineAt_120 : decode cX7_lineAt 120 = .ok (.ireturn, 1) := by decide +kernel
theorem dX8_init_0 : decode cX8_init 0 = .ok (.aload_n 0, 1) := by decide +kernel
theorem dX8_init_1 : decode cX8_init 1 = .ok (.invokespecial 3, 3) := by decide +kernel
theorem dX8_init_4 : decode cX8_init 4 = .ok (.aload_n 0, 1) := by decide +kernel
theorem dX8_init_5 : decode cX8_init 5 = .ok (.iconst 0, 1) := by decide +kernel
theorem dX8_init_6 : decode cX8_init 6 = .ok (.newarray .int, 2) := by decide +kernel
theorem dX8_init_8 : decode cX8_init 8 = .ok (.putfield 9, 3) := by decide +kernel
theorem dX8_init_11 : decode cX8_init 11 = .ok (.aload_n 0, 1) := by decide +kernel
theorem dX8_init_12 : decode cX8_init 12 = .ok (.iconst 0, 1) := by decide +kernel
theorem dX8_init_13 : decode cX8_init 13 = .ok (.putfield 15, 3) := by decide +kernel
theorem dX8_init_16 : decode cX8_init 16 = .ok (.aload_n 0, 1) := by decide +kernel
theorem dX8_init_17 : decode cX8_init 17 = .ok (.iconst 0, 1) := by decide +kernel
theorem dX8_init_18 : decode cX8_init 18 = .ok (.putfield 19, 3) := by decide +kernel
theorem dX8_init_21 : decode cX8_init 21 = .ok (.aload_n 0, 1) := by decide +kernel
theorem dX8_init_22 : decode cX8_init 22 = .ok (.iconst 0, 1) := by decide +kernel
theorem dX8_init_23 : decode cX8_init 23 = .ok (.putfield 22, 3) := by decide +kernel
theorem dX8_init_26 : decode cX8_init 26 = .ok (.aload_n 0, 1) := by decide +kernel
theorem dX8_init_27 : decode cX8_init 27 = .ok (.iconst 0, 1) := by decide +kernel
theorem dX8_init_28 : decode cX8_init 28 = .ok (.putfield 25, 3) := by decide +kernel
theorem dX8_init_31 : decode cX8_init 31 = .ok (.aload_n 0, 1) := by decide +kernel
theorem dX8_init_32 : decode cX8_init 32 = .ok (.iconst 0, 1) := by decide +kernel
theorem dX8_init_33 : decode cX8_init 33 = .ok (.putfield 28, 3) := by decide +kernel
theorem dX8_init_36 : decode cX8_init 36 = .ok (.aload_n 0, 1) := by decide +kernel
theorem dX8_init_37 : decode cX8_init 37 = .ok (.iconst 0, 1) := by decide +kernel
theorem dX8_init_38 : decode cX8_init 38 = .ok (.putfield 31, 3) := by decide +kernel
theorem dX8_init_41 : decode cX8_init 41 = .ok (.aload_n 0, 1) := by decide +kernel
theorem dX8_init_42 : decode cX8_init 42 = .ok (.iconst (-1), 1) := by decide +kernel
theorem dX8_init_43 : decode cX8_init 43 = .ok (.putfield 34, 3) := by decide +kernel
theorem dX8_init_46 : decode cX8_init 46 = .ok (.return_, 1) := by decide +kernel
theorem dX8_read_0 : decode cX8_read 0 = .ok (.aload_n 0, 1) := by decide +kernel
theorem dX8_read_1 : decode cX8_read 1 = .ok (.aload_n 1, 1) := by decide +kernel
theorem dX8_read_2 : decode cX8_read 2 = .ok (.putfield 9, 3) := by decide +kernel
theorem dX8_read_5 : decode cX8_read 5 = .ok (.aload_n 0, 1) := by decide +kernel
theorem dX8_read_6 : decode cX8_read 6 = .ok (.iload_n 2, 1) := by decide +kernel
theorem dX8_read_7 : decode cX8_read 7 = .ok (.aload_n 1, 1) := by decide +kernel
theorem dX8_read_8 : decode cX8_read 8 = .ok (.arraylength, 1) := by decide +kernel
theorem dX8_read_9 : decode cX8_read 9 = .ok (.invokestatic 37, 3) := by decide +kernel
theorem dX8_read_12 : decode cX8_read 12 = .ok (.putfield 15, 3) := by decide +kernel
theorem dX8_read_15 : decode cX8_read 15 = .ok (.aload_n 0, 1) := by decide +kernel
theorem dX8_read_16 : decode cX8_read 16 = .ok (.iconst 0, 1) := by decide +kernel
theorem dX8_read_17 : decode cX8_read 17 = .ok (.putfield 25, 3) := by decide +kernel
theorem dX8_read_20 : decode cX8_read 20 = .ok (.aload_n 0, 1) := by decide +kernel
theorem dX8_read_21 : decode cX8_read 21 = .ok (.iconst 0, 1) := by decide +kernel
theorem dX8_read_22 : decode cX8_read 22 = .ok (.putfield 31, 3) := by decide +kernel
theorem dX8_read_25 : decode cX8_read 25 = .ok (.aload_n 0, 1) := by decide +kernel
theorem dX8_read_26 : decode cX8_read 26 = .ok (.iconst (-1), 1) := by decide +kernel
theorem dX8_read_27 : decode cX8_read 27 = .ok (.putfield 34, 3) := by decide +kernel
theorem dX8_read_30 : decode cX8_read 30 = .ok (.aload_n 3, 1) := by decide +kernel
theorem dX8_read_31 : decode cX8_read 31 = .ok (.invokevirtual 43, 3) := by decide +kernel
theorem dX8_read_34 : decode cX8_read 34 = .ok (.aload_n 0, 1) := by decide +kernel
theorem dX8_read_35 : decode cX8_read 35 = .ok (.invokevirtual 48, 3) := by decide +kernel
theorem dX8_read_38 : decode cX8_read 38 = .ok (.iconst 0, 1) := by decide +kernel
theorem dX8_read_39 : decode cX8_read 39 = .ok (.istore 4, 2) := by decide +kernel
theorem dX8_read_41 : decode cX8_read 41 = .ok (.iload 4, 2) := by decide +kernel
theorem dX8_read_43 : decode cX8_read 43 = .ok (.sipush 600, 3) := by decide +kernel
theorem dX8_read_46 : decode cX8_read 46 = .ok (.if_icmp .ge 113, 3) := by decide +kernel
theorem dX8_read_49 : decode cX8_read 49 = .ok (.aload_n 0, 1) := by decide +kernel
theorem dX8_read_50 : decode cX8_read 50 = .ok (.getfield 31, 3) := by decide +kernel
theorem dX8_read_53 : decode cX8_read 53 = .ok (.ifCond .ne 106, 3) := by decide +kernel
theorem dX8_read_56 : decode cX8_read 56 = .ok (.aload_n 0, 1) := by decide +kernel
theorem dX8_read_57 : decode cX8_read 57 = .ok (.getfield 19, 3) := by decide +kernel
theorem dX8_read_60 : decode cX8_read 60 = .ok (.ifCond .eq 99, 3) := by decide +kernel
theorem dX8_read_63 : decode cX8_read 63 = .ok (.aload_n 0, 1) := by decide +kernel
theorem dX8_read_64 : decode cX8_read 64 = .ok (.ldc 51, 2) := by decide +kernel
theorem dX8_read_66 : decode cX8_read 66 = .ok (.invokevirtual 53, 3) := by decide +kernel
theorem dX8_read_69 : decode cX8_read 69 = .ok (.ifCond .eq 11, 3) := by decide +kernel
theorem dX8_read_72 : decode cX8_read 72 = .ok (.aload_n 0, 1) := by decide +kernel
theorem dX8_read_73 : decode cX8_read 73 = .ok (.aload_n 3, 1) := by decide +kernel
theorem dX8_read_74 : decode cX8_read 74 = .ok (.invokevirtual 57, 3) := by decide +kernel
theorem dX8_read_77 : decode cX8_read 77 = .ok (.goto 76, 3) := by decide +kernel
theorem dX8_read_80 : decode cX8_read 80 = .ok (.aload_n 0, 1) := by decide +kernel
theorem dX8_read_81 : decode cX8_read 81 = .ok (.ldc 61, 2) := by decide +kernel
theorem dX8_read_83 : decode cX8_read 83 = .ok (.invokevirtual 53, 3) := by decide +kernel
theorem dX8_read_86 : decode cX8_read 86 = .ok (.ifCond .eq 11, 3) := by decide +kernel
theorem dX8_read_89 : decode cX8_read 89 = .ok (.aload_n 0, 1) := by decide +kernel
theorem dX8_read_90 : decode cX8_read 90 = .ok (.aload_n 3, 1) := by decide +kernel
theorem dX8_read_91 : decode cX8_read 91 = .ok (.invokevirtual 63, 3) := by decide +kernel
theorem dX8_read_94 : decode cX8_read 94 = .ok (.goto 59, 3) := by decide +kernel
theorem dX8_read_97 : decode cX8_read 97 = .ok (.aload_n 0, 1) := by decide +kernel
theorem dX8_read_98 : decode cX8_read 98 = .ok (.ldc 66, 2) := by decide +kernel
theorem dX8_read_100 : decode cX8_read 100 = .ok (.invokevirtual 53, 3) := by decide +kernel
theorem dX8_read_103 : decode cX8_read 103 = .ok (.ifCond .eq 11, 3) := by decide +kernel
theorem dX8_read_106 : decode cX8_read 106 = .ok (.aload_n 0, 1) := by decide +kernel
theorem dX8_read_107 : decode cX8_read 107 = .ok (.aload_n 3, 1) := by decide +kernel
theorem dX8_read_108 : decode cX8_read 108 = .ok (.invokevirtual 68, 3) := by decide +kernel
theorem dX8_read_111 : decode cX8_read 111 = .ok (.goto 42, 3) := by decide +kernel
theorem dX8_read_114 : decode cX8_read 114 = .ok (.aload_n 0, 1) := by decide +kernel
theorem dX8_read_115 : decode cX8_read 115 = .ok (.ldc 71, 2) := by decide +kernel
theorem dX8_read_117 : decode cX8_read 117 = .ok (.invokevirtual 53, 3) := by decide +kernel
theorem dX8_read_120 : decode cX8_read 120 = .ok (.ifCond .eq 11, 3) := by decide +kernel
theorem dX8_read_123 : decode cX8_read 123 = .ok (.aload_n 0, 1) := by decide +kernel
theorem dX8_read_124 : decode cX8_read 124 = .ok (.aload_n 3, 1) := by decide +kernel
theorem dX8_read_125 : decode cX8_read 125 = .ok (.invokevirtual 73, 3) := by decide +kernel
theorem dX8_read_128 : decode cX8_read 128 = .ok (.goto 25, 3) := by decide +kernel
theorem dX8_read_131 : decode cX8_read 131 = .ok (.aload_n 0, 1) := by decide +kernel
theorem dX8_read_132 : decode cX8_read 132 = .ok (.ldc 76, 2) := by decide +kernel
theorem dX8_read_134 : decode cX8_read 134 = .ok (.invokevirtual 53, 3) := by decide +kernel
theorem dX8_read_137 : decode cX8_read 137 = .ok (.ifCond .eq 11, 3) := by decide +kernel
theorem dX8_read_140 : decode cX8_read 140 = .ok (.aload_n 0, 1) := by decide +kernel
theorem dX8_read_141 : decode cX8_read 141 = .ok (.aload_n 3, 1) := by decide +kernel
theorem dX8_read_142 : decode cX8_read 142 = .ok (.invokevirtual 78, 3) := by decide +kernel
theorem dX8_read_145 : decode cX8_read 145 = .ok (.goto 8, 3) := by decide +kernel
theorem dX8_read_148 : decode cX8_read 148 = .ok (.aload_n 0, 1) := by decide +kernel
theorem dX8_read_149 : decode cX8_read 149 = .ok (.iconst 1, 1) := by decide +kernel
theorem dX8_read_150 : decode cX8_read 150 = .ok (.invokevirtual 81, 3) := by decide +kernel
theorem dX8_read_153 : decode cX8_read 153 = .ok (.iinc 4 1, 3) := by decide +kernel
theorem dX8_read_156 : decode cX8_read 156 = .ok (.goto (-115), 3) := by decide +kernel
theorem dX8_read_159 : decode cX8_read 159 = .ok (.aload_n 0, 1) := by decide +kernel
theorem dX8_read_160 : decode cX8_read 160 = .ok (.getfield 31, 3) := by decide +kernel
theorem dX8_read_163 : decode cX8_read 163 = .ok (.ireturn, 1) := by decide +kernel
theorem dX8_readChimney_0 : decode cX8_readChimney 0 = .ok (.aload_n 1, 1) := by decide +kernel
theorem dX8_readChimney_1 : decode cX8_readChimney 1 = .ok (.getfield 85, 3) := by decide +kernel
theorem dX8_readChimney_4 : decode cX8_readChimney 4 = .ok (.bipush 12, 2) := by decide +kernel
theorem dX8_readChimney_6 : decode cX8_readChimney 6 = .ok (.if_icmp .lt 9, 3) := by decide +kernel
theorem dX8_readChimney_9 : decode cX8_readChimney 9 = .ok (.aload_n 0, 1) := by decide +kernel
theorem dX8_readChimney_10 : decode cX8_readChimney 10 = .ok (.iconst 2, 1) := by decide +kernel
theorem dX8_readChimney_11 : decode cX8_readChimney 11 = .ok (.invokevirtual 81, 3) := by decide +kernel
theorem dX8_readChimney_14 : decode cX8_readChimney 14 = .ok (.return_, 1) := by decide +kernel
theorem dX8_readChimney_15 : decode cX8_readChimney 15 = .ok (.aload_n 0, 1) := by decide +kernel
theorem dX8_readChimney_16 : decode cX8_readChimney 16 = .ok (.invokevirtual 48, 3) := by decide +kernel
theorem dX8_readChimney_19 : decode cX8_readChimney 19 = .ok (.aload_n 0, 1) := by decide +kernel
theorem dX8_readChimney_20 : decode cX8_readChimney 20 = .ok (.iconst 1, 1) := by decide +kernel
theorem dX8_readChimney_21 : decode cX8_readChimney 21 = .ok (.sipush 200, 3) := by decide +kernel
theorem dX8_readChimney_24 : decode cX8_readChimney 24 = .ok (.invokevirtual 88, 3) := by decide +kernel
theorem dX8_readChimney_27 : decode cX8_readChimney 27 = .ok (.istore_n 2, 1) := by decide +kernel
theorem dX8_readChimney_28 : decode cX8_readChimney 28 = .ok (.aload_n 0, 1) := by decide +kernel
theorem dX8_readChimney_29 : decode cX8_readChimney 29 = .ok (.invokevirtual 91, 3) := by decide +kernel
theorem dX8_readChimney_32 : decode cX8_readChimney 32 = .ok (.aload_n 0, 1) := by decide +kernel
theorem dX8_readChimney_33 : decode cX8_readChimney 33 = .ok (.getfield 31, 3) := by decide +kernel
theorem dX8_readChimney_36 : decode cX8_readChimney 36 = .ok (.ifCond .ne 23, 3) := by decide +kernel
theorem dX8_readChimney_39 : decode cX8_readChimney 39 = .ok (.aload_n 1, 1) := by decide +kernel
theorem dX8_readChimney_40 : decode cX8_readChimney 40 = .ok (.getfield 94, 3) := by decide +kernel
theorem dX8_readChimney_43 : decode cX8_readChimney 43 = .ok (.aload_n 1, 1) := by decide +kernel
theorem dX8_readChimney_44 : decode cX8_readChimney 44 = .ok (.getfield 85, 3) := by decide +kernel
theorem dX8_readChimney_47 : decode cX8_readChimney 47 = .ok (.iload_n 2, 1) := by decide +kernel
theorem dX8_readChimney_48 : decode cX8_readChimney 48 = .ok (.iastore, 1) := by decide +kernel
theorem dX8_readChimney_49 : decode cX8_readChimney 49 = .ok (.aload_n 1, 1) := by decide +kernel
theorem dX8_readChimney_50 : decode cX8_readChimney 50 = .ok (.dup, 1) := by decide +kernel
theorem dX8_readChimney_51 : decode cX8_readChimney 51 = .ok (.getfield 85, 3) := by decide +kernel
theorem dX8_readChimney_54 : decode cX8_readChimney 54 = .ok (.iconst 1, 1) := by decide +kernel
theorem dX8_readChimney_55 : decode cX8_readChimney 55 = .ok (.iadd, 1) := by decide +kernel
theorem dX8_readChimney_56 : decode cX8_readChimney 56 = .ok (.putfield 85, 3) := by decide +kernel
theorem dX8_readChimney_59 : decode cX8_readChimney 59 = .ok (.return_, 1) := by decide +kernel
theorem dX8_readWinds_0 : decode cX8_readWinds 0 = .ok (.aload_n 0, 1) := by decide +kernel
theorem dX8_readWinds_1 : decode cX8_readWinds 1 = .ok (.invokevirtual 48, 3) := by decide +kernel
theorem dX8_readWinds_4 : decode cX8_readWinds 4 = .ok (.aload_n 0, 1) := by decide +kernel
theorem dX8_readWinds_5 : decode cX8_readWinds 5 = .ok (.aload_n 1, 1) := by decide +kernel
theorem dX8_readWinds_6 : decode cX8_readWinds 6 = .ok (.invokevirtual 97, 3) := by decide +kernel
theorem dX8_readWinds_9 : decode cX8_readWinds 9 = .ok (.iconst 0, 1) := by decide +kernel
theorem dX8_readWinds_10 : decode cX8_readWinds 10 = .ok (.istore_n 2, 1) := by decide +kernel
theorem dX8_readWinds_11 : decode cX8_readWinds 11 = .ok (.iload_n 2, 1) := by decide +kernel
theorem dX8_readWinds_12 : decode cX8_readWinds 12 = .ok (.bipush 30, 2) := by decide +kernel
theorem dX8_readWinds_14 : decode cX8_readWinds 14 = .ok (.if_icmp .ge 29, 3) := by decide +kernel
theorem dX8_readWinds_17 : decode cX8_readWinds 17 = .ok (.aload_n 0, 1) := by decide +kernel
theorem dX8_readWinds_18 : decode cX8_readWinds 18 = .ok (.getfield 31, 3) := by decide +kernel
theorem dX8_readWinds_21 : decode cX8_readWinds 21 = .ok (.ifCond .ne 22, 3) := by decide +kernel
theorem dX8_readWinds_24 : decode cX8_readWinds 24 = .ok (.aload_n 0, 1) := by decide +kernel
theorem dX8_readWinds_25 : decode cX8_readWinds 25 = .ok (.getfield 19, 3) := by decide +kernel
theorem dX8_readWinds_28 : decode cX8_readWinds 28 = .ok (.iconst 2, 1) := by decide +kernel
theorem dX8_readWinds_29 : decode cX8_readWinds 29 = .ok (.if_icmp .ne 14, 3) := by decide +kernel
theorem dX8_readWinds_32 : decode cX8_readWinds 32 = .ok (.aload_n 0, 1) := by decide +kernel
theorem dX8_readWinds_33 : decode cX8_readWinds 33 = .ok (.aload_n 1, 1) := by decide +kernel
theorem dX8_readWinds_34 : decode cX8_readWinds 34 = .ok (.invokevirtual 97, 3) := by decide +kernel
theorem dX8_readWinds_37 : decode cX8_readWinds 37 = .ok (.iinc 2 1, 3) := by decide +kernel
theorem dX8_readWinds_40 : decode cX8_readWinds 40 = .ok (.goto (-29), 3) := by decide +kernel
theorem dX8_readWinds_43 : decode cX8_readWinds 43 = .ok (.aload_n 0, 1) := by decide +kernel
theorem dX8_readWinds_44 : decode cX8_readWinds 44 = .ok (.invokevirtual 91, 3) := by decide +kernel
theorem dX8_readWinds_47 : decode cX8_readWinds 47 = .ok (.return_, 1) := by decide +kernel
theorem dX8_takeDaysWind_0 : decode cX8_takeDaysWind 0 = .ok (.aload_n 0, 1) := by decide +kernel
theorem dX8_takeDaysWind_1 : decode cX8_takeDaysWind 1 = .ok (.getfield 19, 3) := by decide +kernel
theorem dX8_takeDaysWind_4 : decode cX8_takeDaysWind 4 = .ok (.iconst 2, 1) := by decide +kernel
theorem dX8_takeDaysWind_5 : decode cX8_takeDaysWind 5 = .ok (.if_icmp .ne 17, 3) := by decide +kernel
theorem dX8_takeDaysWind_8 : decode cX8_takeDaysWind 8 = .ok (.aload_n 1, 1) := by decide +kernel
theorem dX8_takeDaysWind_9 : decode cX8_takeDaysWind 9 = .ok (.getfield 100, 3) := by decide +kernel
theorem dX8_takeDaysWind_12 : decode cX8_takeDaysWind 12 = .ok (.bipush 30, 2) := by decide +kernel
theorem dX8_takeDaysWind_14 : decode cX8_takeDaysWind 14 = .ok (.if_icmp .lt 8, 3) := by decide +kernel
theorem dX8_takeDaysWind_17 : decode cX8_takeDaysWind 17 = .ok (.aload_n 0, 1) := by decide +kernel
theorem dX8_takeDaysWind_18 : decode cX8_takeDaysWind 18 = .ok (.iconst 2, 1) := by decide +kernel
theorem dX8_takeDaysWind_19 : decode cX8_takeDaysWind 19 = .ok (.invokevirtual 81, 3) := by decide +kernel
theorem dX8_takeDaysWind_22 : decode cX8_takeDaysWind 22 = .ok (.aload_n 0, 1) := by decide +kernel
theorem dX8_takeDaysWind_23 : decode cX8_takeDaysWind 23 = .ok (.iconst 0, 1) := by decide +kernel
theorem dX8_takeDaysWind_24 : decode cX8_takeDaysWind 24 = .ok (.bipush 12, 2) := by decide +kernel
theorem dX8_takeDaysWind_26 : decode cX8_takeDaysWind 26 = .ok (.invokevirtual 88, 3) := by decide +kernel
theorem dX8_takeDaysWind_29 : decode cX8_takeDaysWind 29 = .ok (.istore_n 2, 1) := by decide +kernel
theorem dX8_takeDaysWind_30 : decode cX8_takeDaysWind 30 = .ok (.aload_n 0, 1) := by decide +kernel
theorem dX8_takeDaysWind_31 : decode cX8_takeDaysWind 31 = .ok (.getfield 31, 3) := by decide +kernel
theorem dX8_takeDaysWind_34 : decode cX8_takeDaysWind 34 = .ok (.ifCond .ne 23, 3) := by decide +kernel
theorem dX8_takeDaysWind_37 : decode cX8_takeDaysWind 37 = .ok (.aload_n 1, 1) := by decide +kernel
theorem dX8_takeDaysWind_38 : decode cX8_takeDaysWind 38 = .ok (.getfield 103, 3) := by decide +kernel
theorem dX8_takeDaysWind_41 : decode cX8_takeDaysWind 41 = .ok (.aload_n 1, 1) := by decide +kernel
theorem dX8_takeDaysWind_42 : decode cX8_takeDaysWind 42 = .ok (.getfield 100, 3) := by decide +kernel
theorem dX8_takeDaysWind_45 : decode cX8_takeDaysWind 45 = .ok (.iload_n 2, 1) := by decide +kernel
theorem dX8_takeDaysWind_46 : decode cX8_takeDaysWind 46 = .ok (.iastore, 1) := by decide +kernel
theorem dX8_takeDaysWind_47 : decode cX8_takeDaysWind 47 = .ok (.aload_n 1, 1) := by decide +kernel
theorem dX8_takeDaysWind_48 : decode cX8_takeDaysWind 48 = .ok (.dup, 1) := by decide +kernel
theorem dX8_takeDaysWind_49 : decode cX8_takeDaysWind 49 = .ok (.getfield 100, 3) := by decide +kernel
theorem dX8_takeDaysWind_52 : decode cX8_takeDaysWind 52 = .ok (.iconst 1, 1) := by decide +kernel
theorem dX8_takeDaysWind_53 : decode cX8_takeDaysWind 53 = .ok (.iadd, 1) := by decide +kernel
theorem dX8_takeDaysWind_54 : decode cX8_takeDaysWind 54 = .ok (.putfield 100, 3) := by decide +kernel
theorem dX8_takeDaysWind_57 : decode cX8_takeDaysWind 57 = .ok (.return_, 1) := by decide +kernel
theorem dX8_readLetter_0 : decode cX8_readLetter 0 = .ok (.aload_n 1, 1) := by decide +kernel
theorem dX8_readLetter_1 : decode cX8_readLetter 1 = .ok (.getfield 105, 3) := by decide +kernel
theorem dX8_readLetter_4 : decode cX8_readLetter 4 = .ok (.bipush 8, 2) := by decide +kernel
theorem dX8_readLetter_6 : decode cX8_readLetter 6 = .ok (.if_icmp .lt 9, 3) := by decide +kernel
theorem dX8_readLetter_9 : decode cX8_readLetter 9 = .ok (.aload_n 0, 1) := by decide +kernel
theorem dX8_readLetter_10 : decode cX8_readLetter 10 = .ok (.iconst 2, 1) := by decide +kernel
theorem dX8_readLetter_11 : decode cX8_readLetter 11 = .ok (.invokevirtual 81, 3) := by decide +kernel
theorem dX8_readLetter_14 : decode cX8_readLetter 14 = .ok (.return_, 1) := by decide +kernel
theorem dX8_readLetter_15 : decode cX8_readLetter 15 = .ok (.aload_n 0, 1) := by decide +kernel
theorem dX8_readLetter_16 : decode cX8_readLetter 16 = .ok (.invokevirtual 48, 3) := by decide +kernel
theorem dX8_readLetter_19 : decode cX8_readLetter 19 = .ok (.aload_n 1, 1) := by decide +kernel
theorem dX8_readLetter_20 : decode cX8_readLetter 20 = .ok (.getfield 105, 3) := by decide +kernel
theorem dX8_readLetter_23 : decode cX8_readLetter 23 = .ok (.istore_n 2, 1) := by decide +kernel
theorem dX8_readLetter_24 : decode cX8_readLetter 24 = .ok (.aload_n 1, 1) := by decide +kernel
theorem dX8_readLetter_25 : decode cX8_readLetter 25 = .ok (.iload_n 2, 1) := by decide +kernel
theorem dX8_readLetter_26 : decode cX8_readLetter 26 = .ok (.iconst 0, 1) := by decide +kernel
theorem dX8_readLetter_27 : decode cX8_readLetter 27 = .ok (.aload_n 0, 1) := by decide +kernel
theorem dX8_readLetter_28 : decode cX8_readLetter 28 = .ok (.aload_n 1, 1) := by decide +kernel
theorem dX8_readLetter_29 : decode cX8_readLetter 29 = .ok (.iconst (-1), 1) := by decide +kernel
theorem dX8_readLetter_30 : decode cX8_readLetter 30 = .ok (.invokevirtual 108, 3) := by decide +kernel
theorem dX8_readLetter_33 : decode cX8_readLetter 33 = .ok (.invokevirtual 112, 3) := by decide +kernel
theorem dX8_readLetter_36 : decode cX8_readLetter 36 = .ok (.aload_n 0, 1) := by decide +kernel
theorem dX8_readLetter_37 : decode cX8_readLetter 37 = .ok (.ldc 116, 2) := by decide +kernel
theorem dX8_readLetter_39 : decode cX8_readLetter 39 = .ok (.invokevirtual 117, 3) := by decide +kernel
theorem dX8_readLetter_42 : decode cX8_readLetter 42 = .ok (.aload_n 1, 1) := by decide +kernel
theorem dX8_readLetter_43 : decode cX8_readLetter 43 = .ok (.iload_n 2, 1) := by decide +kernel
theorem dX8_readLetter_44 : decode cX8_readLetter 44 = .ok (.iconst 1, 1) := by decide +kernel
theorem dX8_readLetter_45 : decode cX8_readLetter 45 = .ok (.aload_n 0, 1) := by decide +kernel
theorem dX8_readLetter_46 : decode cX8_readLetter 46 = .ok (.iconst 1, 1) := by decide +kernel
theorem dX8_readLetter_47 : decode cX8_readLetter 47 = .ok (.bipush 9, 2) := by decide +kernel
theorem dX8_readLetter_49 : decode cX8_readLetter 49 = .ok (.invokevirtual 88, 3) := by decide +kernel
theorem dX8_readLetter_52 : decode cX8_readLetter 52 = .ok (.invokevirtual 112, 3) := by decide +kernel
theorem dX8_readLetter_55 : decode cX8_readLetter 55 = .ok (.aload_n 0, 1) := by decide +kernel
theorem dX8_readLetter_56 : decode cX8_readLetter 56 = .ok (.ldc 121, 2) := by decide +kernel
theorem dX8_readLetter_58 : decode cX8_readLetter 58 = .ok (.invokevirtual 117, 3) := by decide +kernel
theorem dX8_readLetter_61 : decode cX8_readLetter 61 = .ok (.aload_n 1, 1) := by decide +kernel
theorem dX8_readLetter_62 : decode cX8_readLetter 62 = .ok (.iload_n 2, 1) := by decide +kernel
theorem dX8_readLetter_63 : decode cX8_readLetter 63 = .ok (.iconst 2, 1) := by decide +kernel
theorem dX8_readLetter_64 : decode cX8_readLetter 64 = .ok (.aload_n 0, 1) := by decide +kernel
theorem dX8_readLetter_65 : decode cX8_readLetter 65 = .ok (.iconst 0, 1) := by decide +kernel
theorem dX8_readLetter_66 : decode cX8_readLetter 66 = .ok (.bipush 12, 2) := by decide +kernel
theorem dX8_readLetter_68 : decode cX8_readLetter 68 = .ok (.invokevirtual 88, 3) := by decide +kernel
theorem dX8_readLetter_71 : decode cX8_readLetter 71 = .ok (.invokevirtual 112, 3) := by decide +kernel
theorem dX8_readLetter_74 : decode cX8_readLetter 74 = .ok (.aload_n 0, 1) := by decide +kernel
theorem dX8_readLetter_75 : decode cX8_readLetter 75 = .ok (.ldc 123, 2) := by decide +kernel
theorem dX8_readLetter_77 : decode cX8_readLetter 77 = .ok (.invokevirtual 117, 3) := by decide +kernel
theorem dX8_readLetter_80 : decode cX8_readLetter 80 = .ok (.aload_n 0, 1) := by decide +kernel
theorem dX8_readLetter_81 : decode cX8_readLetter 81 = .ok (.iconst 0, 1) := by decide +kernel
theorem dX8_readLetter_82 : decode cX8_readLetter 82 = .ok (.bipush 29, 2) := by decide +kernel
theorem dX8_readLetter_84 : decode cX8_readLetter 84 = .ok (.invokevirtual 88, 3) := by decide +kernel
theorem dX8_readLetter_87 : decode cX8_readLetter 87 = .ok (.istore_n 3, 1) := by decide +kernel
theorem dX8_readLetter_88 : decode cX8_readLetter 88 = .ok (.aload_n 1, 1) := by decide +kernel
theorem dX8_readLetter_89 : decode cX8_readLetter 89 = .ok (.iload_n 2, 1) := by decide +kernel
theorem dX8_readLetter_90 : decode cX8_readLetter 90 = .ok (.iconst 3, 1) := by decide +kernel
theorem dX8_readLetter_91 : decode cX8_readLetter 91 = .ok (.iload_n 3, 1) := by decide +kernel
theorem dX8_readLetter_92 : decode cX8_readLetter 92 = .ok (.invokevirtual 112, 3) := by decide +kernel
theorem dX8_readLetter_95 : decode cX8_readLetter 95 = .ok (.aload_n 0, 1) := by decide +kernel
theorem dX8_readLetter_96 : decode cX8_readLetter 96 = .ok (.ldc 125, 2) := by decide +kernel
theorem dX8_readLetter_98 : decode cX8_readLetter 98 = .ok (.invokevirtual 117, 3) := by decide +kernel
theorem dX8_readLetter_101 : decode cX8_readLetter 101 = .ok (.aload_n 1, 1) := by decide +kernel
theorem dX8_readLetter_102 : decode cX8_readLetter 102 = .ok (.iload_n 2, 1) := by decide +kernel
theorem dX8_readLetter_103 : decode cX8_readLetter 103 = .ok (.iconst 4, 1) := by decide +kernel
theorem dX8_readLetter_104 : decode cX8_readLetter 104 = .ok (.aload_n 0, 1) := by decide +kernel
theorem dX8_readLetter_105 : decode cX8_readLetter 105 = .ok (.iload_n 3, 1) := by decide +kernel
theorem dX8_readLetter_106 : decode cX8_readLetter 106 = .ok (.invokevirtual 127, 3) := by decide +kernel
theorem dX8_readLetter_109 : decode cX8_readLetter 109 = .ok (.invokevirtual 112, 3) := by decide +kernel
theorem dX8_readLetter_112 : decode cX8_readLetter 112 = .ok (.aload_n 0, 1) := by decide +kernel
theorem dX8_readLetter_113 : decode cX8_readLetter 113 = .ok (.ldc 131, 2) := by decide +kernel
theorem dX8_readLetter_115 : decode cX8_readLetter 115 = .ok (.invokevirtual 117, 3) := by decide +kernel
theorem dX8_readLetter_118 : decode cX8_readLetter 118 = .ok (.aload_n 1, 1) := by decide +kernel
theorem dX8_readLetter_119 : decode cX8_readLetter 119 = .ok (.iload_n 2, 1) := by decide +kernel
theorem dX8_readLetter_120 : decode cX8_readLetter 120 = .ok (.iconst 5, 1) := by decide +kernel
theorem dX8_readLetter_121 : decode cX8_readLetter 121 = .ok (.aload_n 0, 1) := by decide +kernel
theorem dX8_readLetter_122 : decode cX8_readLetter 122 = .ok (.iconst 0, 1) := by decide +kernel
theorem dX8_readLetter_123 : decode cX8_readLetter 123 = .ok (.sipush 9999, 3) := by decide +kernel
theorem dX8_readLetter_126 : decode cX8_readLetter 126 = .ok (.invokevirtual 88, 3) := by decide +kernel
theorem dX8_readLetter_129 : decode cX8_readLetter 129 = .ok (.invokevirtual 112, 3) := by decide +kernel
theorem dX8_readLetter_132 : decode cX8_readLetter 132 = .ok (.aload_n 0, 1) := by decide +kernel
theorem dX8_readLetter_133 : decode cX8_readLetter 133 = .ok (.invokevirtual 91, 3) := by decide +kernel
theorem dX8_readLetter_136 : decode cX8_readLetter 136 = .ok (.aload_n 0, 1) := by decide +kernel
theorem dX8_readLetter_137 : decode cX8_readLetter 137 = .ok (.getfield 31, 3) := by decide +kernel
theorem dX8_readLetter_140 : decode cX8_readLetter 140 = .ok (.ifCond .ne 13, 3) := by decide +kernel
theorem dX8_readLetter_143 : decode cX8_readLetter 143 = .ok (.aload_n 1, 1) := by decide +kernel
theorem dX8_readLetter_144 : decode cX8_readLetter 144 = .ok (.dup, 1) := by decide +kernel
theorem dX8_readLetter_145 : decode cX8_readLetter 145 = .ok (.getfield 105, 3) := by decide +kernel
theorem dX8_readLetter_148 : decode cX8_readLetter 148 = .ok (.iconst 1, 1) := by decide +kernel
theorem dX8_readLetter_149 : decode cX8_readLetter 149 = .ok (.iadd, 1) := by decide +kernel
theorem dX8_readLetter_150 : decode cX8_readLetter 150 = .ok (.putfield 105, 3) := by decide +kernel
theorem dX8_readLetter_153 : decode cX8_readLetter 153 = .ok (.return_, 1) := by decide +kernel
theorem dX8_readRoad_0 : decode cX8_readRoad 0 = .ok (.aload_n 0, 1) := by decide +kernel
theorem dX8_readRoad_1 : decode cX8_readRoad 1 = .ok (.invokevirtual 48, 3) := by decide +kernel
theorem dX8_readRoad_4 : decode cX8_readRoad 4 = .ok (.aload_n 0, 1) := by decide +kernel
theorem dX8_readRoad_5 : decode cX8_readRoad 5 = .ok (.aload_n 1, 1) := by decide +kernel
theorem dX8_readRoad_6 : decode cX8_readRoad 6 = .ok (.iconst (-1), 1) := by decide +kernel
theorem dX8_readRoad_7 : decode cX8_readRoad 7 = .ok (.invokevirtual 108, 3) := by decide +kernel
theorem dX8_readRoad_10 : decode cX8_readRoad 10 = .ok (.istore_n 2, 1) := by decide +kernel
theorem dX8_readRoad_11 : decode cX8_readRoad 11 = .ok (.aload_n 0, 1) := by decide +kernel
theorem dX8_readRoad_12 : decode cX8_readRoad 12 = .ok (.aload_n 1, 1) := by decide +kernel
theorem dX8_readRoad_13 : decode cX8_readRoad 13 = .ok (.iload_n 2, 1) := by decide +kernel
theorem dX8_readRoad_14 : decode cX8_readRoad 14 = .ok (.invokevirtual 108, 3) := by decide +kernel
theorem dX8_readRoad_17 : decode cX8_readRoad 17 = .ok (.istore_n 3, 1) := by decide +kernel
theorem dX8_readRoad_18 : decode cX8_readRoad 18 = .ok (.aload_n 0, 1) := by decide +kernel
theorem dX8_readRoad_19 : decode cX8_readRoad 19 = .ok (.ldc 133, 2) := by decide +kernel
theorem dX8_readRoad_21 : decode cX8_readRoad 21 = .ok (.invokevirtual 117, 3) := by decide +kernel
theorem dX8_readRoad_24 : decode cX8_readRoad 24 = .ok (.aload_n 0, 1) := by decide +kernel
theorem dX8_readRoad_25 : decode cX8_readRoad 25 = .ok (.iconst 0, 1) := by decide +kernel
theorem dX8_readRoad_26 : decode cX8_readRoad 26 = .ok (.bipush 9, 2) := by decide +kernel
theorem dX8_readRoad_28 : decode cX8_readRoad 28 = .ok (.invokevirtual 88, 3) := by decide +kernel
theorem dX8_readRoad_31 : decode cX8_readRoad 31 = .ok (.istore 4, 2) := by decide +kernel
theorem dX8_readRoad_33 : decode cX8_readRoad 33 = .ok (.aload_n 0, 1) := by decide +kernel
theorem dX8_readRoad_34 : decode cX8_readRoad 34 = .ok (.invokevirtual 91, 3) := by decide +kernel
theorem dX8_readRoad_37 : decode cX8_readRoad 37 = .ok (.aload_n 0, 1) := by decide +kernel
theorem dX8_readRoad_38 : decode cX8_readRoad 38 = .ok (.getfield 31, 3) := by decide +kernel
theorem dX8_readRoad_41 : decode cX8_readRoad 41 = .ok (.ifCond .ne 11, 3) := by decide +kernel
theorem dX8_readRoad_44 : decode cX8_readRoad 44 = .ok (.aload_n 1, 1) := by decide +kernel
theorem dX8_readRoad_45 : decode cX8_readRoad 45 = .ok (.iload_n 2, 1) := by decide +kernel
theorem dX8_readRoad_46 : decode cX8_readRoad 46 = .ok (.iload_n 3, 1) := by decide +kernel
theorem dX8_readRoad_47 : decode cX8_readRoad 47 = .ok (.iload 4, 2) := by decide +kernel
theorem dX8_readRoad_49 : decode cX8_readRoad 49 = .ok (.invokevirtual 135, 3) := by decide +kernel
theorem dX8_readRoad_52 : decode cX8_readRoad 52 = .ok (.return_, 1) := by decide +kernel
theorem dX8_readNest_0 : decode cX8_readNest 0 = .ok (.aload_n 1, 1) := by decide +kernel
theorem dX8_readNest_1 : decode cX8_readNest 1 = .ok (.getfield 138, 3) := by decide +kernel
theorem dX8_readNest_4 : decode cX8_readNest 4 = .ok (.bipush 12, 2) := by decide +kernel
theorem dX8_readNest_6 : decode cX8_readNest 6 = .ok (.if_icmp .lt 9, 3) := by decide +kernel
theorem dX8_readNest_9 : decode cX8_readNest 9 = .ok (.aload_n 0, 1) := by decide +kernel
theorem dX8_readNest_10 : decode cX8_readNest 10 = .ok (.iconst 2, 1) := by decide +kernel
theorem dX8_readNest_11 : decode cX8_readNest 11 = .ok (.invokevirtual 81, 3) := by decide +kernel
theorem dX8_readNest_14 : decode cX8_readNest 14 = .ok (.return_, 1) := by decide +kernel
theorem dX8_readNest_15 : decode cX8_readNest 15 = .ok (.aload_n 0, 1) := by decide +kernel
theorem dX8_readNest_16 : decode cX8_readNest 16 = .ok (.invokevirtual 48, 3) := by decide +kernel
theorem dX8_readNest_19 : decode cX8_readNest 19 = .ok (.aload_n 0, 1) := by decide +kernel
theorem dX8_readNest_20 : decode cX8_readNest 20 = .ok (.aload_n 1, 1) := by decide +kernel
theorem dX8_readNest_21 : decode cX8_readNest 21 = .ok (.iconst (-1), 1) := by decide +kernel
theorem dX8_readNest_22 : decode cX8_readNest 22 = .ok (.invokevirtual 108, 3) := by decide +kernel
theorem dX8_readNest_25 : decode cX8_readNest 25 = .ok (.istore_n 2, 1) := by decide +kernel
theorem dX8_readNest_26 : decode cX8_readNest 26 = .ok (.aload_n 0, 1) := by decide +kernel
theorem dX8_readNest_27 : decode cX8_readNest 27 = .ok (.ldc 123, 2) := by decide +kernel
theorem dX8_readNest_29 : decode cX8_readNest 29 = .ok (.invokevirtual 117, 3) := by decide +kernel
theorem dX8_readNest_32 : decode cX8_readNest 32 = .ok (.aload_n 0, 1) := by decide +kernel
theorem dX8_readNest_33 : decode cX8_readNest 33 = .ok (.iconst 0, 1) := by decide +kernel
theorem dX8_readNest_34 : decode cX8_readNest 34 = .ok (.bipush 29, 2) := by decide +kernel
theorem dX8_readNest_36 : decode cX8_readNest 36 = .ok (.invokevirtual 88, 3) := by decide +kernel
theorem dX8_readNest_39 : decode cX8_readNest 39 = .ok (.istore_n 3, 1) := by decide +kernel
theorem dX8_readNest_40 : decode cX8_readNest 40 = .ok (.aload_n 0, 1) := by decide +kernel
theorem dX8_readNest_41 : decode cX8_readNest 41 = .ok (.ldc 125, 2) := by decide +kernel
theorem dX8_readNest_43 : decode cX8_readNest 43 = .ok (.invokevirtual 117, 3) := by decide +kernel
theorem dX8_readNest_46 : decode cX8_readNest 46 = .ok (.aload_n 0, 1) := by decide +kernel
theorem dX8_readNest_47 : decode cX8_readNest 47 = .ok (.iload_n 3, 1) := by decide +kernel
theorem dX8_readNest_48 : decode cX8_readNest 48 = .ok (.invokevirtual 127, 3) := by decide +kernel
theorem dX8_readNest_51 : decode cX8_readNest 51 = .ok (.istore 4, 2) := by decide +kernel
theorem dX8_readNest_53 : decode cX8_readNest 53 = .ok (.aload_n 0, 1) := by decide +kernel
theorem dX8_readNest_54 : decode cX8_readNest 54 = .ok (.invokevirtual 91, 3) := by decide +kernel
theorem dX8_readNest_57 : decode cX8_readNest 57 = .ok (.aload_n 0, 1) := by decide +kernel
theorem dX8_readNest_58 : decode cX8_readNest 58 = .ok (.getfield 31, 3) := by decide +kernel
theorem dX8_readNest_61 : decode cX8_readNest 61 = .ok (.ifCond .ne 11, 3) := by decide +kernel
theorem dX8_readNest_64 : decode cX8_readNest 64 = .ok (.aload_n 1, 1) := by decide +kernel
theorem dX8_readNest_65 : decode cX8_readNest 65 = .ok (.iload_n 2, 1) := by decide +kernel
theorem dX8_readNest_66 : decode cX8_readNest 66 = .ok (.iload_n 3, 1) := by decide +kernel
theorem dX8_readNest_67 : decode cX8_readNest 67 = .ok (.iload 4, 2) := by decide +kernel
theorem dX8_readNest_69 : decode cX8_readNest 69 = .ok (.invokevirtual 141, 3) := by decide +kernel
theorem dX8_readNest_72 : decode cX8_readNest 72 = .ok (.return_, 1) := by decide +kernel
theorem dX8_takeChimney_0 : decode cX8_takeChimney 0 = .ok (.aload_n 0, 1) := by decide +kernel
theorem dX8_takeChimney_1 : decode cX8_takeChimney 1 = .ok (.getfield 19, 3) := by decide +kernel
theorem dX8_takeChimney_4 : decode cX8_takeChimney 4 = .ok (.iconst 2, 1) := by decide +kernel
theorem dX8_takeChimney_5 : decode cX8_takeChimney 5 = .ok (.if_icmp .ne 45, 3) := by decide +kernel
theorem dX8_takeChimney_8 : decode cX8_takeChimney 8 = .ok (.aload_n 0, 1) := by decide +kernel
theorem dX8_takeChimney_9 : decode cX8_takeChimney 9 = .ok (.getfield 28, 3) := by decide +kernel
theorem dX8_takeChimney_12 : decode cX8_takeChimney 12 = .ok (.sipush 9999, 3) := by decide +kernel
theorem dX8_takeChimney_15 : decode cX8_takeChimney 15 = .ok (.if_icmp .gt 35, 3) := by decide +kernel
theorem dX8_takeChimney_18 : decode cX8_takeChimney 18 = .ok (.aload_n 0, 1) := by decide +kernel
theorem dX8_takeChimney_19 : decode cX8_takeChimney 19 = .ok (.getfield 28, 3) := by decide +kernel
theorem dX8_takeChimney_22 : decode cX8_takeChimney 22 = .ok (.aload_n 1, 1) := by decide +kernel
theorem dX8_takeChimney_23 : decode cX8_takeChimney 23 = .ok (.getfield 85, 3) := by decide +kernel
theorem dX8_takeChimney_26 : decode cX8_takeChimney 26 = .ok (.if_icmp .lt 11, 3) := by decide +kernel
theorem dX8_takeChimney_29 : decode cX8_takeChimney 29 = .ok (.aload_n 0, 1) := by decide +kernel
theorem dX8_takeChimney_30 : decode cX8_takeChimney 30 = .ok (.iconst 3, 1) := by decide +kernel
theorem dX8_takeChimney_31 : decode cX8_takeChimney 31 = .ok (.invokevirtual 81, 3) := by decide +kernel
theorem dX8_takeChimney_34 : decode cX8_takeChimney 34 = .ok (.goto 16, 3) := by decide +kernel
theorem dX8_takeChimney_37 : decode cX8_takeChimney 37 = .ok (.aload_n 0, 1) := by decide +kernel
theorem dX8_takeChimney_38 : decode cX8_takeChimney 38 = .ok (.getfield 28, 3) := by decide +kernel
theorem dX8_takeChimney_41 : decode cX8_takeChimney 41 = .ok (.iload_n 2, 1) := by decide +kernel
theorem dX8_takeChimney_42 : decode cX8_takeChimney 42 = .ok (.if_icmp .ne 8, 3) := by decide +kernel
theorem dX8_takeChimney_45 : decode cX8_takeChimney 45 = .ok (.aload_n 0, 1) := by decide +kernel
theorem dX8_takeChimney_46 : decode cX8_takeChimney 46 = .ok (.iconst 5, 1) := by decide +kernel
theorem dX8_takeChimney_47 : decode cX8_takeChimney 47 = .ok (.invokevirtual 81, 3) := by decide +kernel
theorem dX8_takeChimney_50 : decode cX8_takeChimney 50 = .ok (.aload_n 0, 1) := by decide +kernel
theorem dX8_takeChimney_51 : decode cX8_takeChimney 51 = .ok (.iconst 0, 1) := by decide +kernel
theorem dX8_takeChimney_52 : decode cX8_takeChimney 52 = .ok (.sipush 9999, 3) := by decide +kernel
theorem dX8_takeChimney_55 : decode cX8_takeChimney 55 = .ok (.invokevirtual 88, 3) := by decide +kernel
theorem dX8_takeChimney_58 : decode cX8_takeChimney 58 = .ok (.ireturn, 1) := by decide +kernel
theorem dX8_takeTill_0 : decode cX8_takeTill 0 = .ok (.aload_n 0, 1) := by decide +kernel
theorem dX8_takeTill_1 : decode cX8_takeTill 1 = .ok (.getfield 19, 3) := by decide +kernel
theorem dX8_takeTill_4 : decode cX8_takeTill 4 = .ok (.iconst 2, 1) := by decide +kernel
theorem dX8_takeTill_5 : decode cX8_takeTill 5 = .ok (.if_icmp .ne 16, 3) := by decide +kernel
theorem dX8_takeTill_8 : decode cX8_takeTill 8 = .ok (.aload_n 0, 1) := by decide +kernel
theorem dX8_takeTill_9 : decode cX8_takeTill 9 = .ok (.getfield 28, 3) := by decide +kernel
theorem dX8_takeTill_12 : decode cX8_takeTill 12 = .ok (.iload_n 1, 1) := by decide +kernel
theorem dX8_takeTill_13 : decode cX8_takeTill 13 = .ok (.if_icmp .ge 8, 3) := by decide +kernel
theorem dX8_takeTill_16 : decode cX8_takeTill 16 = .ok (.aload_n 0, 1) := by decide +kernel
theorem dX8_takeTill_17 : decode cX8_takeTill 17 = .ok (.iconst 4, 1) := by decide +kernel
theorem dX8_takeTill_18 : decode cX8_takeTill 18 = .ok (.invokevirtual 81, 3) := by decide +kernel
theorem dX8_takeTill_21 : decode cX8_takeTill 21 = .ok (.aload_n 0, 1) := by decide +kernel
theorem dX8_takeTill_22 : decode cX8_takeTill 22 = .ok (.iconst 0, 1) := by decide +kernel
theorem dX8_takeTill_23 : decode cX8_takeTill 23 = .ok (.bipush 29, 2) := by decide +kernel
theorem dX8_takeTill_25 : decode cX8_takeTill 25 = .ok (.invokevirtual 88, 3) := by decide +kernel
theorem dX8_takeTill_28 : decode cX8_takeTill 28 = .ok (.ireturn, 1) := by decide +kernel
theorem dX8_takeNumber_0 : decode cX8_takeNumber 0 = .ok (.aload_n 0, 1) := by decide +kernel
theorem dX8_takeNumber_1 : decode cX8_takeNumber 1 = .ok (.getfield 31, 3) := by decide +kernel
theorem dX8_takeNumber_4 : decode cX8_takeNumber 4 = .ok (.ifCond .eq 5, 3) := by decide +kernel
theorem dX8_takeNumber_7 : decode cX8_takeNumber 7 = .ok (.iconst 0, 1) := by decide +kernel
theorem dX8_takeNumber_8 : decode cX8_takeNumber 8 = .ok (.ireturn, 1) := by decide +kernel
theorem dX8_takeNumber_9 : decode cX8_takeNumber 9 = .ok (.aload_n 0, 1) := by decide +kernel
theorem dX8_takeNumber_10 : decode cX8_takeNumber 10 = .ok (.getfield 19, 3) := by decide +kernel
theorem dX8_takeNumber_13 : decode cX8_takeNumber 13 = .ok (.iconst 2, 1) := by decide +kernel
theorem dX8_takeNumber_14 : decode cX8_takeNumber 14 = .ok (.if_icmp .eq 10, 3) := by decide +kernel
theorem dX8_takeNumber_17 : decode cX8_takeNumber 17 = .ok (.aload_n 0, 1) := by decide +kernel
theorem dX8_takeNumber_18 : decode cX8_takeNumber 18 = .ok (.iconst 1, 1) := by decide +kernel
theorem dX8_takeNumber_19 : decode cX8_takeNumber 19 = .ok (.invokevirtual 81, 3) := by decide +kernel
theorem dX8_takeNumber_22 : decode cX8_takeNumber 22 = .ok (.iconst 0, 1) := by decide +kernel
theorem dX8_takeNumber_23 : decode cX8_takeNumber 23 = .ok (.ireturn, 1) := by decide +kernel
theorem dX8_takeNumber_24 : decode cX8_takeNumber 24 = .ok (.aload_n 0, 1) := by decide +kernel
theorem dX8_takeNumber_25 : decode cX8_takeNumber 25 = .ok (.getfield 28, 3) := by decide +kernel
theorem dX8_takeNumber_28 : decode cX8_takeNumber 28 = .ok (.iload_n 1, 1) := by decide +kernel
theorem dX8_takeNumber_29 : decode cX8_takeNumber 29 = .ok (.if_icmp .lt 11, 3) := by decide +kernel
theorem dX8_takeNumber_32 : decode cX8_takeNumber 32 = .ok (.aload_n 0, 1) := by decide +kernel
theorem dX8_takeNumber_33 : decode cX8_takeNumber 33 = .ok (.getfield 28, 3) := by decide +kernel
theorem dX8_takeNumber_36 : decode cX8_takeNumber 36 = .ok (.iload_n 2, 1) := by decide +kernel
theorem dX8_takeNumber_37 : decode cX8_takeNumber 37 = .ok (.if_icmp .le 10, 3) := by decide +kernel
theorem dX8_takeNumber_40 : decode cX8_takeNumber 40 = .ok (.aload_n 0, 1) := by decide +kernel
theorem dX8_takeNumber_41 : decode cX8_takeNumber 41 = .ok (.iconst 2, 1) := by decide +kernel
theorem dX8_takeNumber_42 : decode cX8_takeNumber 42 = .ok (.invokevirtual 81, 3) := by decide +kernel
theorem dX8_takeNumber_45 : decode cX8_takeNumber 45 = .ok (.iconst 0, 1) := by decide +kernel
theorem dX8_takeNumber_46 : decode cX8_takeNumber 46 = .ok (.ireturn, 1) := by decide +kernel
theorem dX8_takeNumber_47 : decode cX8_takeNumber 47 = .ok (.aload_n 0, 1) := by decide +kernel
theorem dX8_takeNumber_48 : decode cX8_takeNumber 48 = .ok (.getfield 28, 3) := by decide +kernel
theorem dX8_takeNumber_51 : decode cX8_takeNumber 51 = .ok (.istore_n 3, 1) := by decide +kernel
theorem dX8_takeNumber_52 : decode cX8_takeNumber 52 = .ok (.aload_n 0, 1) := by decide +kernel
theorem dX8_takeNumber_53 : decode cX8_takeNumber 53 = .ok (.invokevirtual 48, 3) := by decide +kernel
theorem dX8_takeNumber_56 : decode cX8_takeNumber 56 = .ok (.iload_n 3, 1) := by decide +kernel
theorem dX8_takeNumber_57 : decode cX8_takeNumber 57 = .ok (.ireturn, 1) := by decide +kernel
theorem dX8_takeWord_0 : decode cX8_takeWord 0 = .ok (.aload_n 0, 1) := by decide +kernel
theorem dX8_takeWord_1 : decode cX8_takeWord 1 = .ok (.aload_n 1, 1) := by decide +kernel
theorem dX8_takeWord_2 : decode cX8_takeWord 2 = .ok (.invokevirtual 53, 3) := by decide +kernel
theorem dX8_takeWord_5 : decode cX8_takeWord 5 = .ok (.ifCond .eq 10, 3) := by decide +kernel
theorem dX8_takeWord_8 : decode cX8_takeWord 8 = .ok (.aload_n 0, 1) := by decide +kernel
theorem dX8_takeWord_9 : decode cX8_takeWord 9 = .ok (.invokevirtual 48, 3) := by decide +kernel
theorem dX8_takeWord_12 : decode cX8_takeWord 12 = .ok (.goto 8, 3) := by decide +kernel
theorem dX8_takeWord_15 : decode cX8_takeWord 15 = .ok (.aload_n 0, 1) := by decide +kernel
theorem dX8_takeWord_16 : decode cX8_takeWord 16 = .ok (.iconst 1, 1) := by decide +kernel
theorem dX8_takeWord_17 : decode cX8_takeWord 17 = .ok (.invokevirtual 81, 3) := by decide +kernel
theorem dX8_takeWord_20 : decode cX8_takeWord 20 = .ok (.return_, 1) := by decide +kernel
theorem dX8_takeSign_0 : decode cX8_takeSign 0 = .ok (.aload_n 0, 1) := by decide +kernel
theorem dX8_takeSign_1 : decode cX8_takeSign 1 = .ok (.getfield 19, 3) := by decide +kernel
theorem dX8_takeSign_4 : decode cX8_takeSign 4 = .ok (.iconst 3, 1) := by decide +kernel
theorem dX8_takeSign_5 : decode cX8_takeSign 5 = .ok (.if_icmp .ne 10, 3) := by decide +kernel
theorem dX8_takeSign_8 : decode cX8_takeSign 8 = .ok (.aload_n 0, 1) := by decide +kernel
theorem dX8_takeSign_9 : decode cX8_takeSign 9 = .ok (.invokevirtual 48, 3) := by decide +kernel
theorem dX8_takeSign_12 : decode cX8_takeSign 12 = .ok (.goto 8, 3) := by decide +kernel
theorem dX8_takeSign_15 : decode cX8_takeSign 15 = .ok (.aload_n 0, 1) := by decide +kernel
theorem dX8_takeSign_16 : decode cX8_takeSign 16 = .ok (.iconst 1, 1) := by decide +kernel
theorem dX8_takeSign_17 : decode cX8_takeSign 17 = .ok (.invokevirtual 81, 3) := by decide +kernel
theorem dX8_takeSign_20 : decode cX8_takeSign 20 = .ok (.return_, 1) := by decide +kernel
theorem dX8_fail_0 : decode cX8_fail 0 = .ok (.aload_n 0, 1) := by decide +kernel
theorem dX8_fail_1 : decode cX8_fail 1 = .ok (.getfield 31, 3) := by decide +kernel
theorem dX8_fail_4 : decode cX8_fail 4 = .ok (.ifCond .ne 16, 3) := by decide +kernel
theorem dX8_fail_7 : decode cX8_fail 7 = .ok (.aload_n 0, 1) := by decide +kernel
theorem dX8_fail_8 : decode cX8_fail 8 = .ok (.iload_n 1, 1) := by decide +kernel
theorem dX8_fail_9 : decode cX8_fail 9 = .ok (.putfield 31, 3) := by decide +kernel
theorem dX8_fail_12 : decode cX8_fail 12 = .ok (.aload_n 0, 1) := by decide +kernel
theorem dX8_fail_13 : decode cX8_fail 13 = .ok (.aload_n 0, 1) := by decide +kernel
theorem dX8_fail_14 : decode cX8_fail 14 = .ok (.getfield 22, 3) := by decide +kernel
theorem dX8_fail_17 : decode cX8_fail 17 = .ok (.putfield 34, 3) := by decide +kernel
theorem dX8_fail_20 : decode cX8_fail 20 = .ok (.return_, 1) := by decide +kernel
theorem dX8_isWord_0 : decode cX8_isWord 0 = .ok (.aload_n 0, 1) := by decide +kernel
theorem dX8_isWord_1 : decode cX8_isWord 1 = .ok (.getfield 19, 3) := by decide +kernel
theorem dX8_isWord_4 : decode cX8_isWord 4 = .ok (.iconst 1, 1) := by decide +kernel
theorem dX8_isWord_5 : decode cX8_isWord 5 = .ok (.if_icmp .ne 19, 3) := by decide +kernel
theorem dX8_isWord_8 : decode cX8_isWord 8 = .ok (.aload_n 0, 1) := by decide +kernel
theorem dX8_isWord_9 : decode cX8_isWord 9 = .ok (.getfield 25, 3) := by decide +kernel
theorem dX8_isWord_12 : decode cX8_isWord 12 = .ok (.aload_n 0, 1) := by decide +kernel
theorem dX8_isWord_13 : decode cX8_isWord 13 = .ok (.getfield 22, 3) := by decide +kernel
theorem dX8_isWord_16 : decode cX8_isWord 16 = .ok (.isub, 1) := by decide +kernel
theorem dX8_isWord_17 : decode cX8_isWord 17 = .ok (.aload_n 1, 1) := by decide +kernel
theorem dX8_isWord_18 : decode cX8_isWord 18 = .ok (.invokevirtual 144, 3) := by decide +kernel
theorem dX8_isWord_21 : decode cX8_isWord 21 = .ok (.if_icmp .eq 5, 3) := by decide +kernel
theorem dX8_isWord_24 : decode cX8_isWord 24 = .ok (.iconst 0, 1) := by decide +kernel
theorem dX8_isWord_25 : decode cX8_isWord 25 = .ok (.ireturn, 1) := by decide +kernel
theorem dX8_isWord_26 : decode cX8_isWord 26 = .ok (.iconst 0, 1) := by decide +kernel
theorem dX8_isWord_27 : decode cX8_isWord 27 = .ok (.istore_n 2, 1) := by decide +kernel
theorem dX8_isWord_28 : decode cX8_isWord 28 = .ok (.iload_n 2, 1) := by decide +kernel
theorem dX8_isWord_29 : decode cX8_isWord 29 = .ok (.aload_n 1, 1) := by decide +kernel
theorem dX8_isWord_30 : decode cX8_isWord 30 = .ok (.invokevirtual 144, 3) := by decide +kernel
theorem dX8_isWord_33 : decode cX8_isWord 33 = .ok (.if_icmp .ge 30, 3) := by decide +kernel
theorem dX8_isWord_36 : decode cX8_isWord 36 = .ok (.aload_n 0, 1) := by decide +kernel
theorem dX8_isWord_37 : decode cX8_isWord 37 = .ok (.getfield 9, 3) := by decide +kernel
theorem dX8_isWord_40 : decode cX8_isWord 40 = .ok (.aload_n 0, 1) := by decide +kernel
theorem dX8_isWord_41 : decode cX8_isWord 41 = .ok (.getfield 22, 3) := by decide +kernel
theorem dX8_isWord_44 : decode cX8_isWord 44 = .ok (.iload_n 2, 1) := by decide +kernel
theorem dX8_isWord_45 : decode cX8_isWord 45 = .ok (.iadd, 1) := by decide +kernel
theorem dX8_isWord_46 : decode cX8_isWord 46 = .ok (.iaload, 1) := by decide +kernel
theorem dX8_isWord_47 : decode cX8_isWord 47 = .ok (.aload_n 1, 1) := by decide +kernel
theorem dX8_isWord_48 : decode cX8_isWord 48 = .ok (.iload_n 2, 1) := by decide +kernel
theorem dX8_isWord_49 : decode cX8_isWord 49 = .ok (.invokevirtual 149, 3) := by decide +kernel
theorem dX8_isWord_52 : decode cX8_isWord 52 = .ok (.if_icmp .eq 5, 3) := by decide +kernel
theorem dX8_isWord_55 : decode cX8_isWord 55 = .ok (.iconst 0, 1) := by decide +kernel
theorem dX8_isWord_56 : decode cX8_isWord 56 = .ok (.ireturn, 1) := by decide +kernel
theorem dX8_isWord_57 : decode cX8_isWord 57 = .ok (.iinc 2 1, 3) := by decide +kernel
theorem dX8_isWord_60 : decode cX8_isWord 60 = .ok (.goto (-32), 3) := by decide +kernel
theorem dX8_isWord_63 : decode cX8_isWord 63 = .ok (.iconst 1, 1) := by decide +kernel
theorem dX8_isWord_64 : decode cX8_isWord 64 = .ok (.ireturn, 1) := by decide +kernel
theorem dX8_step_0 : decode cX8_step 0 = .ok (.aload_n 0, 1) := by decide +kernel
theorem dX8_step_1 : decode cX8_step 1 = .ok (.getfield 31, 3) := by decide +kernel
theorem dX8_step_4 : decode cX8_step 4 = .ok (.ifCond .eq 4, 3) := by decide +kernel
theorem dX8_step_7 : decode cX8_step 7 = .ok (.return_, 1) := by decide +kernel
theorem dX8_step_8 : decode cX8_step 8 = .ok (.aload_n 0, 1) := by decide +kernel
theorem dX8_step_9 : decode cX8_step 9 = .ok (.aload_n 0, 1) := by decide +kernel
theorem dX8_step_10 : decode cX8_step 10 = .ok (.getfield 25, 3) := by decide +kernel
theorem dX8_step_13 : decode cX8_step 13 = .ok (.putfield 22, 3) := by decide +kernel
theorem dX8_step_16 : decode cX8_step 16 = .ok (.aload_n 0, 1) := by decide +kernel
theorem dX8_step_17 : decode cX8_step 17 = .ok (.getfield 22, 3) := by decide +kernel
theorem dX8_step_20 : decode cX8_step 20 = .ok (.aload_n 0, 1) := by decide +kernel
theorem dX8_step_21 : decode cX8_step 21 = .ok (.getfield 15, 3) := by decide +kernel
theorem dX8_step_24 : decode cX8_step 24 = .ok (.if_icmp .ge 32, 3) := by decide +kernel
theorem dX8_step_27 : decode cX8_step 27 = .ok (.aload_n 0, 1) := by decide +kernel
theorem dX8_step_28 : decode cX8_step 28 = .ok (.getfield 9, 3) := by decide +kernel
theorem dX8_step_31 : decode cX8_step 31 = .ok (.aload_n 0, 1) := by decide +kernel
theorem dX8_step_32 : decode cX8_step 32 = .ok (.getfield 22, 3) := by decide +kernel
theorem dX8_step_35 : decode cX8_step 35 = .ok (.iaload, 1) := by decide +kernel
theorem dX8_step_36 : decode cX8_step 36 = .ok (.invokestatic 153, 3) := by decide +kernel
theorem dX8_step_39 : decode cX8_step 39 = .ok (.iconst 5, 1) := by decide +kernel
theorem dX8_step_40 : decode cX8_step 40 = .ok (.if_icmp .ne 16, 3) := by decide +kernel
theorem dX8_step_43 : decode cX8_step 43 = .ok (.aload_n 0, 1) := by decide +kernel
theorem dX8_step_44 : decode cX8_step 44 = .ok (.dup, 1) := by decide +kernel
theorem dX8_step_45 : decode cX8_step 45 = .ok (.getfield 22, 3) := by decide +kernel
theorem dX8_step_48 : decode cX8_step 48 = .ok (.iconst 1, 1) := by decide +kernel
theorem dX8_step_49 : decode cX8_step 49 = .ok (.iadd, 1) := by decide +kernel
theorem dX8_step_50 : decode cX8_step 50 = .ok (.putfield 22, 3) := by decide +kernel
theorem dX8_step_53 : decode cX8_step 53 = .ok (.goto (-37), 3) := by decide +kernel
theorem dX8_step_56 : decode cX8_step 56 = .ok (.aload_n 0, 1) := by decide +kernel
theorem dX8_step_57 : decode cX8_step 57 = .ok (.aload_n 0, 1) := by decide +kernel
theorem dX8_step_58 : decode cX8_step 58 = .ok (.getfield 22, 3) := by decide +kernel
theorem dX8_step_61 : decode cX8_step 61 = .ok (.aload_n 0, 1) := by decide +kernel
theorem dX8_step_62 : decode cX8_step 62 = .ok (.getfield 15, 3) := by decide +kernel
theorem dX8_step_65 : decode cX8_step 65 = .ok (.if_icmp .ge 18, 3) := by decide +kernel
theorem dX8_step_68 : decode cX8_step 68 = .ok (.aload_n 0, 1) := by decide +kernel
theorem dX8_step_69 : decode cX8_step 69 = .ok (.getfield 9, 3) := by decide +kernel
theorem dX8_step_72 : decode cX8_step 72 = .ok (.aload_n 0, 1) := by decide +kernel
theorem dX8_step_73 : decode cX8_step 73 = .ok (.getfield 22, 3) := by decide +kernel
theorem dX8_step_76 : decode cX8_step 76 = .ok (.iaload, 1) := by decide +kernel
theorem dX8_step_77 : decode cX8_step 77 = .ok (.invokestatic 153, 3) := by decide +kernel
theorem dX8_step_80 : decode cX8_step 80 = .ok (.goto 4, 3) := by decide +kernel
theorem dX8_step_83 : decode cX8_step 83 = .ok (.iconst 0, 1) := by decide +kernel
theorem dX8_step_84 : decode cX8_step 84 = .ok (.putfield 19, 3) := by decide +kernel
theorem dX8_step_87 : decode cX8_step 87 = .ok (.aload_n 0, 1) := by decide +kernel
theorem dX8_step_88 : decode cX8_step 88 = .ok (.aload_n 0, 1) := by decide +kernel
theorem dX8_step_89 : decode cX8_step 89 = .ok (.getfield 19, 3) := by decide +kernel
theorem dX8_step_92 : decode cX8_step 92 = .ok (.ifCond .ne 10, 3) := by decide +kernel
theorem dX8_step_95 : decode cX8_step 95 = .ok (.aload_n 0, 1) := by decide +kernel
theorem dX8_step_96 : decode cX8_step 96 = .ok (.getfield 22, 3) := by decide +kernel
theorem dX8_step_99 : decode cX8_step 99 = .ok (.goto 9, 3) := by decide +kernel
theorem dX8_step_102 : decode cX8_step 102 = .ok (.aload_n 0, 1) := by decide +kernel
theorem dX8_step_103 : decode cX8_step 103 = .ok (.getfield 22, 3) := by decide +kernel
theorem dX8_step_106 : decode cX8_step 106 = .ok (.iconst 1, 1) := by decide +kernel
theorem dX8_step_107 : decode cX8_step 107 = .ok (.iadd, 1) := by decide +kernel
theorem dX8_step_108 : decode cX8_step 108 = .ok (.putfield 25, 3) := by decide +kernel
theorem dX8_step_111 : decode cX8_step 111 = .ok (.aload_n 0, 1) := by decide +kernel
theorem dX8_step_112 : decode cX8_step 112 = .ok (.getfield 19, 3) := by decide +kernel
theorem dX8_step_115 : decode cX8_step 115 = .ok (.iconst 1, 1) := by decide +kernel
theorem dX8_step_116 : decode cX8_step 116 = .ok (.if_icmp .eq 11, 3) := by decide +kernel
theorem dX8_step_119 : decode cX8_step 119 = .ok (.aload_n 0, 1) := by decide +kernel
theorem dX8_step_120 : decode cX8_step 120 = .ok (.getfield 19, 3) := by decide +kernel
theorem dX8_step_123 : decode cX8_step 123 = .ok (.iconst 2, 1) := by decide +kernel
theorem dX8_step_124 : decode cX8_step 124 = .ok (.if_icmp .ne 7, 3) := by decide +kernel
theorem dX8_step_127 : decode cX8_step 127 = .ok (.iconst 1, 1) := by decide +kernel
theorem dX8_step_128 : decode cX8_step 128 = .ok (.goto 4, 3) := by decide +kernel
theorem dX8_step_131 : decode cX8_step 131 = .ok (.iconst 0, 1) := by decide +kernel
theorem dX8_step_132 : decode cX8_step 132 = .ok (.istore_n 1, 1) := by decide +kernel
theorem dX8_step_133 : decode cX8_step 133 = .ok (.iload_n 1, 1) := by decide +kernel
theorem dX8_step_134 : decode cX8_step 134 = .ok (.ifCond .eq 46, 3) := by decide +kernel
theorem dX8_step_137 : decode cX8_step 137 = .ok (.aload_n 0, 1) := by decide +kernel
theorem dX8_step_138 : decode cX8_step 138 = .ok (.getfield 25, 3) := by decide +kernel
theorem dX8_step_141 : decode cX8_step 141 = .ok (.aload_n 0, 1) := by decide +kernel
theorem dX8_step_142 : decode cX8_step 142 = .ok (.getfield 15, 3) := by decide +kernel
theorem dX8_step_145 : decode cX8_step 145 = .ok (.if_icmp .ge 35, 3) := by decide +kernel
theorem dX8_step_148 : decode cX8_step 148 = .ok (.aload_n 0, 1) := by decide +kernel
theorem dX8_step_149 : decode cX8_step 149 = .ok (.getfield 9, 3) := by decide +kernel
theorem dX8_step_152 : decode cX8_step 152 = .ok (.aload_n 0, 1) := by decide +kernel
theorem dX8_step_153 : decode cX8_step 153 = .ok (.getfield 25, 3) := by decide +kernel
theorem dX8_step_156 : decode cX8_step 156 = .ok (.iaload, 1) := by decide +kernel
theorem dX8_step_157 : decode cX8_step 157 = .ok (.invokestatic 153, 3) := by decide +kernel
theorem dX8_step_160 : decode cX8_step 160 = .ok (.aload_n 0, 1) := by decide +kernel
theorem dX8_step_161 : decode cX8_step 161 = .ok (.getfield 19, 3) := by decide +kernel
theorem dX8_step_164 : decode cX8_step 164 = .ok (.if_icmp .ne 16, 3) := by decide +kernel
theorem dX8_step_167 : decode cX8_step 167 = .ok (.aload_n 0, 1) := by decide +kernel
theorem dX8_step_168 : decode cX8_step 168 = .ok (.dup, 1) := by decide +kernel
theorem dX8_step_169 : decode cX8_step 169 = .ok (.getfield 25, 3) := by decide +kernel
theorem dX8_step_172 : decode cX8_step 172 = .ok (.iconst 1, 1) := by decide +kernel
theorem dX8_step_173 : decode cX8_step 173 = .ok (.iadd, 1) := by decide +kernel
theorem dX8_step_174 : decode cX8_step 174 = .ok (.putfield 25, 3) := by decide +kernel
theorem dX8_step_177 : decode cX8_step 177 = .ok (.goto (-44), 3) := by decide +kernel
theorem dX8_step_180 : decode cX8_step 180 = .ok (.aload_n 0, 1) := by decide +kernel
theorem dX8_step_181 : decode cX8_step 181 = .ok (.aload_n 0, 1) := by decide +kernel
theorem dX8_step_182 : decode cX8_step 182 = .ok (.getfield 19, 3) := by decide +kernel
theorem dX8_step_185 : decode cX8_step 185 = .ok (.iconst 2, 1) := by decide +kernel
theorem dX8_step_186 : decode cX8_step 186 = .ok (.if_icmp .ne 10, 3) := by decide +kernel
theorem dX8_step_189 : decode cX8_step 189 = .ok (.aload_n 0, 1) := by decide +kernel
theorem dX8_step_190 : decode cX8_step 190 = .ok (.invokevirtual 156, 3) := by decide +kernel
theorem dX8_step_193 : decode cX8_step 193 = .ok (.goto 4, 3) := by decide +kernel
theorem dX8_step_196 : decode cX8_step 196 = .ok (.iconst 0, 1) := by decide +kernel
theorem dX8_step_197 : decode cX8_step 197 = .ok (.putfield 28, 3) := by decide +kernel
theorem dX8_step_200 : decode cX8_step 200 = .ok (.return_, 1) := by decide +kernel
theorem dX8_readValue_0 : decode cX8_readValue 0 = .ok (.aload_n 0, 1) := by decide +kernel
theorem dX8_readValue_1 : decode cX8_readValue 1 = .ok (.getfield 25, 3) := by decide +kernel
theorem dX8_readValue_4 : decode cX8_readValue 4 = .ok (.aload_n 0, 1) := by decide +kernel
theorem dX8_readValue_5 : decode cX8_readValue 5 = .ok (.getfield 22, 3) := by decide +kernel
theorem dX8_readValue_8 : decode cX8_readValue 8 = .ok (.isub, 1) := by decide +kernel
theorem dX8_readValue_9 : decode cX8_readValue 9 = .ok (.iconst 4, 1) := by decide +kernel
theorem dX8_readValue_10 : decode cX8_readValue 10 = .ok (.if_icmp .le 7, 3) := by decide +kernel
theorem dX8_readValue_13 : decode cX8_readValue 13 = .ok (.sipush 10000, 3) := by decide +kernel
theorem dX8_readValue_16 : decode cX8_readValue 16 = .ok (.ireturn, 1) := by decide +kernel
theorem dX8_readValue_17 : decode cX8_readValue 17 = .ok (.iconst 0, 1) := by decide +kernel
theorem dX8_readValue_18 : decode cX8_readValue 18 = .ok (.istore_n 1, 1) := by decide +kernel
theorem dX8_readValue_19 : decode cX8_readValue 19 = .ok (.aload_n 0, 1) := by decide +kernel
theorem dX8_readValue_20 : decode cX8_readValue 20 = .ok (.getfield 22, 3) := by decide +kernel
theorem dX8_readValue_23 : decode cX8_readValue 23 = .ok (.istore_n 2, 1) := by decide +kernel
theorem dX8_readValue_24 : decode cX8_readValue 24 = .ok (.iload_n 2, 1) := by decide +kernel
theorem dX8_readValue_25 : decode cX8_readValue 25 = .ok (.aload_n 0, 1) := by decide +kernel
theorem dX8_readValue_26 : decode cX8_readValue 26 = .ok (.getfield 25, 3) := by decide +kernel
theorem dX8_readValue_29 : decode cX8_readValue 29 = .ok (.if_icmp .ge 24, 3) := by decide +kernel
theorem dX8_readValue_32 : decode cX8_readValue 32 = .ok (.iload_n 1, 1) := by decide +kernel
theorem dX8_readValue_33 : decode cX8_readValue 33 = .ok (.bipush 10, 2) := by decide +kernel
theorem dX8_readValue_35 : decode cX8_readValue 35 = .ok (.imul, 1) := by decide +kernel
theorem dX8_readValue_36 : decode cX8_readValue 36 = .ok (.aload_n 0, 1) := by decide +kernel
theorem dX8_readValue_37 : decode cX8_readValue 37 = .ok (.getfield 9, 3) := by decide +kernel
theorem dX8_readValue_40 : decode cX8_readValue 40 = .ok (.iload_n 2, 1) := by decide +kernel
theorem dX8_readValue_41 : decode cX8_readValue 41 = .ok (.iaload, 1) := by decide +kernel
theorem dX8_readValue_42 : decode cX8_readValue 42 = .ok (.iadd, 1) := by decide +kernel
theorem dX8_readValue_43 : decode cX8_readValue 43 = .ok (.bipush 48, 2) := by decide +kernel
theorem dX8_readValue_45 : decode cX8_readValue 45 = .ok (.isub, 1) := by decide +kernel
theorem dX8_readValue_46 : decode cX8_readValue 46 = .ok (.istore_n 1, 1) := by decide +kernel
theorem dX8_readValue_47 : decode cX8_readValue 47 = .ok (.iinc 2 1, 3) := by decide +kernel
theorem dX8_readValue_50 : decode cX8_readValue 50 = .ok (.goto (-26), 3) := by decide +kernel
theorem dX8_readValue_53 : decode cX8_readValue 53 = .ok (.iload_n 1, 1) := by decide +kernel
theorem dX8_readValue_54 : decode cX8_readValue 54 = .ok (.ireturn, 1) := by decide +kernel
theorem dX8_kindOf_0 : decode cX8_kindOf 0 = .ok (.iload_n 0, 1) := by decide +kernel
theorem dX8_kindOf_1 : decode cX8_kindOf 1 = .ok (.bipush 97, 2) := by decide +kernel
theorem dX8_kindOf_3 : decode cX8_kindOf 3 = .ok (.if_icmp .lt 11, 3) := by decide +kernel
theorem dX8_kindOf_6 : decode cX8_kindOf 6 = .ok (.iload_n 0, 1) := by decide +kernel
theorem dX8_kindOf_7 : decode cX8_kindOf 7 = .ok (.bipush 122, 2) := by decide +kernel
theorem dX8_kindOf_9 : decode cX8_kindOf 9 = .ok (.if_icmp .gt 5, 3) := by decide +kernel
theorem dX8_kindOf_12 : decode cX8_kindOf 12 = .ok (.iconst 1, 1) := by decide +kernel
theorem dX8_kindOf_13 : decode cX8_kindOf 13 = .ok (.ireturn, 1) := by decide +kernel
theorem dX8_kindOf_14 : decode cX8_kindOf 14 = .ok (.iload_n 0, 1) := by decide +kernel
theorem dX8_kindOf_15 : decode cX8_kindOf 15 = .ok (.bipush 48, 2) := by decide +kernel
theorem dX8_kindOf_17 : decode cX8_kindOf 17 = .ok (.if_icmp .lt 11, 3) := by decide +kernel
theorem dX8_kindOf_20 : decode cX8_kindOf 20 = .ok (.iload_n 0, 1) := by decide +kernel
theorem dX8_kindOf_21 : decode cX8_kindOf 21 = .ok (.bipush 57, 2) := by decide +kernel
theorem dX8_kindOf_23 : decode cX8_kindOf 23 = .ok (.if_icmp .gt 5, 3) := by decide +kernel
theorem dX8_kindOf_26 : decode cX8_kindOf 26 = .ok (.iconst 2, 1) := by decide +kernel
theorem dX8_kindOf_27 : decode cX8_kindOf 27 = .ok (.ireturn, 1) := by decide +kernel
theorem dX8_kindOf_28 : decode cX8_kindOf 28 = .ok (.iload_n 0, 1) := by decide +kernel
theorem dX8_kindOf_29 : decode cX8_kindOf 29 = .ok (.bipush 32, 2) := by decide +kernel
theorem dX8_kindOf_31 : decode cX8_kindOf 31 = .ok (.if_icmp .eq 9, 3) := by decide +kernel
theorem dX8_kindOf_34 : decode cX8_kindOf 34 = .ok (.iload_n 0, 1) := by decide +kernel
theorem dX8_kindOf_35 : decode cX8_kindOf 35 = .ok (.bipush 10, 2) := by decide +kernel
theorem dX8_kindOf_37 : decode cX8_kindOf 37 = .ok (.if_icmp .ne 5, 3) := by decide +kernel
theorem dX8_kindOf_40 : decode cX8_kindOf 40 = .ok (.iconst 5, 1) := by decide +kernel
theorem dX8_kindOf_41 : decode cX8_kindOf 41 = .ok (.ireturn, 1) := by decide +kernel
theorem dX8_kindOf_42 : decode cX8_kindOf 42 = .ok (.iload_n 0, 1) := by decide +kernel
theorem dX8_kindOf_43 : decode cX8_kindOf 43 = .ok (.bipush 59, 2) := by decide +kernel
theorem dX8_kindOf_45 : decode cX8_kindOf 45 = .ok (.if_icmp .ne 7, 3) := by decide +kernel
theorem dX8_kindOf_48 : decode cX8_kindOf 48 = .ok (.iconst 3, 1) := by decide +kernel
theorem dX8_kindOf_49 : decode cX8_kindOf 49 = .ok (.goto 4, 3) := by decide +kernel
theorem dX8_kindOf_52 : decode cX8_kindOf 52 = .ok (.iconst 4, 1) := by decide +kernel
theorem dX8_kindOf_53 : decode cX8_kindOf 53 = .ok (.ireturn, 1) := by decide +kernel
theorem dX9_init_0 : decode cX9_init 0 = .ok (.aload_n 0, 1) := by decide +kernel
theorem dX9_init_1 : decode cX9_init 1 = .ok (.invokespecial 5, 3) := by decide +kernel
theorem dX9_init_4 : decode cX9_init 4 = .ok (.aload_n 0, 1) := by decide +kernel
theorem dX9_init_5 : decode cX9_init 5 = .ok (.sipush 16384, 3) := by decide +kernel
theorem dX9_init_8 : decode cX9_init 8 = .ok (.newarray .int, 2) := by decide +kernel
theorem dX9_init_10 : decode cX9_init 10 = .ok (.putfield 11, 3) := by decide +kernel
theorem dX9_init_13 : decode cX9_init 13 = .ok (.aload_n 0, 1) := by decide +kernel
theorem dX9_init_14 : decode cX9_init 14 = .ok (.sipush 16384, 3) := by decide +kernel
theorem dX9_init_17 : decode cX9_init 17 = .ok (.newarray .int, 2) := by decide +kernel
theorem dX9_init_19 : decode cX9_init 19 = .ok (.putfield 15, 3) := by decide +kernel
theorem dX9_init_22 : decode cX9_init 22 = .ok (.aload_n 0, 1) := by decide +kernel
theorem dX9_init_23 : decode cX9_init 23 = .ok (.sipush 16384, 3) := by decide +kernel
theorem dX9_init_26 : decode cX9_init 26 = .ok (.newarray .int, 2) := by decide +kernel
theorem dX9_init_28 : decode cX9_init 28 = .ok (.putfield 18, 3) := by decide +kernel
theorem dX9_init_31 : decode cX9_init 31 = .ok (.aload_n 0, 1) := by decide +kernel
theorem dX9_init_32 : decode cX9_init 32 = .ok (.bipush 15, 2) := by decide +kernel
theorem dX9_init_34 : decode cX9_init 34 = .ok (.newarray .int, 2) := by decide +kernel
theorem dX9_init_36 : decode cX9_init 36 = .ok (.putfield 21, 3) := by decide +kernel
theorem dX9_init_39 : decode cX9_init 39 = .ok (.aload_n 0, 1) := by decide +kernel
theorem dX9_init_40 : decode cX9_init 40 = .ok (.iconst 0, 1) := by decide +kernel
theorem dX9_init_41 : decode cX9_init 41 = .ok (.putfield 24, 3) := by decide +kernel
theorem dX9_init_44 : decode cX9_init 44 = .ok (.aload_n 0, 1) := by decide +kernel
theorem dX9_init_45 : decode cX9_init 45 = .ok (.iconst 0, 1) := by decide +kernel
theorem dX9_init_46 : decode cX9_init 46 = .ok (.putfield 28, 3) := by decide +kernel
theorem dX9_init_49 : decode cX9_init 49 = .ok (.aload_n 0, 1) := by decide +kernel
theorem dX9_init_50 : decode cX9_init 50 = .ok (.iconst 0, 1) := by decide +kernel
theorem dX9_init_51 : decode cX9_init 51 = .ok (.putfield 31, 3) := by decide +kernel
theorem dX9_init_54 : decode cX9_init 54 = .ok (.aload_n 0, 1) := by decide +kernel
theorem dX9_init_55 : decode cX9_init 55 = .ok (.iconst 0, 1) := by decide +kernel
theorem dX9_init_56 : decode cX9_init 56 = .ok (.putfield 34, 3) := by decide +kernel
theorem dX9_init_59 : decode cX9_init 59 = .ok (.aload_n 0, 1) := by decide +kernel
theorem dX9_init_60 : decode cX9_init 60 = .ok (.iconst 0, 1) := by decide +kernel
theorem dX9_init_61 : decode cX9_init 61 = .ok (.putfield 38, 3) := by decide +kernel
theorem dX9_init_64 : decode cX9_init 64 = .ok (.aload_n 0, 1) := by decide +kernel
theorem dX9_init_65 : decode cX9_init 65 = .ok (.iconst 0, 1) := by decide +kernel
theorem dX9_init_66 : decode cX9_init 66 = .ok (.putfield 41, 3) := by decide +kernel
theorem dX9_init_69 : decode cX9_init 69 = .ok (.aload_n 0, 1) := by decide +kernel
theorem dX9_init_70 : decode cX9_init 70 = .ok (.iconst (-1), 1) := by decide +kernel
theorem dX9_init_71 : decode cX9_init 71 = .ok (.putfield 44, 3) := by decide +kernel
theorem dX9_init_74 : decode cX9_init 74 = .ok (.aload_n 0, 1) := by decide +kernel
theorem dX9_init_75 : decode cX9_init 75 = .ok (.iconst (-1), 1) := by decide +kernel
theorem dX9_init_76 : decode cX9_init 76 = .ok (.putfield 47, 3) := by decide +kernel
theorem dX9_init_79 : decode cX9_init 79 = .ok (.aload_n 0, 1) := by decide +kernel
theorem dX9_init_80 : decode cX9_init 80 = .ok (.iconst 0, 1) := by decide +kernel
theorem dX9_init_81 : decode cX9_init 81 = .ok (.putfield 50, 3) := by decide +kernel
theorem dX9_init_84 : decode cX9_init 84 = .ok (.return_, 1) := by decide +kernel
theorem dX9_begin_0 : decode cX9_begin 0 = .ok (.aload_n 0, 1) := by decide +kernel
theorem dX9_begin_1 : decode cX9_begin 1 = .ok (.iload_n 1, 1) := by decide +kernel
theorem dX9_begin_2 : decode cX9_begin 2 = .ok (.putfield 38, 3) := by decide +kernel
theorem dX9_begin_5 : decode cX9_begin 5 = .ok (.aload_n 0, 1) := by decide +kernel
theorem dX9_begin_6 : decode cX9_begin 6 = .ok (.iload_n 2, 1) := by decide +kernel
theorem dX9_begin_7 : decode cX9_begin 7 = .ok (.putfield 24, 3) := by decide +kernel
theorem dX9_begin_10 : decode cX9_begin 10 = .ok (.aload_n 0, 1) := by decide +kernel
theorem dX9_begin_11 : decode cX9_begin 11 = .ok (.iload_n 3, 1) := by decide +kernel
theorem dX9_begin_12 : decode cX9_begin 12 = .ok (.putfield 28, 3) := by decide +kernel
theorem dX9_begin_15 : decode cX9_begin 15 = .ok (.aload_n 0, 1) := by decide +kernel
theorem dX9_begin_16 : decode cX9_begin 16 = .ok (.iload 4, 2) := by decide +kernel
theorem dX9_begin_18 : decode cX9_begin 18 = .ok (.putfield 31, 3) := by decide +kernel
theorem dX9_begin_21 : decode cX9_begin 21 = .ok (.aload_n 0, 1) := by decide +kernel
theorem dX9_begin_22 : decode cX9_begin 22 = .ok (.iconst 1, 1) := by decide +kernel
theorem dX9_begin_23 : decode cX9_begin 23 = .ok (.iload_n 2, 1) := by decide +kernel
theorem dX9_begin_24 : decode cX9_begin 24 = .ok (.ishl, 1) := by decide +kernel
theorem dX9_begin_25 : decode cX9_begin 25 = .ok (.putfield 41, 3) := by decide +kernel
theorem dX9_begin_28 : decode cX9_begin 28 = .ok (.iconst 0, 1) := by decide +kernel
theorem dX9_begin_29 : decode cX9_begin 29 = .ok (.istore 5, 2) := by decide +kernel
theorem dX9_begin_31 : decode cX9_begin 31 = .ok (.iload 5, 2) := by decide +kernel
theorem dX9_begin_33 : decode cX9_begin 33 = .ok (.aload_n 0, 1) := by decide +kernel
theorem dX9_begin_34 : decode cX9_begin 34 = .ok (.getfield 41, 3) := by decide +kernel
theorem dX9_begin_37 : decode cX9_begin 37 = .ok (.if_icmp .ge 18, 3) := by decide +kernel
theorem dX9_begin_40 : decode cX9_begin 40 = .ok (.aload_n 0, 1) := by decide +kernel
theorem dX9_begin_41 : decode cX9_begin 41 = .ok (.getfield 11, 3) := by decide +kernel
theorem dX9_begin_44 : decode cX9_begin 44 = .ok (.iload 5, 2) := by decide +kernel
theorem dX9_begin_46 : decode cX9_begin 46 = .ok (.iload 5, 2) := by decide +kernel
theorem dX9_begin_48 : decode cX9_begin 48 = .ok (.iastore, 1) := by decide +kernel
theorem dX9_begin_49 : decode cX9_begin 49 = .ok (.iinc 5 1, 3) := by decide +kernel
theorem dX9_begin_52 : decode cX9_begin 52 = .ok (.goto (-21), 3) := by decide +kernel
theorem dX9_begin_55 : decode cX9_begin 55 = .ok (.aload_n 0, 1) := by decide +kernel
theorem dX9_begin_56 : decode cX9_begin 56 = .ok (.iconst 0, 1) := by decide +kernel
theorem dX9_begin_57 : decode cX9_begin 57 = .ok (.putfield 34, 3) := by decide +kernel
theorem dX9_begin_60 : decode cX9_begin 60 = .ok (.return_, 1) := by decide +kernel
theorem dX9_canAsk_0 : decode cX9_canAsk 0 = .ok (.aload_n 0, 1) := by decide +kernel
theorem dX9_canAsk_1 : decode cX9_canAsk 1 = .ok (.getfield 38, 3) := by decide +kernel
theorem dX9_canAsk_4 : decode cX9_canAsk 4 = .ok (.iconst 2, 1) := by decide +kernel
theorem dX9_canAsk_5 : decode cX9_canAsk 5 = .ok (.if_icmp .ne 21, 3) := by decide +kernel
theorem dX9_canAsk_8 : decode cX9_canAsk 8 = .ok (.iload_n 1, 1) := by decide +kernel
theorem dX9_canAsk_9 : decode cX9_canAsk 9 = .ok (.ifCond .lt 15, 3) := by decide +kernel
theorem dX9_canAsk_12 : decode cX9_canAsk 12 = .ok (.iload_n 1, 1) := by decide +kernel
theorem dX9_canAsk_13 : decode cX9_canAsk 13 = .ok (.aload_n 0, 1) := by decide +kernel
theorem dX9_canAsk_14 : decode cX9_canAsk 14 = .ok (.getfield 24, 3) := by decide +kernel
theorem dX9_canAsk_17 : decode cX9_canAsk 17 = .ok (.if_icmp .ge 7, 3) := by decide +kernel
theorem dX9_canAsk_20 : decode cX9_canAsk 20 = .ok (.iconst 1, 1) := by decide +kernel
theorem dX9_canAsk_21 : decode cX9_canAsk 21 = .ok (.goto 4, 3) := by decide +kernel
theorem dX9_canAsk_24 : decode cX9_canAsk 24 = .ok (.iconst 0, 1) := by decide +kernel
theorem dX9_canAsk_25 : decode cX9_canAsk 25 = .ok (.ireturn, 1) := by decide +kernel
theorem dX9_canAsk_26 : decode cX9_canAsk 26 = .ok (.iload_n 1, 1) := by decide +kernel
theorem dX9_canAsk_27 : decode cX9_canAsk 27 = .ok (.ifCond .lt 20, 3) := by decide +kernel
theorem dX9_canAsk_30 : decode cX9_canAsk 30 = .ok (.iload_n 1, 1) := by decide +kernel
theorem dX9_canAsk_31 : decode cX9_canAsk 31 = .ok (.iload_n 2, 1) := by decide +kernel
theorem dX9_canAsk_32 : decode cX9_canAsk 32 = .ok (.if_icmp .ge 15, 3) := by decide +kernel
theorem dX9_canAsk_35 : decode cX9_canAsk 35 = .ok (.iload_n 2, 1) := by decide +kernel
theorem dX9_canAsk_36 : decode cX9_canAsk 36 = .ok (.aload_n 0, 1) := by decide +kernel
theorem dX9_canAsk_37 : decode cX9_canAsk 37 = .ok (.getfield 24, 3) := by decide +kernel
theorem dX9_canAsk_40 : decode cX9_canAsk 40 = .ok (.if_icmp .gt 7, 3) := by decide +kernel
theorem dX9_canAsk_43 : decode cX9_canAsk 43 = .ok (.iconst 1, 1) := by decide +kernel
theorem dX9_canAsk_44 : decode cX9_canAsk 44 = .ok (.goto 4, 3) := by decide +kernel
theorem dX9_canAsk_47 : decode cX9_canAsk 47 = .ok (.iconst 0, 1) := by decide +kernel
theorem dX9_canAsk_48 : decode cX9_canAsk 48 = .ok (.ireturn, 1) := by decide +kernel
theorem dX9_keepFitting_0 : decode cX9_keepFitting 0 = .ok (.iconst 0, 1) := by decide +kernel
theorem dX9_keepFitting_1 : decode cX9_keepFitting 1 = .ok (.istore 4, 2) := by decide +kernel
theorem dX9_keepFitting_3 : decode cX9_keepFitting 3 = .ok (.iconst 0, 1) := by decide +kernel
theorem dX9_keepFitting_4 : decode cX9_keepFitting 4 = .ok (.istore 5, 2) := by decide +kernel
theorem dX9_keepFitting_6 : decode cX9_keepFitting 6 = .ok (.iload 5, 2) := by decide +kernel
theorem dX9_keepFitting_8 : decode cX9_keepFitting 8 = .ok (.aload_n 0, 1) := by decide +kernel
theorem dX9_keepFitting_9 : decode cX9_keepFitting 9 = .ok (.getfield 41, 3) := by decide +kernel
theorem dX9_keepFitting_12 : decode cX9_keepFitting 12 = .ok (.if_icmp .ge 43, 3) := by decide +kernel
theorem dX9_keepFitting_15 : decode cX9_keepFitting 15 = .ok (.aload_n 0, 1) := by decide +kernel
theorem dX9_keepFitting_16 : decode cX9_keepFitting 16 = .ok (.aload_n 0, 1) := by decide +kernel
theorem dX9_keepFitting_17 : decode cX9_keepFitting 17 = .ok (.getfield 11, 3) := by decide +kernel
theorem dX9_keepFitting_20 : decode cX9_keepFitting 20 = .ok (.iload 5, 2) := by decide +kernel
theorem dX9_keepFitting_22 : decode cX9_keepFitting 22 = .ok (.iaload, 1) := by decide +kernel
theorem dX9_keepFitting_23 : decode cX9_keepFitting 23 = .ok (.iload_n 1, 1) := by decide +kernel
theorem dX9_keepFitting_24 : decode cX9_keepFitting 24 = .ok (.iload_n 2, 1) := by decide +kernel
theorem dX9_keepFitting_25 : decode cX9_keepFitting 25 = .ok (.invokevirtual 53, 3) := by decide +kernel
theorem dX9_keepFitting_28 : decode cX9_keepFitting 28 = .ok (.iload_n 3, 1) := by decide +kernel
theorem dX9_keepFitting_29 : decode cX9_keepFitting 29 = .ok (.if_icmp .ne 20, 3) := by decide +kernel
theorem dX9_keepFitting_32 : decode cX9_keepFitting 32 = .ok (.aload_n 0, 1) := by decide +kernel
theorem dX9_keepFitting_33 : decode cX9_keepFitting 33 = .ok (.getfield 11, 3) := by decide +kernel
theorem dX9_keepFitting_36 : decode cX9_keepFitting 36 = .ok (.iload 4, 2) := by decide +kernel
theorem dX9_keepFitting_38 : decode cX9_keepFitting 38 = .ok (.aload_n 0, 1) := by decide +kernel
theorem dX9_keepFitting_39 : decode cX9_keepFitting 39 = .ok (.getfield 11, 3) := by decide +kernel
theorem dX9_keepFitting_42 : decode cX9_keepFitting 42 = .ok (.iload 5, 2) := by decide +kernel
theorem dX9_keepFitting_44 : decode cX9_keepFitting 44 = .ok (.iaload, 1) := by decide +kernel
theorem dX9_keepFitting_45 : decode cX9_keepFitting 45 = .ok (.iastore, 1) := by decide +kernel
theorem dX9_keepFitting_46 : decode cX9_keepFitting 46 = .ok (.iinc 4 1, 3) := by decide +kernel
theorem dX9_keepFitting_49 : decode cX9_keepFitting 49 = .ok (.iinc 5 1, 3) := by decide +kernel
theorem dX9_keepFitting_52 : decode cX9_keepFitting 52 = .ok (.goto (-46), 3) := by decide +kernel
theorem dX9_keepFitting_55 : decode cX9_keepFitting 55 = .ok (.aload_n 0, 1) := by decide +kernel
theorem dX9_keepFitting_56 : decode cX9_keepFitting 56 = .ok (.iload 4, 2) := by decide +kernel
theorem dX9_keepFitting_58 : decode cX9_keepFitting 58 = .ok (.putfield 41, 3) := by decide +kernel
theorem dX9_keepFitting_61 : decode cX9_keepFitting 61 = .ok (.aload_n 0, 1) := by decide +kernel
theorem dX9_keepFitting_62 : decode cX9_keepFitting 62 = .ok (.iconst 0, 1) := by decide +kernel
theorem dX9_keepFitting_63 : decode cX9_keepFitting 63 = .ok (.putfield 34, 3) := by decide +kernel
theorem dX9_keepFitting_66 : decode cX9_keepFitting 66 = .ok (.return_, 1) := by decide +kernel
theorem dX9_answerOf_0 : decode cX9_answerOf 0 = .ok (.aload_n 0, 1) := by decide +kernel
theorem dX9_answerOf_1 : decode cX9_answerOf 1 = .ok (.getfield 38, 3) := by decide +kernel
theorem dX9_answerOf_4 : decode cX9_answerOf 4 = .ok (.iconst 2, 1) := by decide +kernel
theorem dX9_answerOf_5 : decode cX9_answerOf 5 = .ok (.if_icmp .ne 18, 3) := by decide +kernel
theorem dX9_answerOf_8 : decode cX9_answerOf 8 = .ok (.iload_n 1, 1) := by decide +kernel
theorem dX9_answerOf_9 : decode cX9_answerOf 9 = .ok (.iload_n 2, 1) := by decide +kernel
theorem dX9_answerOf_10 : decode cX9_answerOf 10 = .ok (.invokestatic 57, 3) := by decide +kernel
theorem dX9_answerOf_13 : decode cX9_answerOf 13 = .ok (.iand, 1) := by decide +kernel
theorem dX9_answerOf_14 : decode cX9_answerOf 14 = .ok (.ifCond .eq 7, 3) := by decide +kernel
theorem dX9_answerOf_17 : decode cX9_answerOf 17 = .ok (.iconst 1, 1) := by decide +kernel
theorem dX9_answerOf_18 : decode cX9_answerOf 18 = .ok (.goto 4, 3) := by decide +kernel
theorem dX9_answerOf_21 : decode cX9_answerOf 21 = .ok (.iconst 0, 1) := by decide +kernel
theorem dX9_answerOf_22 : decode cX9_answerOf 22 = .ok (.ireturn, 1) := by decide +kernel
theorem dX9_answerOf_23 : decode cX9_answerOf 23 = .ok (.iload_n 1, 1) := by decide +kernel
theorem dX9_answerOf_24 : decode cX9_answerOf 24 = .ok (.iload_n 2, 1) := by decide +kernel
theorem dX9_answerOf_25 : decode cX9_answerOf 25 = .ok (.ishr, 1) := by decide +kernel
theorem dX9_answerOf_26 : decode cX9_answerOf 26 = .ok (.iconst 1, 1) := by decide +kernel
theorem dX9_answerOf_27 : decode cX9_answerOf 27 = .ok (.iload_n 3, 1) := by decide +kernel
theorem dX9_answerOf_28 : decode cX9_answerOf 28 = .ok (.iload_n 2, 1) := by decide +kernel
theorem dX9_answerOf_29 : decode cX9_answerOf 29 = .ok (.isub, 1) := by decide +kernel
theorem dX9_answerOf_30 : decode cX9_answerOf 30 = .ok (.ishl, 1) := by decide +kernel
theorem dX9_answerOf_31 : decode cX9_answerOf 31 = .ok (.iconst 1, 1) := by decide +kernel
theorem dX9_answerOf_32 : decode cX9_answerOf 32 = .ok (.isub, 1) := by decide +kernel
theorem dX9_answerOf_33 : decode cX9_answerOf 33 = .ok (.iand, 1) := by decide +kernel
theorem dX9_answerOf_34 : decode cX9_answerOf 34 = .ok (.invokestatic 61, 3) := by decide +kernel
theorem dX9_answerOf_37 : decode cX9_answerOf 37 = .ok (.istore 4, 2) := by decide +kernel
theorem dX9_answerOf_39 : decode cX9_answerOf 39 = .ok (.iload 4, 2) := by decide +kernel
theorem dX9_answerOf_41 : decode cX9_answerOf 41 = .ok (.aload_n 0, 1) := by decide +kernel
theorem dX9_answerOf_42 : decode cX9_answerOf 42 = .ok (.getfield 31, 3) := by decide +kernel
theorem dX9_answerOf_45 : decode cX9_answerOf 45 = .ok (.imul, 1) := by decide +kernel
theorem dX9_answerOf_46 : decode cX9_answerOf 46 = .ok (.iload_n 3, 1) := by decide +kernel
theorem dX9_answerOf_47 : decode cX9_answerOf 47 = .ok (.iload_n 2, 1) := by decide +kernel
theorem dX9_answerOf_48 : decode cX9_answerOf 48 = .ok (.isub, 1) := by decide +kernel
theorem dX9_answerOf_49 : decode cX9_answerOf 49 = .ok (.iload 4, 2) := by decide +kernel
theorem dX9_answerOf_51 : decode cX9_answerOf 51 = .ok (.isub, 1) := by decide +kernel
theorem dX9_answerOf_52 : decode cX9_answerOf 52 = .ok (.aload_n 0, 1) := by decide +kernel
theorem dX9_answerOf_53 : decode cX9_answerOf 53 = .ok (.getfield 28, 3) := by decide +kernel
theorem dX9_answerOf_56 : decode cX9_answerOf 56 = .ok (.imul, 1) := by decide +kernel
theorem dX9_answerOf_57 : decode cX9_answerOf 57 = .ok (.iadd, 1) := by decide +kernel
theorem dX9_answerOf_58 : decode cX9_answerOf 58 = .ok (.ireturn, 1) := by decide +kernel
theorem dX9_besides_0 : decode cX9_besides 0 = .ok (.bipush 7, 2) := by decide +kernel
theorem dX9_besides_2 : decode cX9_besides 2 = .ok (.iload_n 0, 1) := by decide +kernel
theorem dX9_besides_3 : decode cX9_besides 3 = .ok (.ishl, 1) := by decide +kernel
theorem dX9_besides_4 : decode cX9_besides 4 = .ok (.iconst 1, 1) := by decide +kernel
theorem dX9_besides_5 : decode cX9_besides 5 = .ok (.ishr, 1) := by decide +kernel
theorem dX9_besides_6 : decode cX9_besides 6 = .ok (.ireturn, 1) := by decide +kernel
theorem dX9_inAll_0 : decode cX9_inAll 0 = .ok (.aload_n 0, 1) := by decide +kernel
theorem dX9_inAll_1 : decode cX9_inAll 1 = .ok (.getfield 41, 3) := by decide +kernel
theorem dX9_inAll_4 : decode cX9_inAll 4 = .ok (.ifCond .ne 5, 3) := by decide +kernel
theorem dX9_inAll_7 : decode cX9_inAll 7 = .ok (.iconst 0, 1) := by decide +kernel
theorem dX9_inAll_8 : decode cX9_inAll 8 = .ok (.ireturn, 1) := by decide +kernel
theorem dX9_inAll_9 : decode cX9_inAll 9 = .ok (.iconst 1, 1) := by decide +kernel
theorem dX9_inAll_10 : decode cX9_inAll 10 = .ok (.aload_n 0, 1) := by decide +kernel
theorem dX9_inAll_11 : decode cX9_inAll 11 = .ok (.getfield 24, 3) := by decide +kernel
theorem dX9_inAll_14 : decode cX9_inAll 14 = .ok (.ishl, 1) := by decide +kernel
theorem dX9_inAll_15 : decode cX9_inAll 15 = .ok (.iconst 1, 1) := by decide +kernel
theorem dX9_inAll_16 : decode cX9_inAll 16 = .ok (.isub, 1) := by decide +kernel
theorem dX9_inAll_17 : decode cX9_inAll 17 = .ok (.istore_n 2, 1) := by decide +kernel
theorem dX9_inAll_18 : decode cX9_inAll 18 = .ok (.iload_n 1, 1) := by decide +kernel
theorem dX9_inAll_19 : decode cX9_inAll 19 = .ok (.ifCond .eq 7, 3) := by decide +kernel
theorem dX9_inAll_22 : decode cX9_inAll 22 = .ok (.iload_n 2, 1) := by decide +kernel
theorem dX9_inAll_23 : decode cX9_inAll 23 = .ok (.goto 4, 3) := by decide +kernel
theorem dX9_inAll_26 : decode cX9_inAll 26 = .ok (.iconst 0, 1) := by decide +kernel
theorem dX9_inAll_27 : decode cX9_inAll 27 = .ok (.istore_n 3, 1) := by decide +kernel
theorem dX9_inAll_28 : decode cX9_inAll 28 = .ok (.iconst 0, 1) := by decide +kernel
theorem dX9_inAll_29 : decode cX9_inAll 29 = .ok (.istore 4, 2) := by decide +kernel
theorem dX9_inAll_31 : decode cX9_inAll 31 = .ok (.iload 4, 2) := by decide +kernel
theorem dX9_inAll_33 : decode cX9_inAll 33 = .ok (.aload_n 0, 1) := by decide +kernel
theorem dX9_inAll_34 : decode cX9_inAll 34 = .ok (.getfield 41, 3) := by decide +kernel
theorem dX9_inAll_37 : decode cX9_inAll 37 = .ok (.if_icmp .ge 21, 3) := by decide +kernel
theorem dX9_inAll_40 : decode cX9_inAll 40 = .ok (.iload_n 2, 1) := by decide +kernel
theorem dX9_inAll_41 : decode cX9_inAll 41 = .ok (.aload_n 0, 1) := by decide +kernel
theorem dX9_inAll_42 : decode cX9_inAll 42 = .ok (.getfield 11, 3) := by decide +kernel
theorem dX9_inAll_45 : decode cX9_inAll 45 = .ok (.iload 4, 2) := by decide +kernel
theorem dX9_inAll_47 : decode cX9_inAll 47 = .ok (.iaload, 1) := by decide +kernel
theorem dX9_inAll_48 : decode cX9_inAll 48 = .ok (.iload_n 3, 1) := by decide +kernel
theorem dX9_inAll_49 : decode cX9_inAll 49 = .ok (.ixor, 1) := by decide +kernel
theorem dX9_inAll_50 : decode cX9_inAll 50 = .ok (.iand, 1) := by decide +kernel
theorem dX9_inAll_51 : decode cX9_inAll 51 = .ok (.istore_n 2, 1) := by decide +kernel
theorem dX9_inAll_52 : decode cX9_inAll 52 = .ok (.iinc 4 1, 3) := by decide +kernel
theorem dX9_inAll_55 : decode cX9_inAll 55 = .ok (.goto (-24), 3) := by decide +kernel
theorem dX9_inAll_58 : decode cX9_inAll 58 = .ok (.iload_n 2, 1) := by decide +kernel
theorem dX9_inAll_59 : decode cX9_inAll 59 = .ok (.ireturn, 1) := by decide +kernel
theorem dX9_findQuestion_0 : decode cX9_findQuestion 0 = .ok (.aload_n 0, 1) := by decide +kernel
theorem dX9_findQuestion_1 : decode cX9_findQuestion 1 = .ok (.getfield 34, 3) := by decide +kernel
theorem dX9_findQuestion_4 : decode cX9_findQuestion 4 = .ok (.ifCond .eq 4, 3) := by decide +kernel
theorem dX9_findQuestion_7 : decode cX9_findQuestion 7 = .ok (.return_, 1) := by decide +kernel
theorem dX9_findQuestion_8 : decode cX9_findQuestion 8 = .ok (.aload_n 0, 1) := by decide +kernel
theorem dX9_findQuestion_9 : decode cX9_findQuestion 9 = .ok (.ldc 66, 2) := by decide +kernel
theorem dX9_findQuestion_11 : decode cX9_findQuestion 11 = .ok (.putfield 50, 3) := by decide +kernel
theorem dX9_findQuestion_14 : decode cX9_findQuestion 14 = .ok (.aload_n 0, 1) := by decide +kernel
theorem dX9_findQuestion_15 : decode cX9_findQuestion 15 = .ok (.getfield 38, 3) := by decide +kernel
theorem dX9_findQuestion_18 : decode cX9_findQuestion 18 = .ok (.iconst 2, 1) := by decide +kernel
theorem dX9_findQuestion_19 : decode cX9_findQuestion 19 = .ok (.if_icmp .ne 10, 3) := by decide +kernel
theorem dX9_findQuestion_22 : decode cX9_findQuestion 22 = .ok (.aload_n 0, 1) := by decide +kernel
theorem dX9_findQuestion_23 : decode cX9_findQuestion 23 = .ok (.invokevirtual 67, 3) := by decide +kernel
theorem dX9_findQuestion_26 : decode cX9_findQuestion 26 = .ok (.goto 7, 3) := by decide +kernel
theorem dX9_findQuestion_29 : decode cX9_findQuestion 29 = .ok (.aload_n 0, 1) := by decide +kernel
theorem dX9_findQuestion_30 : decode cX9_findQuestion 30 = .ok (.invokevirtual 70, 3) := by decide +kernel
theorem dX9_findQuestion_33 : decode cX9_findQuestion 33 = .ok (.aload_n 0, 1) := by decide +kernel
theorem dX9_findQuestion_34 : decode cX9_findQuestion 34 = .ok (.iconst 1, 1) := by decide +kernel
theorem dX9_findQuestion_35 : decode cX9_findQuestion 35 = .ok (.putfield 34, 3) := by decide +kernel
theorem dX9_findQuestion_38 : decode cX9_findQuestion 38 = .ok (.return_, 1) := by decide +kernel
theorem dX9_findCourse_0 : decode cX9_findCourse 0 = .ok (.aload_n 0, 1) := by decide +kernel
theorem dX9_findCourse_1 : decode cX9_findCourse 1 = .ok (.iconst (-1), 1) := by decide +kernel
theorem dX9_findCourse_2 : decode cX9_findCourse 2 = .ok (.putfield 47, 3) := by decide +kernel
theorem dX9_findCourse_5 : decode cX9_findCourse 5 = .ok (.iconst 0, 1) := by decide +kernel
theorem dX9_findCourse_6 : decode cX9_findCourse 6 = .ok (.istore_n 1, 1) := by decide +kernel
theorem dX9_findCourse_7 : decode cX9_findCourse 7 = .ok (.iload_n 1, 1) := by decide +kernel
theorem dX9_findCourse_8 : decode cX9_findCourse 8 = .ok (.aload_n 0, 1) := by decide +kernel
theorem dX9_findCourse_9 : decode cX9_findCourse 9 = .ok (.getfield 24, 3) := by decide +kernel
theorem dX9_findCourse_12 : decode cX9_findCourse 12 = .ok (.if_icmp .ge 71, 3) := by decide +kernel
theorem dX9_findCourse_15 : decode cX9_findCourse 15 = .ok (.iconst 0, 1) := by decide +kernel
theorem dX9_findCourse_16 : decode cX9_findCourse 16 = .ok (.istore_n 2, 1) := by decide +kernel
theorem dX9_findCourse_17 : decode cX9_findCourse 17 = .ok (.iconst 0, 1) := by decide +kernel
theorem dX9_findCourse_18 : decode cX9_findCourse 18 = .ok (.istore_n 3, 1) := by decide +kernel
theorem dX9_findCourse_19 : decode cX9_findCourse 19 = .ok (.iload_n 3, 1) := by decide +kernel
theorem dX9_findCourse_20 : decode cX9_findCourse 20 = .ok (.aload_n 0, 1) := by decide +kernel
theorem dX9_findCourse_21 : decode cX9_findCourse 21 = .ok (.getfield 41, 3) := by decide +kernel
theorem dX9_findCourse_24 : decode cX9_findCourse 24 = .ok (.if_icmp .ge 24, 3) := by decide +kernel
theorem dX9_findCourse_27 : decode cX9_findCourse 27 = .ok (.iload_n 2, 1) := by decide +kernel
theorem dX9_findCourse_28 : decode cX9_findCourse 28 = .ok (.aload_n 0, 1) := by decide +kernel
theorem dX9_findCourse_29 : decode cX9_findCourse 29 = .ok (.aload_n 0, 1) := by decide +kernel
theorem dX9_findCourse_30 : decode cX9_findCourse 30 = .ok (.getfield 11, 3) := by decide +kernel
theorem dX9_findCourse_33 : decode cX9_findCourse 33 = .ok (.iload_n 3, 1) := by decide +kernel
theorem dX9_findCourse_34 : decode cX9_findCourse 34 = .ok (.iaload, 1) := by decide +kernel
theorem dX9_findCourse_35 : decode cX9_findCourse 35 = .ok (.iload_n 1, 1) := by decide +kernel
theorem dX9_findCourse_36 : decode cX9_findCourse 36 = .ok (.iconst (-1), 1) := by decide +kernel
theorem dX9_findCourse_37 : decode cX9_findCourse 37 = .ok (.invokevirtual 53, 3) := by decide +kernel
theorem dX9_findCourse_40 : decode cX9_findCourse 40 = .ok (.iadd, 1) := by decide +kernel
theorem dX9_findCourse_41 : decode cX9_findCourse 41 = .ok (.istore_n 2, 1) := by decide +kernel
theorem dX9_findCourse_42 : decode cX9_findCourse 42 = .ok (.iinc 3 1, 3) := by decide +kernel
theorem dX9_findCourse_45 : decode cX9_findCourse 45 = .ok (.goto (-26), 3) := by decide +kernel
theorem dX9_findCourse_48 : decode cX9_findCourse 48 = .ok (.iload_n 2, 1) := by decide +kernel
theorem dX9_findCourse_49 : decode cX9_findCourse 49 = .ok (.aload_n 0, 1) := by decide +kernel
theorem dX9_findCourse_50 : decode cX9_findCourse 50 = .ok (.getfield 41, 3) := by decide +kernel
theorem dX9_findCourse_53 : decode cX9_findCourse 53 = .ok (.iload_n 2, 1) := by decide +kernel
theorem dX9_findCourse_54 : decode cX9_findCourse 54 = .ok (.isub, 1) := by decide +kernel
theorem dX9_findCourse_55 : decode cX9_findCourse 55 = .ok (.invokestatic 73, 3) := by decide +kernel
theorem dX9_findCourse_58 : decode cX9_findCourse 58 = .ok (.istore_n 3, 1) := by decide +kernel
theorem dX9_findCourse_59 : decode cX9_findCourse 59 = .ok (.iload_n 3, 1) := by decide +kernel
theorem dX9_findCourse_60 : decode cX9_findCourse 60 = .ok (.aload_n 0, 1) := by decide +kernel
theorem dX9_findCourse_61 : decode cX9_findCourse 61 = .ok (.getfield 50, 3) := by decide +kernel
theorem dX9_findCourse_64 : decode cX9_findCourse 64 = .ok (.if_icmp .ge 13, 3) := by decide +kernel
theorem dX9_findCourse_67 : decode cX9_findCourse 67 = .ok (.aload_n 0, 1) := by decide +kernel
theorem dX9_findCourse_68 : decode cX9_findCourse 68 = .ok (.iload_n 3, 1) := by decide +kernel
theorem dX9_findCourse_69 : decode cX9_findCourse 69 = .ok (.putfield 50, 3) := by decide +kernel
theorem dX9_findCourse_72 : decode cX9_findCourse 72 = .ok (.aload_n 0, 1) := by decide +kernel
theorem dX9_findCourse_73 : decode cX9_findCourse 73 = .ok (.iload_n 1, 1) := by decide +kernel
theorem dX9_findCourse_74 : decode cX9_findCourse 74 = .ok (.putfield 44, 3) := by decide +kernel
theorem dX9_findCourse_77 : decode cX9_findCourse 77 = .ok (.iinc 1 1, 3) := by decide +kernel
theorem dX9_findCourse_80 : decode cX9_findCourse 80 = .ok (.goto (-73), 3) := by decide +kernel
theorem dX9_findCourse_83 : decode cX9_findCourse 83 = .ok (.return_, 1) := by decide +kernel
theorem dX9_findClamps_0 : decode cX9_findClamps 0 = .ok (.iconst 1, 1) := by decide +kernel
theorem dX9_findClamps_1 : decode cX9_findClamps 1 = .ok (.aload_n 0, 1) := by decide +kernel
theorem dX9_findClamps_2 : decode cX9_findClamps 2 = .ok (.getfield 24, 3) := by decide +kernel
theorem dX9_findClamps_5 : decode cX9_findClamps 5 = .ok (.ishl, 1) := by decide +kernel
theorem dX9_findClamps_6 : decode cX9_findClamps 6 = .ok (.istore_n 1, 1) := by decide +kernel
theorem dX9_findClamps_7 : decode cX9_findClamps 7 = .ok (.iconst 0, 1) := by decide +kernel
theorem dX9_findClamps_8 : decode cX9_findClamps 8 = .ok (.istore_n 2, 1) := by decide +kernel
theorem dX9_findClamps_9 : decode cX9_findClamps 9 = .ok (.iload_n 2, 1) := by decide +kernel
theorem dX9_findClamps_10 : decode cX9_findClamps 10 = .ok (.iload_n 1, 1) := by decide +kernel
theorem dX9_findClamps_11 : decode cX9_findClamps 11 = .ok (.if_icmp .ge 16, 3) := by decide +kernel
theorem dX9_findClamps_14 : decode cX9_findClamps 14 = .ok (.aload_n 0, 1) := by decide +kernel
theorem dX9_findClamps_15 : decode cX9_findClamps 15 = .ok (.getfield 15, 3) := by decide +kernel
theorem dX9_findClamps_18 : decode cX9_findClamps 18 = .ok (.iload_n 2, 1) := by decide +kernel
theorem dX9_findClamps_19 : decode cX9_findClamps 19 = .ok (.iconst 0, 1) := by decide +kernel
theorem dX9_findClamps_20 : decode cX9_findClamps 20 = .ok (.iastore, 1) := by decide +kernel
theorem dX9_findClamps_21 : decode cX9_findClamps 21 = .ok (.iinc 2 1, 3) := by decide +kernel
theorem dX9_findClamps_24 : decode cX9_findClamps 24 = .ok (.goto (-15), 3) := by decide +kernel
theorem dX9_findClamps_27 : decode cX9_findClamps 27 = .ok (.iconst 0, 1) := by decide +kernel
theorem dX9_findClamps_28 : decode cX9_findClamps 28 = .ok (.istore_n 2, 1) := by decide +kernel
theorem dX9_findClamps_29 : decode cX9_findClamps 29 = .ok (.iload_n 2, 1) := by decide +kernel
theorem dX9_findClamps_30 : decode cX9_findClamps 30 = .ok (.aload_n 0, 1) := by decide +kernel
theorem dX9_findClamps_31 : decode cX9_findClamps 31 = .ok (.getfield 41, 3) := by decide +kernel
theorem dX9_findClamps_34 : decode cX9_findClamps 34 = .ok (.if_icmp .ge 21, 3) := by decide +kernel
theorem dX9_findClamps_37 : decode cX9_findClamps 37 = .ok (.aload_n 0, 1) := by decide +kernel
theorem dX9_findClamps_38 : decode cX9_findClamps 38 = .ok (.getfield 15, 3) := by decide +kernel
theorem dX9_findClamps_41 : decode cX9_findClamps 41 = .ok (.aload_n 0, 1) := by decide +kernel
theorem dX9_findClamps_42 : decode cX9_findClamps 42 = .ok (.getfield 11, 3) := by decide +kernel
theorem dX9_findClamps_45 : decode cX9_findClamps 45 = .ok (.iload_n 2, 1) := by decide +kernel
theorem dX9_findClamps_46 : decode cX9_findClamps 46 = .ok (.iaload, 1) := by decide +kernel
theorem dX9_findClamps_47 : decode cX9_findClamps 47 = .ok (.iconst 1, 1) := by decide +kernel
theorem dX9_findClamps_48 : decode cX9_findClamps 48 = .ok (.iastore, 1) := by decide +kernel
theorem dX9_findClamps_49 : decode cX9_findClamps 49 = .ok (.iinc 2 1, 3) := by decide +kernel
theorem dX9_findClamps_52 : decode cX9_findClamps 52 = .ok (.goto (-23), 3) := by decide +kernel
theorem dX9_findClamps_55 : decode cX9_findClamps 55 = .ok (.iconst 0, 1) := by decide +kernel
theorem dX9_findClamps_56 : decode cX9_findClamps 56 = .ok (.istore_n 2, 1) := by decide +kernel
theorem dX9_findClamps_57 : decode cX9_findClamps 57 = .ok (.iload_n 2, 1) := by decide +kernel
theorem dX9_findClamps_58 : decode cX9_findClamps 58 = .ok (.aload_n 0, 1) := by decide +kernel
theorem dX9_findClamps_59 : decode cX9_findClamps 59 = .ok (.getfield 24, 3) := by decide +kernel
theorem dX9_findClamps_62 : decode cX9_findClamps 62 = .ok (.if_icmp .ge 56, 3) := by decide +kernel
theorem dX9_findClamps_65 : decode cX9_findClamps 65 = .ok (.aload_n 0, 1) := by decide +kernel
theorem dX9_findClamps_66 : decode cX9_findClamps 66 = .ok (.iload_n 2, 1) := by decide +kernel
theorem dX9_findClamps_67 : decode cX9_findClamps 67 = .ok (.invokevirtual 79, 3) := by decide +kernel
theorem dX9_findClamps_70 : decode cX9_findClamps 70 = .ok (.iconst 0, 1) := by decide +kernel
theorem dX9_findClamps_71 : decode cX9_findClamps 71 = .ok (.istore_n 3, 1) := by decide +kernel
theorem dX9_findClamps_72 : decode cX9_findClamps 72 = .ok (.iload_n 3, 1) := by decide +kernel
theorem dX9_findClamps_73 : decode cX9_findClamps 73 = .ok (.iload_n 1, 1) := by decide +kernel
theorem dX9_findClamps_74 : decode cX9_findClamps 74 = .ok (.iload_n 2, 1) := by decide +kernel
theorem dX9_findClamps_75 : decode cX9_findClamps 75 = .ok (.iconst 1, 1) := by decide +kernel
theorem dX9_findClamps_76 : decode cX9_findClamps 76 = .ok (.iadd, 1) := by decide +kernel
theorem dX9_findClamps_77 : decode cX9_findClamps 77 = .ok (.ishr, 1) := by decide +kernel
theorem dX9_findClamps_78 : decode cX9_findClamps 78 = .ok (.if_icmp .ge 34, 3) := by decide +kernel
theorem dX9_findClamps_81 : decode cX9_findClamps 81 = .ok (.aload_n 0, 1) := by decide +kernel
theorem dX9_findClamps_82 : decode cX9_findClamps 82 = .ok (.getfield 15, 3) := by decide +kernel
theorem dX9_findClamps_85 : decode cX9_findClamps 85 = .ok (.iload_n 3, 1) := by decide +kernel
theorem dX9_findClamps_86 : decode cX9_findClamps 86 = .ok (.aload_n 0, 1) := by decide +kernel
theorem dX9_findClamps_87 : decode cX9_findClamps 87 = .ok (.getfield 15, 3) := by decide +kernel
theorem dX9_findClamps_90 : decode cX9_findClamps 90 = .ok (.iconst 2, 1) := by decide +kernel
theorem dX9_findClamps_91 : decode cX9_findClamps 91 = .ok (.iload_n 3, 1) := by decide +kernel
theorem dX9_findClamps_92 : decode cX9_findClamps 92 = .ok (.imul, 1) := by decide +kernel
theorem dX9_findClamps_93 : decode cX9_findClamps 93 = .ok (.iaload, 1) := by decide +kernel
theorem dX9_findClamps_94 : decode cX9_findClamps 94 = .ok (.aload_n 0, 1) := by decide +kernel
theorem dX9_findClamps_95 : decode cX9_findClamps 95 = .ok (.getfield 15, 3) := by decide +kernel
theorem dX9_findClamps_98 : decode cX9_findClamps 98 = .ok (.iconst 2, 1) := by decide +kernel
theorem dX9_findClamps_99 : decode cX9_findClamps 99 = .ok (.iload_n 3, 1) := by decide +kernel
theorem dX9_findClamps_100 : decode cX9_findClamps 100 = .ok (.imul, 1) := by decide +kernel
theorem dX9_findClamps_101 : decode cX9_findClamps 101 = .ok (.iconst 1, 1) := by decide +kernel
theorem dX9_findClamps_102 : decode cX9_findClamps 102 = .ok (.iadd, 1) := by decide +kernel
theorem dX9_findClamps_103 : decode cX9_findClamps 103 = .ok (.iaload, 1) := by decide +kernel
theorem dX9_findClamps_104 : decode cX9_findClamps 104 = .ok (.iadd, 1) := by decide +kernel
theorem dX9_findClamps_105 : decode cX9_findClamps 105 = .ok (.iastore, 1) := by decide +kernel
theorem dX9_findClamps_106 : decode cX9_findClamps 106 = .ok (.iinc 3 1, 3) := by decide +kernel
theorem dX9_findClamps_109 : decode cX9_findClamps 109 = .ok (.goto (-37), 3) := by decide +kernel
theorem dX9_findClamps_112 : decode cX9_findClamps 112 = .ok (.iinc 2 1, 3) := by decide +kernel
theorem dX9_findClamps_115 : decode cX9_findClamps 115 = .ok (.goto (-58), 3) := by decide +kernel
theorem dX9_findClamps_118 : decode cX9_findClamps 118 = .ok (.return_, 1) := by decide +kernel
theorem dX9_askFrom_0 : decode cX9_askFrom 0 = .ok (.aload_n 0, 1) := by decide +kernel
theorem dX9_askFrom_1 : decode cX9_askFrom 1 = .ok (.getfield 15, 3) := by decide +kernel
theorem dX9_askFrom_4 : decode cX9_askFrom 4 = .ok (.iconst 0, 1) := by decide +kernel
theorem dX9_askFrom_5 : decode cX9_askFrom 5 = .ok (.aload_n 0, 1) := by decide +kernel
theorem dX9_askFrom_6 : decode cX9_askFrom 6 = .ok (.getfield 18, 3) := by decide +kernel
theorem dX9_askFrom_9 : decode cX9_askFrom 9 = .ok (.iconst 0, 1) := by decide +kernel
theorem dX9_askFrom_10 : decode cX9_askFrom 10 = .ok (.iconst 1, 1) := by decide +kernel
theorem dX9_askFrom_11 : decode cX9_askFrom 11 = .ok (.aload_n 0, 1) := by decide +kernel
theorem dX9_askFrom_12 : decode cX9_askFrom 12 = .ok (.getfield 24, 3) := by decide +kernel
theorem dX9_askFrom_15 : decode cX9_askFrom 15 = .ok (.iload_n 1, 1) := by decide +kernel
theorem dX9_askFrom_16 : decode cX9_askFrom 16 = .ok (.isub, 1) := by decide +kernel
theorem dX9_askFrom_17 : decode cX9_askFrom 17 = .ok (.ishl, 1) := by decide +kernel
theorem dX9_askFrom_18 : decode cX9_askFrom 18 = .ok (.invokestatic 83, 3) := by decide +kernel
theorem dX9_askFrom_21 : decode cX9_askFrom 21 = .ok (.aload_n 0, 1) := by decide +kernel
theorem dX9_askFrom_22 : decode cX9_askFrom 22 = .ok (.getfield 24, 3) := by decide +kernel
theorem dX9_askFrom_25 : decode cX9_askFrom 25 = .ok (.istore_n 2, 1) := by decide +kernel
theorem dX9_askFrom_26 : decode cX9_askFrom 26 = .ok (.iload_n 2, 1) := by decide +kernel
theorem dX9_askFrom_27 : decode cX9_askFrom 27 = .ok (.iload_n 1, 1) := by decide +kernel
theorem dX9_askFrom_28 : decode cX9_askFrom 28 = .ok (.if_icmp .le 103, 3) := by decide +kernel
theorem dX9_askFrom_31 : decode cX9_askFrom 31 = .ok (.aload_n 0, 1) := by decide +kernel
theorem dX9_askFrom_32 : decode cX9_askFrom 32 = .ok (.iconst 1, 1) := by decide +kernel
theorem dX9_askFrom_33 : decode cX9_askFrom 33 = .ok (.iload_n 2, 1) := by decide +kernel
theorem dX9_askFrom_34 : decode cX9_askFrom 34 = .ok (.iload_n 1, 1) := by decide +kernel
theorem dX9_askFrom_35 : decode cX9_askFrom 35 = .ok (.isub, 1) := by decide +kernel
theorem dX9_askFrom_36 : decode cX9_askFrom 36 = .ok (.ishl, 1) := by decide +kernel
theorem dX9_askFrom_37 : decode cX9_askFrom 37 = .ok (.invokevirtual 89, 3) := by decide +kernel
theorem dX9_askFrom_40 : decode cX9_askFrom 40 = .ok (.istore_n 3, 1) := by decide +kernel
theorem dX9_askFrom_41 : decode cX9_askFrom 41 = .ok (.iload_n 3, 1) := by decide +kernel
theorem dX9_askFrom_42 : decode cX9_askFrom 42 = .ok (.aload_n 0, 1) := by decide +kernel
theorem dX9_askFrom_43 : decode cX9_askFrom 43 = .ok (.getfield 50, 3) := by decide +kernel
theorem dX9_askFrom_46 : decode cX9_askFrom 46 = .ok (.if_icmp .lt 19, 3) := by decide +kernel
theorem dX9_askFrom_49 : decode cX9_askFrom 49 = .ok (.iload_n 3, 1) := by decide +kernel
theorem dX9_askFrom_50 : decode cX9_askFrom 50 = .ok (.aload_n 0, 1) := by decide +kernel
theorem dX9_askFrom_51 : decode cX9_askFrom 51 = .ok (.getfield 50, 3) := by decide +kernel
theorem dX9_askFrom_54 : decode cX9_askFrom 54 = .ok (.if_icmp .ne 26, 3) := by decide +kernel
theorem dX9_askFrom_57 : decode cX9_askFrom 57 = .ok (.aload_n 0, 1) := by decide +kernel
theorem dX9_askFrom_58 : decode cX9_askFrom 58 = .ok (.getfield 44, 3) := by decide +kernel
theorem dX9_askFrom_61 : decode cX9_askFrom 61 = .ok (.iload_n 1, 1) := by decide +kernel
theorem dX9_askFrom_62 : decode cX9_askFrom 62 = .ok (.if_icmp .ne 18, 3) := by decide +kernel
theorem dX9_askFrom_65 : decode cX9_askFrom 65 = .ok (.aload_n 0, 1) := by decide +kernel
theorem dX9_askFrom_66 : decode cX9_askFrom 66 = .ok (.iload_n 3, 1) := by decide +kernel
theorem dX9_askFrom_67 : decode cX9_askFrom 67 = .ok (.putfield 50, 3) := by decide +kernel
theorem dX9_askFrom_70 : decode cX9_askFrom 70 = .ok (.aload_n 0, 1) := by decide +kernel
theorem dX9_askFrom_71 : decode cX9_askFrom 71 = .ok (.iload_n 1, 1) := by decide +kernel
theorem dX9_askFrom_72 : decode cX9_askFrom 72 = .ok (.putfield 44, 3) := by decide +kernel
theorem dX9_askFrom_75 : decode cX9_askFrom 75 = .ok (.aload_n 0, 1) := by decide +kernel
theorem dX9_askFrom_76 : decode cX9_askFrom 76 = .ok (.iload_n 2, 1) := by decide +kernel
theorem dX9_askFrom_77 : decode cX9_askFrom 77 = .ok (.putfield 47, 3) := by decide +kernel
theorem dX9_askFrom_80 : decode cX9_askFrom 80 = .ok (.iconst 1, 1) := by decide +kernel
theorem dX9_askFrom_81 : decode cX9_askFrom 81 = .ok (.iload_n 2, 1) := by decide +kernel
theorem dX9_askFrom_82 : decode cX9_askFrom 82 = .ok (.iload_n 1, 1) := by decide +kernel
theorem dX9_askFrom_83 : decode cX9_askFrom 83 = .ok (.isub, 1) := by decide +kernel
theorem dX9_askFrom_84 : decode cX9_askFrom 84 = .ok (.iconst 1, 1) := by decide +kernel
theorem dX9_askFrom_85 : decode cX9_askFrom 85 = .ok (.isub, 1) := by decide +kernel
theorem dX9_askFrom_86 : decode cX9_askFrom 86 = .ok (.ishl, 1) := by decide +kernel
theorem dX9_askFrom_87 : decode cX9_askFrom 87 = .ok (.istore 4, 2) := by decide +kernel
theorem dX9_askFrom_89 : decode cX9_askFrom 89 = .ok (.iconst 0, 1) := by decide +kernel
theorem dX9_askFrom_90 : decode cX9_askFrom 90 = .ok (.istore 5, 2) := by decide +kernel
theorem dX9_askFrom_92 : decode cX9_askFrom 92 = .ok (.iload 5, 2) := by decide +kernel
theorem dX9_askFrom_94 : decode cX9_askFrom 94 = .ok (.iload 4, 2) := by decide +kernel
theorem dX9_askFrom_96 : decode cX9_askFrom 96 = .ok (.if_icmp .ge 29, 3) := by decide +kernel
theorem dX9_askFrom_99 : decode cX9_askFrom 99 = .ok (.aload_n 0, 1) := by decide +kernel
theorem dX9_askFrom_100 : decode cX9_askFrom 100 = .ok (.getfield 18, 3) := by decide +kernel
theorem dX9_askFrom_103 : decode cX9_askFrom 103 = .ok (.iload 5, 2) := by decide +kernel
theorem dX9_askFrom_105 : decode cX9_askFrom 105 = .ok (.dup2, 1) := by decide +kernel
theorem dX9_askFrom_106 : decode cX9_askFrom 106 = .ok (.iaload, 1) := by decide +kernel
theorem dX9_askFrom_107 : decode cX9_askFrom 107 = .ok (.aload_n 0, 1) := by decide +kernel
theorem dX9_askFrom_108 : decode cX9_askFrom 108 = .ok (.getfield 18, 3) := by decide +kernel
theorem dX9_askFrom_111 : decode cX9_askFrom 111 = .ok (.iload 5, 2) := by decide +kernel
theorem dX9_askFrom_113 : decode cX9_askFrom 113 = .ok (.iload 4, 2) := by decide +kernel
theorem dX9_askFrom_115 : decode cX9_askFrom 115 = .ok (.iadd, 1) := by decide +kernel
theorem dX9_askFrom_116 : decode cX9_askFrom 116 = .ok (.iaload, 1) := by decide +kernel
theorem dX9_askFrom_117 : decode cX9_askFrom 117 = .ok (.iadd, 1) := by decide +kernel
theorem dX9_askFrom_118 : decode cX9_askFrom 118 = .ok (.iastore, 1) := by decide +kernel
theorem dX9_askFrom_119 : decode cX9_askFrom 119 = .ok (.iinc 5 1, 3) := by decide +kernel
theorem dX9_askFrom_122 : decode cX9_askFrom 122 = .ok (.goto (-30), 3) := by decide +kernel
theorem dX9_askFrom_125 : decode cX9_askFrom 125 = .ok (.iinc 2 (-1), 3) := by decide +kernel
theorem dX9_askFrom_128 : decode cX9_askFrom 128 = .ok (.goto (-102), 3) := by decide +kernel
theorem dX9_askFrom_131 : decode cX9_askFrom 131 = .ok (.return_, 1) := by decide +kernel
theorem dX9_mostAlike_0 : decode cX9_mostAlike 0 = .ok (.aload_n 0, 1) := by decide +kernel
theorem dX9_mostAlike_1 : decode cX9_mostAlike 1 = .ok (.getfield 21, 3) := by decide +kernel
theorem dX9_mostAlike_4 : decode cX9_mostAlike 4 = .ok (.iconst 0, 1) := by decide +kernel
theorem dX9_mostAlike_5 : decode cX9_mostAlike 5 = .ok (.invokestatic 92, 3) := by decide +kernel
theorem dX9_mostAlike_8 : decode cX9_mostAlike 8 = .ok (.iconst 0, 1) := by decide +kernel
theorem dX9_mostAlike_9 : decode cX9_mostAlike 9 = .ok (.istore_n 2, 1) := by decide +kernel
theorem dX9_mostAlike_10 : decode cX9_mostAlike 10 = .ok (.iconst 0, 1) := by decide +kernel
theorem dX9_mostAlike_11 : decode cX9_mostAlike 11 = .ok (.istore_n 3, 1) := by decide +kernel
theorem dX9_mostAlike_12 : decode cX9_mostAlike 12 = .ok (.iload_n 3, 1) := by decide +kernel
theorem dX9_mostAlike_13 : decode cX9_mostAlike 13 = .ok (.iload_n 1, 1) := by decide +kernel
theorem dX9_mostAlike_14 : decode cX9_mostAlike 14 = .ok (.if_icmp .ge 43, 3) := by decide +kernel
theorem dX9_mostAlike_17 : decode cX9_mostAlike 17 = .ok (.iload_n 3, 1) := by decide +kernel
theorem dX9_mostAlike_18 : decode cX9_mostAlike 18 = .ok (.invokestatic 61, 3) := by decide +kernel
theorem dX9_mostAlike_21 : decode cX9_mostAlike 21 = .ok (.istore 4, 2) := by decide +kernel
theorem dX9_mostAlike_23 : decode cX9_mostAlike 23 = .ok (.aload_n 0, 1) := by decide +kernel
theorem dX9_mostAlike_24 : decode cX9_mostAlike 24 = .ok (.getfield 21, 3) := by decide +kernel
theorem dX9_mostAlike_27 : decode cX9_mostAlike 27 = .ok (.iload 4, 2) := by decide +kernel
theorem dX9_mostAlike_29 : decode cX9_mostAlike 29 = .ok (.dup2, 1) := by decide +kernel
theorem dX9_mostAlike_30 : decode cX9_mostAlike 30 = .ok (.iaload, 1) := by decide +kernel
theorem dX9_mostAlike_31 : decode cX9_mostAlike 31 = .ok (.aload_n 0, 1) := by decide +kernel
theorem dX9_mostAlike_32 : decode cX9_mostAlike 32 = .ok (.getfield 18, 3) := by decide +kernel
theorem dX9_mostAlike_35 : decode cX9_mostAlike 35 = .ok (.iload_n 3, 1) := by decide +kernel
theorem dX9_mostAlike_36 : decode cX9_mostAlike 36 = .ok (.iaload, 1) := by decide +kernel
theorem dX9_mostAlike_37 : decode cX9_mostAlike 37 = .ok (.iadd, 1) := by decide +kernel
theorem dX9_mostAlike_38 : decode cX9_mostAlike 38 = .ok (.iastore, 1) := by decide +kernel
theorem dX9_mostAlike_39 : decode cX9_mostAlike 39 = .ok (.iload_n 2, 1) := by decide +kernel
theorem dX9_mostAlike_40 : decode cX9_mostAlike 40 = .ok (.aload_n 0, 1) := by decide +kernel
theorem dX9_mostAlike_41 : decode cX9_mostAlike 41 = .ok (.getfield 21, 3) := by decide +kernel
theorem dX9_mostAlike_44 : decode cX9_mostAlike 44 = .ok (.iload 4, 2) := by decide +kernel
theorem dX9_mostAlike_46 : decode cX9_mostAlike 46 = .ok (.iaload, 1) := by decide +kernel
theorem dX9_mostAlike_47 : decode cX9_mostAlike 47 = .ok (.invokestatic 73, 3) := by decide +kernel
theorem dX9_mostAlike_50 : decode cX9_mostAlike 50 = .ok (.istore_n 2, 1) := by decide +kernel
theorem dX9_mostAlike_51 : decode cX9_mostAlike 51 = .ok (.iinc 3 1, 3) := by decide +kernel
theorem dX9_mostAlike_54 : decode cX9_mostAlike 54 = .ok (.goto (-42), 3) := by decide +kernel
theorem dX9_mostAlike_57 : decode cX9_mostAlike 57 = .ok (.iload_n 2, 1) := by decide +kernel
theorem dX9_mostAlike_58 : decode cX9_mostAlike 58 = .ok (.ireturn, 1) := by decide +kernel
theorem dX10_init_0 : decode cX10_init 0 = .ok (.aload_n 0, 1) := by decide +kernel
theorem dX10_init_1 : decode cX10_init 1 = .ok (.invokespecial 3, 3) := by decide +kernel
theorem dX10_init_4 : decode cX10_init 4 = .ok (.aload_n 0, 1) := by decide +kernel
theorem dX10_init_5 : decode cX10_init 5 = .ok (.bipush 12, 2) := by decide +kernel
theorem dX10_init_7 : decode cX10_init 7 = .ok (.newarray .int, 2) := by decide +kernel
theorem dX10_init_9 : decode cX10_init 9 = .ok (.putfield 9, 3) := by decide +kernel
theorem dX10_init_12 : decode cX10_init 12 = .ok (.aload_n 0, 1) := by decide +kernel
theorem dX10_init_13 : decode cX10_init 13 = .ok (.sipush 144, 3) := by decide +kernel
theorem dX10_init_16 : decode cX10_init 16 = .ok (.newarray .int, 2) := by decide +kernel
theorem dX10_init_18 : decode cX10_init 18 = .ok (.putfield 15, 3) := by decide +kernel
theorem dX10_init_21 : decode cX10_init 21 = .ok (.aload_n 0, 1) := by decide +kernel
theorem dX10_init_22 : decode cX10_init 22 = .ok (.bipush 30, 2) := by decide +kernel
theorem dX10_init_24 : decode cX10_init 24 = .ok (.newarray .int, 2) := by decide +kernel
theorem dX10_init_26 : decode cX10_init 26 = .ok (.putfield 18, 3) := by decide +kernel
theorem dX10_init_29 : decode cX10_init 29 = .ok (.aload_n 0, 1) := by decide +kernel
theorem dX10_init_30 : decode cX10_init 30 = .ok (.bipush 48, 2) := by decide +kernel
theorem dX10_init_32 : decode cX10_init 32 = .ok (.newarray .int, 2) := by decide +kernel
theorem dX10_init_34 : decode cX10_init 34 = .ok (.putfield 21, 3) := by decide +kernel
theorem dX10_init_37 : decode cX10_init 37 = .ok (.aload_n 0, 1) := by decide +kernel
theorem dX10_init_38 : decode cX10_init 38 = .ok (.bipush 12, 2) := by decide +kernel
theorem dX10_init_40 : decode cX10_init 40 = .ok (.newarray .int, 2) := by decide +kernel
theorem dX10_init_42 : decode cX10_init 42 = .ok (.putfield 24, 3) := by decide +kernel
theorem dX10_init_45 : decode cX10_init 45 = .ok (.aload_n 0, 1) := by decide +kernel
theorem dX10_init_46 : decode cX10_init 46 = .ok (.iconst 0, 1) := by decide +kernel
theorem dX10_init_47 : decode cX10_init 47 = .ok (.putfield 27, 3) := by decide +kernel
theorem dX10_init_50 : decode cX10_init 50 = .ok (.aload_n 0, 1) := by decide +kernel
theorem dX10_init_51 : decode cX10_init 51 = .ok (.iconst 0, 1) := by decide +kernel
theorem dX10_init_52 : decode cX10_init 52 = .ok (.putfield 31, 3) := by decide +kernel
theorem dX10_init_55 : decode cX10_init 55 = .ok (.aload_n 0, 1) := by decide +kernel
theorem dX10_init_56 : decode cX10_init 56 = .ok (.iconst 0, 1) := by decide +kernel
theorem dX10_init_57 : decode cX10_init 57 = .ok (.putfield 34, 3) := by decide +kernel
theorem dX10_init_60 : decode cX10_init 60 = .ok (.aload_n 0, 1) := by decide +kernel
theorem dX10_init_61 : decode cX10_init 61 = .ok (.iconst 0, 1) := by decide +kernel
theorem dX10_init_62 : decode cX10_init 62 = .ok (.putfield 37, 3) := by decide +kernel
theorem dX10_init_65 : decode cX10_init 65 = .ok (.aload_n 0, 1) := by decide +kernel
theorem dX10_init_66 : decode cX10_init 66 = .ok (.invokevirtual 40, 3) := by decide +kernel
theorem dX10_init_69 : decode cX10_init 69 = .ok (.return_, 1) := by decide +kernel
theorem dX10_clear_0 : decode cX10_clear 0 = .ok (.aload_n 0, 1) := by decide +kernel
theorem dX10_clear_1 : decode cX10_clear 1 = .ok (.getfield 15, 3) := by decide +kernel
theorem dX10_clear_4 : decode cX10_clear 4 = .ok (.iconst 1, 1) := by decide +kernel
theorem dX10_clear_5 : decode cX10_clear 5 = .ok (.invokestatic 43, 3) := by decide +kernel
theorem dX10_clear_8 : decode cX10_clear 8 = .ok (.aload_n 0, 1) := by decide +kernel
theorem dX10_clear_9 : decode cX10_clear 9 = .ok (.getfield 18, 3) := by decide +kernel
theorem dX10_clear_12 : decode cX10_clear 12 = .ok (.bipush 13, 2) := by decide +kernel
theorem dX10_clear_14 : decode cX10_clear 14 = .ok (.invokestatic 43, 3) := by decide +kernel
theorem dX10_clear_17 : decode cX10_clear 17 = .ok (.aload_n 0, 1) := by decide +kernel
theorem dX10_clear_18 : decode cX10_clear 18 = .ok (.getfield 24, 3) := by decide +kernel
theorem dX10_clear_21 : decode cX10_clear 21 = .ok (.iconst 0, 1) := by decide +kernel
theorem dX10_clear_22 : decode cX10_clear 22 = .ok (.invokestatic 43, 3) := by decide +kernel
theorem dX10_clear_25 : decode cX10_clear 25 = .ok (.aload_n 0, 1) := by decide +kernel
theorem dX10_clear_26 : decode cX10_clear 26 = .ok (.iconst 0, 1) := by decide +kernel
theorem dX10_clear_27 : decode cX10_clear 27 = .ok (.putfield 27, 3) := by decide +kernel
theorem dX10_clear_30 : decode cX10_clear 30 = .ok (.aload_n 0, 1) := by decide +kernel
theorem dX10_clear_31 : decode cX10_clear 31 = .ok (.iconst 0, 1) := by decide +kernel
theorem dX10_clear_32 : decode cX10_clear 32 = .ok (.putfield 31, 3) := by decide +kernel
theorem dX10_clear_35 : decode cX10_clear 35 = .ok (.aload_n 0, 1) := by decide +kernel
theorem dX10_clear_36 : decode cX10_clear 36 = .ok (.iconst 0, 1) := by decide +kernel
theorem dX10_clear_37 : decode cX10_clear 37 = .ok (.putfield 34, 3) := by decide +kernel
theorem dX10_clear_40 : decode cX10_clear 40 = .ok (.aload_n 0, 1) := by decide +kernel
theorem dX10_clear_41 : decode cX10_clear 41 = .ok (.iconst 0, 1) := by decide +kernel
theorem dX10_clear_42 : decode cX10_clear 42 = .ok (.putfield 37, 3) := by decide +kernel
theorem dX10_clear_45 : decode cX10_clear 45 = .ok (.return_, 1) := by decide +kernel
theorem dX10_setTravel_0 : decode cX10_setTravel 0 = .ok (.aload_n 0, 1) := by decide +kernel
theorem dX10_setTravel_1 : decode cX10_setTravel 1 = .ok (.getfield 15, 3) := by decide +kernel
theorem dX10_setTravel_4 : decode cX10_setTravel 4 = .ok (.iload_n 1, 1) := by decide +kernel
theorem dX10_setTravel_5 : decode cX10_setTravel 5 = .ok (.bipush 12, 2) := by decide +kernel
theorem dX10_setTravel_7 : decode cX10_setTravel 7 = .ok (.imul, 1) := by decide +kernel
theorem dX10_setTravel_8 : decode cX10_setTravel 8 = .ok (.iload_n 2, 1) := by decide +kernel
theorem dX10_setTravel_9 : decode cX10_setTravel 9 = .ok (.iadd, 1) := by decide +kernel
theorem dX10_setTravel_10 : decode cX10_setTravel 10 = .ok (.iload_n 3, 1) := by decide +kernel
theorem dX10_setTravel_11 : decode cX10_setTravel 11 = .ok (.iastore, 1) := by decide +kernel
theorem dX10_setTravel_12 : decode cX10_setTravel 12 = .ok (.aload_n 0, 1) := by decide +kernel
theorem dX10_setTravel_13 : decode cX10_setTravel 13 = .ok (.getfield 15, 3) := by decide +kernel
theorem dX10_setTravel_16 : decode cX10_setTravel 16 = .ok (.iload_n 2, 1) := by decide +kernel
theorem dX10_setTravel_17 : decode cX10_setTravel 17 = .ok (.bipush 12, 2) := by decide +kernel
theorem dX10_setTravel_19 : decode cX10_setTravel 19 = .ok (.imul, 1) := by decide +kernel
theorem dX10_setTravel_20 : decode cX10_setTravel 20 = .ok (.iload_n 1, 1) := by decide +kernel
theorem dX10_setTravel_21 : decode cX10_setTravel 21 = .ok (.iadd, 1) := by decide +kernel
theorem dX10_setTravel_22 : decode cX10_setTravel 22 = .ok (.iload_n 3, 1) := by decide +kernel
theorem dX10_setTravel_23 : decode cX10_setTravel 23 = .ok (.iastore, 1) := by decide +kernel
theorem dX10_setTravel_24 : decode cX10_setTravel 24 = .ok (.return_, 1) := by decide +kernel
theorem dX10_travel_0 : decode cX10_travel 0 = .ok (.iload_n 1, 1) := by decide +kernel
theorem dX10_travel_1 : decode cX10_travel 1 = .ok (.iload_n 2, 1) := by decide +kernel
theorem dX10_travel_2 : decode cX10_travel 2 = .ok (.if_icmp .ne 7, 3) := by decide +kernel
theorem dX10_travel_5 : decode cX10_travel 5 = .ok (.iconst 0, 1) := by decide +kernel
theorem dX10_travel_6 : decode cX10_travel 6 = .ok (.goto 14, 3) := by decide +kernel
theorem dX10_travel_9 : decode cX10_travel 9 = .ok (.aload_n 0, 1) := by decide +kernel
theorem dX10_travel_10 : decode cX10_travel 10 = .ok (.getfield 15, 3) := by decide +kernel
theorem dX10_travel_13 : decode cX10_travel 13 = .ok (.iload_n 1, 1) := by decide +kernel
theorem dX10_travel_14 : decode cX10_travel 14 = .ok (.bipush 12, 2) := by decide +kernel
theorem dX10_travel_16 : decode cX10_travel 16 = .ok (.imul, 1) := by decide +kernel
theorem dX10_travel_17 : decode cX10_travel 17 = .ok (.iload_n 2, 1) := by decide +kernel
theorem dX10_travel_18 : decode cX10_travel 18 = .ok (.iadd, 1) := by decide +kernel
theorem dX10_travel_19 : decode cX10_travel 19 = .ok (.iaload, 1) := by decide +kernel
theorem dX10_travel_20 : decode cX10_travel 20 = .ok (.ireturn, 1) := by decide +kernel
theorem dX10_fact_0 : decode cX10_fact 0 = .ok (.aload_n 0, 1) := by decide +kernel
theorem dX10_fact_1 : decode cX10_fact 1 = .ok (.getfield 21, 3) := by decide +kernel
theorem dX10_fact_4 : decode cX10_fact 4 = .ok (.iload_n 1, 1) := by decide +kernel
theorem dX10_fact_5 : decode cX10_fact 5 = .ok (.bipush 6, 2) := by decide +kernel
theorem dX10_fact_7 : decode cX10_fact 7 = .ok (.imul, 1) := by decide +kernel
theorem dX10_fact_8 : decode cX10_fact 8 = .ok (.iload_n 2, 1) := by decide +kernel
theorem dX10_fact_9 : decode cX10_fact 9 = .ok (.iadd, 1) := by decide +kernel
theorem dX10_fact_10 : decode cX10_fact 10 = .ok (.iaload, 1) := by decide +kernel
theorem dX10_fact_11 : decode cX10_fact 11 = .ok (.ireturn, 1) := by decide +kernel
theorem dX10_setFact_0 : decode cX10_setFact 0 = .ok (.aload_n 0, 1) := by decide +kernel
theorem dX10_setFact_1 : decode cX10_setFact 1 = .ok (.getfield 21, 3) := by decide +kernel
theorem dX10_setFact_4 : decode cX10_setFact 4 = .ok (.iload_n 1, 1) := by decide +kernel
theorem dX10_setFact_5 : decode cX10_setFact 5 = .ok (.bipush 6, 2) := by decide +kernel
theorem dX10_setFact_7 : decode cX10_setFact 7 = .ok (.imul, 1) := by decide +kernel
theorem dX10_setFact_8 : decode cX10_setFact 8 = .ok (.iload_n 2, 1) := by decide +kernel
theorem dX10_setFact_9 : decode cX10_setFact 9 = .ok (.iadd, 1) := by decide +kernel
theorem dX10_setFact_10 : decode cX10_setFact 10 = .ok (.iload_n 3, 1) := by decide +kernel
theorem dX10_setFact_11 : decode cX10_setFact 11 = .ok (.iastore, 1) := by decide +kernel
theorem dX10_setFact_12 : decode cX10_setFact 12 = .ok (.return_, 1) := by decide +kernel
theorem dX10_addNest_0 : decode cX10_addNest 0 = .ok (.iload_n 2, 1) := by decide +kernel
theorem dX10_addNest_1 : decode cX10_addNest 1 = .ok (.istore 4, 2) := by decide +kernel
theorem dX10_addNest_3 : decode cX10_addNest 3 = .ok (.iload 4, 2) := by decide +kernel
theorem dX10_addNest_5 : decode cX10_addNest 5 = .ok (.iload_n 3, 1) := by decide +kernel
theorem dX10_addNest_6 : decode cX10_addNest 6 = .ok (.if_icmp .gt 22, 3) := by decide +kernel
theorem dX10_addNest_9 : decode cX10_addNest 9 = .ok (.aload_n 0, 1) := by decide +kernel
theorem dX10_addNest_10 : decode cX10_addNest 10 = .ok (.getfield 24, 3) := by decide +kernel
theorem dX10_addNest_13 : decode cX10_addNest 13 = .ok (.iload_n 1, 1) := by decide +kernel
theorem dX10_addNest_14 : decode cX10_addNest 14 = .ok (.dup2, 1) := by decide +kernel
theorem dX10_addNest_15 : decode cX10_addNest 15 = .ok (.iaload, 1) := by decide +kernel
theorem dX10_addNest_16 : decode cX10_addNest 16 = .ok (.iconst 1, 1) := by decide +kernel
theorem dX10_addNest_17 : decode cX10_addNest 17 = .ok (.iload 4, 2) := by decide +kernel
theorem dX10_addNest_19 : decode cX10_addNest 19 = .ok (.ishl, 1) := by decide +kernel
theorem dX10_addNest_20 : decode cX10_addNest 20 = .ok (.ior, 1) := by decide +kernel
theorem dX10_addNest_21 : decode cX10_addNest 21 = .ok (.iastore, 1) := by decide +kernel
theorem dX10_addNest_22 : decode cX10_addNest 22 = .ok (.iinc 4 1, 3) := by decide +kernel
theorem dX10_addNest_25 : decode cX10_addNest 25 = .ok (.goto (-22), 3) := by decide +kernel
theorem dX10_addNest_28 : decode cX10_addNest 28 = .ok (.aload_n 0, 1) := by decide +kernel
theorem dX10_addNest_29 : decode cX10_addNest 29 = .ok (.dup, 1) := by decide +kernel
theorem dX10_addNest_30 : decode cX10_addNest 30 = .ok (.getfield 37, 3) := by decide +kernel
theorem dX10_addNest_33 : decode cX10_addNest 33 = .ok (.iconst 1, 1) := by decide +kernel
theorem dX10_addNest_34 : decode cX10_addNest 34 = .ok (.iadd, 1) := by decide +kernel
theorem dX10_addNest_35 : decode cX10_addNest 35 = .ok (.putfield 37, 3) := by decide +kernel
theorem dX10_addNest_38 : decode cX10_addNest 38 = .ok (.return_, 1) := by decide +kernel
theorem dX10_hasNest_0 : decode cX10_hasNest 0 = .ok (.aload_n 0, 1) := by decide +kernel
theorem dX10_hasNest_1 : decode cX10_hasNest 1 = .ok (.getfield 24, 3) := by decide +kernel
theorem dX10_hasNest_4 : decode cX10_hasNest 4 = .ok (.iload_n 1, 1) := by decide +kernel
theorem dX10_hasNest_5 : decode cX10_hasNest 5 = .ok (.iaload, 1) := by decide +kernel
theorem dX10_hasNest_6 : decode cX10_hasNest 6 = .ok (.iload_n 2, 1) := by decide +kernel
theorem dX10_hasNest_7 : decode cX10_hasNest 7 = .ok (.ishr, 1) := by decide +kernel
theorem dX10_hasNest_8 : decode cX10_hasNest 8 = .ok (.iconst 1, 1) := by decide +kernel
theorem dX10_hasNest_9 : decode cX10_hasNest 9 = .ok (.iand, 1) := by decide +kernel
theorem dX10_hasNest_10 : decode cX10_hasNest 10 = .ok (.ifCond .eq 7, 3) := by decide +kernel
theorem dX10_hasNest_13 : decode cX10_hasNest 13 = .ok (.iconst 1, 1) := by decide +kernel
theorem dX10_hasNest_14 : decode cX10_hasNest 14 = .ok (.goto 4, 3) := by decide +kernel
theorem dX10_hasNest_17 : decode cX10_hasNest 17 = .ok (.iconst 0, 1) := by decide +kernel
theorem dX10_hasNest_18 : decode cX10_hasNest 18 = .ok (.ireturn, 1) := by decide +kernel
theorem dX10_firstDay_0 : decode cX10_firstDay 0 = .ok (.aload_n 0, 1) := by decide +kernel
theorem dX10_firstDay_1 : decode cX10_firstDay 1 = .ok (.iload_n 1, 1) := by decide +kernel
theorem dX10_firstDay_2 : decode cX10_firstDay 2 = .ok (.iconst 0, 1) := by decide +kernel
theorem dX10_firstDay_3 : decode cX10_firstDay 3 = .ok (.invokevirtual 49, 3) := by decide +kernel
theorem dX10_firstDay_6 : decode cX10_firstDay 6 = .ok (.istore_n 3, 1) := by decide +kernel
theorem dX10_firstDay_7 : decode cX10_firstDay 7 = .ok (.aload_n 0, 1) := by decide +kernel
theorem dX10_firstDay_8 : decode cX10_firstDay 8 = .ok (.iload_n 1, 1) := by decide +kernel
theorem dX10_firstDay_9 : decode cX10_firstDay 9 = .ok (.iconst 2, 1) := by decide +kernel
theorem dX10_firstDay_10 : decode cX10_firstDay 10 = .ok (.invokevirtual 49, 3) := by decide +kernel
theorem dX10_firstDay_13 : decode cX10_firstDay 13 = .ok (.istore 4, 2) := by decide +kernel
theorem dX10_firstDay_15 : decode cX10_firstDay 15 = .ok (.aload_n 0, 1) := by decide +kernel
theorem dX10_firstDay_16 : decode cX10_firstDay 16 = .ok (.iload_n 1, 1) := by decide +kernel
theorem dX10_firstDay_17 : decode cX10_firstDay 17 = .ok (.iconst 1, 1) := by decide +kernel
theorem dX10_firstDay_18 : decode cX10_firstDay 18 = .ok (.invokevirtual 49, 3) := by decide +kernel
theorem dX10_firstDay_21 : decode cX10_firstDay 21 = .ok (.istore 5, 2) := by decide +kernel
theorem dX10_firstDay_23 : decode cX10_firstDay 23 = .ok (.aload_n 0, 1) := by decide +kernel
theorem dX10_firstDay_24 : decode cX10_firstDay 24 = .ok (.iload_n 1, 1) := by decide +kernel
theorem dX10_firstDay_25 : decode cX10_firstDay 25 = .ok (.iconst 4, 1) := by decide +kernel
theorem dX10_firstDay_26 : decode cX10_firstDay 26 = .ok (.invokevirtual 49, 3) := by decide +kernel
theorem dX10_firstDay_29 : decode cX10_firstDay 29 = .ok (.istore 6, 2) := by decide +kernel
theorem dX10_firstDay_31 : decode cX10_firstDay 31 = .ok (.iconst 0, 1) := by decide +kernel
theorem dX10_firstDay_32 : decode cX10_firstDay 32 = .ok (.istore 7, 2) := by decide +kernel
theorem dX10_firstDay_34 : decode cX10_firstDay 34 = .ok (.iload_n 2, 1) := by decide +kernel
theorem dX10_firstDay_35 : decode cX10_firstDay 35 = .ok (.aload_n 0, 1) := by decide +kernel
theorem dX10_firstDay_36 : decode cX10_firstDay 36 = .ok (.iload_n 1, 1) := by decide +kernel
theorem dX10_firstDay_37 : decode cX10_firstDay 37 = .ok (.iconst 3, 1) := by decide +kernel
theorem dX10_firstDay_38 : decode cX10_firstDay 38 = .ok (.invokevirtual 49, 3) := by decide +kernel
theorem dX10_firstDay_41 : decode cX10_firstDay 41 = .ok (.invokestatic 53, 3) := by decide +kernel
theorem dX10_firstDay_44 : decode cX10_firstDay 44 = .ok (.istore 8, 2) := by decide +kernel
theorem dX10_firstDay_46 : decode cX10_firstDay 46 = .ok (.iload 8, 2) := by decide +kernel
theorem dX10_firstDay_48 : decode cX10_firstDay 48 = .ok (.iload 6, 2) := by decide +kernel
theorem dX10_firstDay_50 : decode cX10_firstDay 50 = .ok (.if_icmp .gt 56, 3) := by decide +kernel
theorem dX10_firstDay_53 : decode cX10_firstDay 53 = .ok (.aload_n 0, 1) := by decide +kernel
theorem dX10_firstDay_54 : decode cX10_firstDay 54 = .ok (.getfield 18, 3) := by decide +kernel
theorem dX10_firstDay_57 : decode cX10_firstDay 57 = .ok (.iload 8, 2) := by decide +kernel
theorem dX10_firstDay_59 : decode cX10_firstDay 59 = .ok (.iaload, 1) := by decide +kernel
theorem dX10_firstDay_60 : decode cX10_firstDay 60 = .ok (.iload 4, 2) := by decide +kernel
theorem dX10_firstDay_62 : decode cX10_firstDay 62 = .ok (.if_icmp .gt 20, 3) := by decide +kernel
theorem dX10_firstDay_65 : decode cX10_firstDay 65 = .ok (.aload_n 0, 1) := by decide +kernel
theorem dX10_firstDay_66 : decode cX10_firstDay 66 = .ok (.iload_n 3, 1) := by decide +kernel
theorem dX10_firstDay_67 : decode cX10_firstDay 67 = .ok (.iload 8, 2) := by decide +kernel
theorem dX10_firstDay_69 : decode cX10_firstDay 69 = .ok (.invokevirtual 58, 3) := by decide +kernel
theorem dX10_firstDay_72 : decode cX10_firstDay 72 = .ok (.ifCond .ne 10, 3) := by decide +kernel
theorem dX10_firstDay_75 : decode cX10_firstDay 75 = .ok (.iload 7, 2) := by decide +kernel
theorem dX10_firstDay_77 : decode cX10_firstDay 77 = .ok (.iconst 1, 1) := by decide +kernel
theorem dX10_firstDay_78 : decode cX10_firstDay 78 = .ok (.iadd, 1) := by decide +kernel
theorem dX10_firstDay_79 : decode cX10_firstDay 79 = .ok (.goto 4, 3) := by decide +kernel
theorem dX10_firstDay_82 : decode cX10_firstDay 82 = .ok (.iconst 0, 1) := by decide +kernel
theorem dX10_firstDay_83 : decode cX10_firstDay 83 = .ok (.istore 7, 2) := by decide +kernel
theorem dX10_firstDay_85 : decode cX10_firstDay 85 = .ok (.iload 7, 2) := by decide +kernel
theorem dX10_firstDay_87 : decode cX10_firstDay 87 = .ok (.iload 5, 2) := by decide +kernel
theorem dX10_firstDay_89 : decode cX10_firstDay 89 = .ok (.if_icmp .ne 11, 3) := by decide +kernel
theorem dX10_firstDay_92 : decode cX10_firstDay 92 = .ok (.iload 8, 2) := by decide +kernel
theorem dX10_firstDay_94 : decode cX10_firstDay 94 = .ok (.iload 5, 2) := by decide +kernel
theorem dX10_firstDay_96 : decode cX10_firstDay 96 = .ok (.isub, 1) := by decide +kernel
theorem dX10_firstDay_97 : decode cX10_firstDay 97 = .ok (.iconst 1, 1) := by decide +kernel
theorem dX10_firstDay_98 : decode cX10_firstDay 98 = .ok (.iadd, 1) := by decide +kernel
theorem dX10_firstDay_99 : decode cX10_firstDay 99 = .ok (.ireturn, 1) := by decide +kernel
theorem dX10_firstDay_100 : decode cX10_firstDay 100 = .ok (.iinc 8 1, 3) := by decide +kernel
theorem dX10_firstDay_103 : decode cX10_firstDay 103 = .ok (.goto (-57), 3) := by decide +kernel
theorem dX10_firstDay_106 : decode cX10_firstDay 106 = .ok (.iconst (-1), 1) := by decide +kernel
theorem dX10_firstDay_107 : decode cX10_firstDay 107 = .ok (.ireturn, 1) := by decide +kernel
theorem dJ6_bitCount_0f7a4_0 : decode cJ6_bitCount_0f7a4 0 = .ok (.iload_n 0, 1) := by decide +kernel
theorem dJ6_bitCount_0f7a4_1 : decode cJ6_bitCount_0f7a4 1 = .ok (.iload_n 0, 1) := by decide +kernel
theorem dJ6_bitCount_0f7a4_2 : decode cJ6_bitCount_0f7a4 2 = .ok (.iconst 1, 1) := by decide +kernel
theorem dJ6_bitCount_0f7a4_3 : decode cJ6_bitCount_0f7a4 3 = .ok (.iushr, 1) := by decide +kernel
theorem dJ6_bitCount_0f7a4_4 : decode cJ6_bitCount_0f7a4 4 = .ok (.ldc_w 265, 3) := by decide +kernel
theorem dJ6_bitCount_0f7a4_7 : decode cJ6_bitCount_0f7a4 7 = .ok (.iand, 1) := by decide +kernel
theorem dJ6_bitCount_0f7a4_8 : decode cJ6_bitCount_0f7a4 8 = .ok (.isub, 1) := by decide +kernel
theorem dJ6_bitCount_0f7a4_9 : decode cJ6_bitCount_0f7a4 9 = .ok (.istore_n 0, 1) := by decide +kernel
theorem dJ6_bitCount_0f7a4_10 : decode cJ6_bitCount_0f7a4 10 = .ok (.iload_n 0, 1) := by decide +kernel
theorem dJ6_bitCount_0f7a4_11 : decode cJ6_bitCount_0f7a4 11 = .ok (.ldc_w 266, 3) := by decide +kernel
theorem dJ6_bitCount_0f7a4_14 : decode cJ6_bitCount_0f7a4 14 = .ok (.iand, 1) := by decide +kernel
theorem dJ6_bitCount_0f7a4_15 : decode cJ6_bitCount_0f7a4 15 = .ok (.iload_n 0, 1) := by decide +kernel
theorem dJ6_bitCount_0f7a4_16 : decode cJ6_bitCount_0f7a4 16 = .ok (.iconst 2, 1) := by decide +kernel
theorem dJ6_bitCount_0f7a4_17 : decode cJ6_bitCount_0f7a4 17 = .ok (.iushr, 1) := by decide +kernel
theorem dJ6_bitCount_0f7a4_18 : decode cJ6_bitCount_0f7a4 18 = .ok (.ldc_w 266, 3) := by decide +kernel
theorem dJ6_bitCount_0f7a4_21 : decode cJ6_bitCount_0f7a4 21 = .ok (.iand, 1) := by decide +kernel
theorem dJ6_bitCount_0f7a4_22 : decode cJ6_bitCount_0f7a4 22 = .ok (.iadd, 1) := by decide +kernel
theorem dJ6_bitCount_0f7a4_23 : decode cJ6_bitCount_0f7a4 23 = .ok (.istore_n 0, 1) := by decide +kernel
theorem dJ6_bitCount_0f7a4_24 : decode cJ6_bitCount_0f7a4 24 = .ok (.iload_n 0, 1) := by decide +kernel
theorem dJ6_bitCount_0f7a4_25 : decode cJ6_bitCount_0f7a4 25 = .ok (.iload_n 0, 1) := by decide +kernel
theorem dJ6_bitCount_0f7a4_26 : decode cJ6_bitCount_0f7a4 26 = .ok (.iconst 4, 1) := by decide +kernel
theorem dJ6_bitCount_0f7a4_27 : decode cJ6_bitCount_0f7a4 27 = .ok (.iushr, 1) := by decide +kernel
theorem dJ6_bitCount_0f7a4_28 : decode cJ6_bitCount_0f7a4 28 = .ok (.iadd, 1) := by decide +kernel
theorem dJ6_bitCount_0f7a4_29 : decode cJ6_bitCount_0f7a4 29 = .ok (.ldc_w 267, 3) := by decide +kernel
theorem dJ6_bitCount_0f7a4_32 : decode cJ6_bitCount_0f7a4 32 = .ok (.iand, 1) := by decide +kernel
theorem dJ6_bitCount_0f7a4_33 : decode cJ6_bitCount_0f7a4 33 = .ok (.istore_n 0, 1) := by decide +kernel
theorem dJ6_bitCount_0f7a4_34 : decode cJ6_bitCount_0f7a4 34 = .ok (.iload_n 0, 1) := by decide +kernel
theorem dJ6_bitCount_0f7a4_35 : decode cJ6_bitCount_0f7a4 35 = .ok (.iload_n 0, 1) := by decide +kernel
theorem dJ6_bitCount_0f7a4_36 : decode cJ6_bitCount_0f7a4 36 = .ok (.bipush 8, 2) := by decide +kernel
theorem dJ6_bitCount_0f7a4_38 : decode cJ6_bitCount_0f7a4 38 = .ok (.iushr, 1) := by decide +kernel
theorem dJ6_bitCount_0f7a4_39 : decode cJ6_bitCount_0f7a4 39 = .ok (.iadd, 1) := by decide +kernel
theorem dJ6_bitCount_0f7a4_40 : decode cJ6_bitCount_0f7a4 40 = .ok (.istore_n 0, 1) := by decide +kernel
theorem dJ6_bitCount_0f7a4_41 : decode cJ6_bitCount_0f7a4 41 = .ok (.iload_n 0, 1) := by decide +kernel
theorem dJ6_bitCount_0f7a4_42 : decode cJ6_bitCount_0f7a4 42 = .ok (.iload_n 0, 1) := by decide +kernel
theorem dJ6_bitCount_0f7a4_43 : decode cJ6_bitCount_0f7a4 43 = .ok (.bipush 16, 2) := by decide +kernel
theorem dJ6_bitCount_0f7a4_45 : decode cJ6_bitCount_0f7a4 45 = .ok (.iushr, 1) := by decide +kernel
theorem dJ6_bitCount_0f7a4_46 : decode cJ6_bitCount_0f7a4 46 = .ok (.iadd, 1) := by decide +kernel
theorem dJ6_bitCount_0f7a4_47 : decode cJ6_bitCount_0f7a4 47 = .ok (.istore_n 0, 1) := by decide +kernel
theorem dJ6_bitCount_0f7a4_48 : decode cJ6_bitCount_0f7a4 48 = .ok (.iload_n 0, 1) := by decide +kernel
theorem dJ6_bitCount_0f7a4_49 : decode cJ6_bitCount_0f7a4 49 = .ok (.bipush 63, 2) := by decide +kernel
theorem dJ6_bitCount_0f7a4_51 : decode cJ6_bitCount_0f7a4 51 = .ok (.iand, 1) := by decide +kernel
theorem dJ6_bitCount_0f7a4_52 : decode cJ6_bitCount_0f7a4 52 = .ok (.ireturn, 1) := by decide +kernel
theorem dJ9_floorDiv_7cf53_0 : decode cJ9_floorDiv_7cf53 0 = .ok (.iload_n 0, 1) := by decide +kernel
theorem dJ9_floorDiv_7cf53_1 : decode cJ9_floorDiv_7cf53 1 = .ok (.iload_n 1, 1) := by decide +kernel
theorem dJ9_floorDiv_7cf53_2 : decode cJ9_floorDiv_7cf53 2 = .ok (.idiv, 1) := by decide +kernel
theorem dJ9_floorDiv_7cf53_3 : decode cJ9_floorDiv_7cf53 3 = .ok (.istore_n 2, 1) := by decide +kernel
theorem dJ9_floorDiv_7cf53_4 : decode cJ9_floorDiv_7cf53 4 = .ok (.iload_n 0, 1) := by decide +kernel
theorem dJ9_floorDiv_7cf53_5 : decode cJ9_floorDiv_7cf53 5 = .ok (.iload_n 1, 1) := by decide +kernel
theorem dJ9_floorDiv_7cf53_6 : decode cJ9_floorDiv_7cf53 6 = .ok (.ixor, 1) := by decide +kernel
theorem dJ9_floorDiv_7cf53_7 : decode cJ9_floorDiv_7cf53 7 = .ok (.ifCond .ge 14, 3) := by decide +kernel
theorem dJ9_floorDiv_7cf53_10 : decode cJ9_floorDiv_7cf53 10 = .ok (.iload_n 2, 1) := by decide +kernel
theorem dJ9_floorDiv_7cf53_11 : decode cJ9_floorDiv_7cf53 11 = .ok (.iload_n 1, 1) := by decide +kernel
theorem dJ9_floorDiv_7cf53_12 : decode cJ9_floorDiv_7cf53 12 = .ok (.imul, 1) := by decide +kernel
theorem dJ9_floorDiv_7cf53_13 : decode cJ9_floorDiv_7cf53 13 = .ok (.iload_n 0, 1) := by decide +kernel
theorem dJ9_floorDiv_7cf53_14 : decode cJ9_floorDiv_7cf53 14 = .ok (.if_icmp .eq 7, 3) := by decide +kernel
theorem dJ9_floorDiv_7cf53_17 : decode cJ9_floorDiv_7cf53 17 = .ok (.iload_n 2, 1) := by decide +kernel
theorem dJ9_floorDiv_7cf53_18 : decode cJ9_floorDiv_7cf53 18 = .ok (.iconst 1, 1) := by decide +kernel
theorem dJ9_floorDiv_7cf53_19 : decode cJ9_floorDiv_7cf53 19 = .ok (.isub, 1) := by decide +kernel
theorem dJ9_floorDiv_7cf53_20 : decode cJ9_floorDiv_7cf53 20 = .ok (.ireturn, 1) := by decide +kernel
theorem dJ9_floorDiv_7cf53_21 : decode cJ9_floorDiv_7cf53 21 = .ok (.iload_n 2, 1) := by decide +kernel
theorem dJ9_floorDiv_7cf53_22 : decode cJ9_floorDiv_7cf53 22 = .ok (.ireturn, 1) := by decide +kernel
theorem dJ9_abs_0f7a4_0 : decode cJ9_abs_0f7a4 0 = .ok (.iload_n 0, 1) := by decide +kernel
theorem dJ9_abs_0f7a4_1 : decode cJ9_abs_0f7a4 1 = .ok (.ifCond .ge 8, 3) := by decide +kernel
theorem dJ9_abs_0f7a4_4 : decode cJ9_abs_0f7a4 4 = .ok (.iload_n 0, 1) := by decide +kernel
theorem dJ9_abs_0f7a4_5 : decode cJ9_abs_0f7a4 5 = .ok (.ineg, 1) := by decide +kernel
theorem dJ9_abs_0f7a4_6 : decode cJ9_abs_0f7a4 6 = .ok (.goto 4, 3) := by decide +kernel
theorem dJ9_abs_0f7a4_9 : decode cJ9_abs_0f7a4 9 = .ok (.iload_n 0, 1) := by decide +kernel
theorem dJ9_abs_0f7a4_10 : decode cJ9_abs_0f7a4 10 = .ok (.ireturn, 1) := by decide +kernel
theorem dJ9_max_7cf53_0 : decode cJ9_max_7cf53 0 = .ok (.iload_n 0, 1) := by decide +kernel
theorem dJ9_max_7cf53_1 : decode cJ9_max_7cf53 1 = .ok (.iload_n 1, 1) := by decide +kernel
theorem dJ9_max_7cf53_2 : decode cJ9_max_7cf53 2 = .ok (.if_icmp .lt 7, 3) := by decide +kernel
theorem dJ9_max_7cf53_5 : decode cJ9_max_7cf53 5 = .ok (.iload_n 0, 1) := by decide +kernel
theorem dJ9_max_7cf53_6 : decode cJ9_max_7cf53 6 = .ok (.goto 4, 3) := by decide +kernel
theorem dJ9_max_7cf53_9 : decode cJ9_max_7cf53 9 = .ok (.iload_n 1, 1) := by decide +kernel
theorem dJ9_max_7cf53_10 : decode cJ9_max_7cf53 10 = .ok (.ireturn, 1) := by decide +kernel
theorem dJ9_min_7cf53_0 : decode cJ9_min_7cf53 0 = .ok (.iload_n 0, 1) := by decide +kernel
theorem dJ9_min_7cf53_1 : decode cJ9_min_7cf53 1 = .ok (.iload_n 1, 1) := by decide +kernel
theorem dJ9_min_7cf53_2 : decode cJ9_min_7cf53 2 = .ok (.if_icmp .gt 7, 3) := by decide +kernel
theorem dJ9_min_7cf53_5 : decode cJ9_min_7cf53 5 = .ok (.iload_n 0, 1) := by decide +kernel
theorem dJ9_min_7cf53_6 : decode cJ9_min_7cf53 6 = .ok (.goto 4, 3) := by decide +kernel
theorem dJ9_min_7cf53_9 : decode cJ9_min_7cf53 9 = .ok (.iload_n 1, 1) := by decide +kernel
theorem dJ9_min_7cf53_10 : decode cJ9_min_7cf53 10 = .ok (.ireturn, 1) := by decide +kernel
theorem dJ0_length_8abf5_0 : decode cJ0_length_8abf5 0 = .ok (.aload_n 0, 1) := by decide +kernel
theorem dJ0_length_8abf5_1 : decode cJ0_length_8abf5 1 = .ok (.getfield 9, 3) := by decide +kernel
theorem dJ0_length_8abf5_4 : decode cJ0_length_8abf5 4 = .ok (.arraylength, 1) := by decide +kernel
theorem dJ0_length_8abf5_5 : decode cJ0_length_8abf5 5 = .ok (.aload_n 0, 1) := by decide +kernel
theorem dJ0_length_8abf5_6 : decode cJ0_length_8abf5 6 = .ok (.invokevirtual 335, 3) := by decide +kernel
theorem dJ0_length_8abf5_9 : decode cJ0_length_8abf5 9 = .ok (.ishr, 1) := by decide +kernel
theorem dJ0_length_8abf5_10 : decode cJ0_length_8abf5 10 = .ok (.ireturn, 1) := by decide +kernel
theorem dJ0_charAt_5068e_0 : decode cJ0_charAt_5068e 0 = .ok (.aload_n 0, 1) := by decide +kernel
theorem dJ0_charAt_5068e_1 : decode cJ0_charAt_5068e 1 = .ok (.invokevirtual 492, 3) := by decide +kernel
theorem dJ0_charAt_5068e_4 : decode cJ0_charAt_5068e 4 = .ok (.ifCond .eq 12, 3) := by decide +kernel
theorem dJ0_charAt_5068e_7 : decode cJ0_charAt_5068e 7 = .ok (.aload_n 0, 1) := by decide +kernel
theorem dJ0_charAt_5068e_8 : decode cJ0_charAt_5068e 8 = .ok (.getfield 9, 3) := by decide +kernel
theorem dJ0_charAt_5068e_11 : decode cJ0_charAt_5068e 11 = .ok (.iload_n 1, 1) := by decide +kernel
theorem dJ0_charAt_5068e_12 : decode cJ0_charAt_5068e 12 = .ok (.invokestatic 495, 3) := by decide +kernel
theorem dJ0_charAt_5068e_15 : decode cJ0_charAt_5068e 15 = .ok (.ireturn, 1) := by decide +kernel
theorem dJ0_charAt_5068e_16 : decode cJ0_charAt_5068e 16 = .ok (.aload_n 0, 1) := by decide +kernel
theorem dJ0_charAt_5068e_17 : decode cJ0_charAt_5068e 17 = .ok (.getfield 9, 3) := by decide +kernel
theorem dJ0_charAt_5068e_20 : decode cJ0_charAt_5068e 20 = .ok (.iload_n 1, 1) := by decide +kernel
theorem dJ0_charAt_5068e_21 : decode cJ0_charAt_5068e 21 = .ok (.invokestatic 498, 3) := by decide +kernel
theorem dJ0_charAt_5068e_24 : decode cJ0_charAt_5068e 24 = .ok (.ireturn, 1) := by decide +kernel
theorem dJ0_coder_7d493_0 : decode cJ0_coder_7d493 0 = .ok (.getstatic 38, 3) := by decide +kernel
theorem dJ0_coder_7d493_3 : decode cJ0_coder_7d493 3 = .ok (.ifCond .eq 10, 3) := by decide +kernel
theorem dJ0_coder_7d493_6 : decode cJ0_coder_7d493 6 = .ok (.aload_n 0, 1) := by decide +kernel
theorem dJ0_coder_7d493_7 : decode cJ0_coder_7d493 7 = .ok (.getfield 15, 3) := by decide +kernel
theorem dJ0_coder_7d493_10 : decode cJ0_coder_7d493 10 = .ok (.goto 4, 3) := by decide +kernel
theorem dJ0_coder_7d493_13 : decode cJ0_coder_7d493 13 = .ok (.iconst 1, 1) := by decide +kernel
theorem dJ0_coder_7d493_14 : decode cJ0_coder_7d493 14 = .ok (.ireturn, 1) := by decide +kernel
theorem dJ0_isLatin1_aae02_0 : decode cJ0_isLatin1_aae02 0 = .ok (.getstatic 38, 3) := by decide +kernel
theorem dJ0_isLatin1_aae02_3 : decode cJ0_isLatin1_aae02 3 = .ok (.ifCond .eq 14, 3) := by decide +kernel
theorem dJ0_isLatin1_aae02_6 : decode cJ0_isLatin1_aae02 6 = .ok (.aload_n 0, 1) := by decide +kernel
theorem dJ0_isLatin1_aae02_7 : decode cJ0_isLatin1_aae02 7 = .ok (.getfield 15, 3) := by decide +kernel
theorem dJ0_isLatin1_aae02_10 : decode cJ0_isLatin1_aae02 10 = .ok (.ifCond .ne 7, 3) := by decide +kernel
theorem dJ0_isLatin1_aae02_13 : decode cJ0_isLatin1_aae02 13 = .ok (.iconst 1, 1) := by decide +kernel
theorem dJ0_isLatin1_aae02_14 : decode cJ0_isLatin1_aae02 14 = .ok (.goto 4, 3) := by decide +kernel
theorem dJ0_isLatin1_aae02_17 : decode cJ0_isLatin1_aae02 17 = .ok (.iconst 0, 1) := by decide +kernel
theorem dJ0_isLatin1_aae02_18 : decode cJ0_isLatin1_aae02 18 = .ok (.ireturn, 1) := by decide +kernel
theorem dJ0_checkIndex_df160_0 : decode cJ0_checkIndex_df160 0 = .ok (.iload_n 0, 1) := by decide +kernel
theorem dJ0_checkIndex_df160_1 : decode cJ0_checkIndex_df160 1 = .ok (.iload_n 1, 1) := by decide +kernel
theorem dJ0_checkIndex_df160_2 : decode cJ0_checkIndex_df160 2 = .ok (.getstatic 1053, 3) := by decide +kernel
theorem dJ0_checkIndex_df160_5 : decode cJ0_checkIndex_df160 5 = .ok (.invokestatic 1059, 3) := by decide +kernel
theorem dJ0_checkIndex_df160_8 : decode cJ0_checkIndex_df160 8 = .ok (.pop, 1) := by decide +kernel
theorem dJ0_checkIndex_df160_9 : decode cJ0_checkIndex_df160 9 = .ok (.return_, 1) := by decide +kernel
theorem dJ1_charAt_3b067_0 : decode cJ1_charAt_3b067 0 = .ok (.iload_n 1, 1) := by decide +kernel
theorem dJ1_charAt_3b067_1 : decode cJ1_charAt_3b067 1 = .ok (.aload_n 0, 1) := by decide +kernel
theorem dJ1_charAt_3b067_2 : decode cJ1_charAt_3b067 2 = .ok (.arraylength, 1) := by decide +kernel
theorem dJ1_charAt_3b067_3 : decode cJ1_charAt_3b067 3 = .ok (.invokestatic 9, 3) := by decide +kernel
theorem dJ1_charAt_3b067_6 : decode cJ1_charAt_3b067 6 = .ok (.aload_n 0, 1) := by decide +kernel
theorem dJ1_charAt_3b067_7 : decode cJ1_charAt_3b067 7 = .ok (.iload_n 1, 1) := by decide +kernel
theorem dJ1_charAt_3b067_8 : decode cJ1_charAt_3b067 8 = .ok (.baload, 1) := by decide +kernel
theorem dJ1_charAt_3b067_9 : decode cJ1_charAt_3b067 9 = .ok (.sipush 255, 3) := by decide +kernel
theorem dJ1_charAt_3b067_12 : decode cJ1_charAt_3b067 12 = .ok (.iand, 1) := by decide +kernel
theorem dJ1_charAt_3b067_13 : decode cJ1_charAt_3b067 13 = .ok (.i2c, 1) := by decide +kernel
theorem dJ1_charAt_3b067_14 : decode cJ1_charAt_3b067 14 = .ok (.ireturn, 1) := by decide +kernel
theorem dJ2_getChar_3b067_0 : decode cJ2_getChar_3b067 0 = .ok (.getstatic 44, 3) := by decide +kernel
theorem dJ2_getChar_3b067_3 : decode cJ2_getChar_3b067 3 = .ok (.ifCond .ne 25, 3) := by decide +kernel
theorem dJ2_getChar_3b067_6 : decode cJ2_getChar_3b067 6 = .ok (.iload_n 1, 1) := by decide +kernel
theorem dJ2_getChar_3b067_7 : decode cJ2_getChar_3b067 7 = .ok (.ifCond .lt 11, 3) := by decide +kernel
theorem dJ2_getChar_3b067_10 : decode cJ2_getChar_3b067 10 = .ok (.iload_n 1, 1) := by decide +kernel
theorem dJ2_getChar_3b067_11 : decode cJ2_getChar_3b067 11 = .ok (.aload_n 0, 1) := by decide +kernel
theorem dJ2_getChar_3b067_12 : decode cJ2_getChar_3b067 12 = .ok (.invokestatic 48, 3) := by decide +kernel
theorem dJ2_getChar_3b067_15 : decode cJ2_getChar_3b067 15 = .ok (.if_icmp .lt 13, 3) := by decide +kernel
theorem dJ2_getChar_3b067_18 : decode cJ2_getChar_3b067 18 = .ok (.new 52, 3) := by decide +kernel
theorem dJ2_getChar_3b067_21 : decode cJ2_getChar_3b067 21 = .ok (.dup, 1) := by decide +kernel
theorem dJ2_getChar_3b067_22 : decode cJ2_getChar_3b067 22 = .ok (.ldc 54, 2) := by decide +kernel
theorem dJ2_getChar_3b067_24 : decode cJ2_getChar_3b067 24 = .ok (.invokespecial 56, 3) := by decide +kernel
theorem dJ2_getChar_3b067_27 : decode cJ2_getChar_3b067 27 = .ok (.athrow, 1) := by decide +kernel
theorem dJ2_getChar_3b067_28 : decode cJ2_getChar_3b067 28 = .ok (.iload_n 1, 1) := by decide +kernel
theorem dJ2_getChar_3b067_29 : decode cJ2_getChar_3b067 29 = .ok (.iconst 1, 1) := by decide +kernel
theorem dJ2_getChar_3b067_30 : decode cJ2_getChar_3b067 30 = .ok (.ishl, 1) := by decide +kernel
theorem dJ2_getChar_3b067_31 : decode cJ2_getChar_3b067 31 = .ok (.istore_n 1, 1) := by decide +kernel
theorem dJ2_getChar_3b067_32 : decode cJ2_getChar_3b067 32 = .ok (.aload_n 0, 1) := by decide +kernel
theorem dJ2_getChar_3b067_33 : decode cJ2_getChar_3b067 33 = .ok (.iload_n 1, 1) := by decide +kernel
theorem dJ2_getChar_3b067_34 : decode cJ2_getChar_3b067 34 = .ok (.iinc 1 1, 3) := by decide +kernel
theorem dJ2_getChar_3b067_37 : decode cJ2_getChar_3b067 37 = .ok (.baload, 1) := by decide +kernel
theorem dJ2_getChar_3b067_38 : decode cJ2_getChar_3b067 38 = .ok (.sipush 255, 3) := by decide +kernel
theorem dJ2_getChar_3b067_41 : decode cJ2_getChar_3b067 41 = .ok (.iand, 1) := by decide +kernel
theorem dJ2_getChar_3b067_42 : decode cJ2_getChar_3b067 42 = .ok (.getstatic 59, 3) := by decide +kernel
theorem dJ2_getChar_3b067_45 : decode cJ2_getChar_3b067 45 = .ok (.ishl, 1) := by decide +kernel
theorem dJ2_getChar_3b067_46 : decode cJ2_getChar_3b067 46 = .ok (.aload_n 0, 1) := by decide +kernel
theorem dJ2_getChar_3b067_47 : decode cJ2_getChar_3b067 47 = .ok (.iload_n 1, 1) := by decide +kernel
theorem dJ2_getChar_3b067_48 : decode cJ2_getChar_3b067 48 = .ok (.baload, 1) := by decide +kernel
theorem dJ2_getChar_3b067_49 : decode cJ2_getChar_3b067 49 = .ok (.sipush 255, 3) := by decide +kernel
theorem dJ2_getChar_3b067_52 : decode cJ2_getChar_3b067 52 = .ok (.iand, 1) := by decide +kernel
theorem dJ2_getChar_3b067_53 : decode cJ2_getChar_3b067 53 = .ok (.getstatic 63, 3) := by decide +kernel
theorem dJ2_getChar_3b067_56 : decode cJ2_getChar_3b067 56 = .ok (.ishl, 1) := by decide +kernel
theorem dJ2_getChar_3b067_57 : decode cJ2_getChar_3b067 57 = .ok (.ior, 1) := by decide +kernel
theorem dJ2_getChar_3b067_58 : decode cJ2_getChar_3b067 58 = .ok (.i2c, 1) := by decide +kernel
theorem dJ2_getChar_3b067_59 : decode cJ2_getChar_3b067 59 = .ok (.ireturn, 1) := by decide +kernel
theorem dJ2_length_9d52b_0 : decode cJ2_length_9d52b 0 = .ok (.aload_n 0, 1) := by decide +kernel
theorem dJ2_length_9d52b_1 : decode cJ2_length_9d52b 1 = .ok (.arraylength, 1) := by decide +kernel
theorem dJ2_length_9d52b_2 : decode cJ2_length_9d52b 2 = .ok (.iconst 1, 1) := by decide +kernel
theorem dJ2_length_9d52b_3 : decode cJ2_length_9d52b 3 = .ok (.ishr, 1) := by decide +kernel
theorem dJ2_length_9d52b_4 : decode cJ2_length_9d52b 4 = .ok (.ireturn, 1) := by decide +kernel
theorem dJ2_charAt_3b067_0 : decode cJ2_charAt_3b067 0 = .ok (.iload_n 1, 1) := by decide +kernel
theorem dJ2_charAt_3b067_1 : decode cJ2_charAt_3b067 1 = .ok (.aload_n 0, 1) := by decide +kernel
theorem dJ2_charAt_3b067_2 : decode cJ2_charAt_3b067 2 = .ok (.invokestatic 67, 3) := by decide +kernel
theorem dJ2_charAt_3b067_5 : decode cJ2_charAt_3b067 5 = .ok (.aload_n 0, 1) := by decide +kernel
theorem dJ2_charAt_3b067_6 : decode cJ2_charAt_3b067 6 = .ok (.iload_n 1, 1) := by decide +kernel
theorem dJ2_charAt_3b067_7 : decode cJ2_charAt_3b067 7 = .ok (.invokestatic 71, 3) := by decide +kernel
theorem dJ2_charAt_3b067_10 : decode cJ2_charAt_3b067 10 = .ok (.ireturn, 1) := by decide +kernel
theorem dJ2_checkIndex_2214a_0 : decode cJ2_checkIndex_2214a 0 = .ok (.iload_n 0, 1) := by decide +kernel
theorem dJ2_checkIndex_2214a_1 : decode cJ2_checkIndex_2214a 1 = .ok (.aload_n 1, 1) := by decide +kernel
theorem dJ2_checkIndex_2214a_2 : decode cJ2_checkIndex_2214a 2 = .ok (.invokestatic 48, 3) := by decide +kernel
theorem dJ2_checkIndex_2214a_5 : decode cJ2_checkIndex_2214a 5 = .ok (.invokestatic 414, 3) := by decide +kernel
theorem dJ2_checkIndex_2214a_8 : decode cJ2_checkIndex_2214a 8 = .ok (.return_, 1) := by decide +kernel
theorem dJ7_fill_53178_0 : decode cJ7_fill_53178 0 = .ok (.iconst 0, 1) := by decide +kernel
theorem dJ7_fill_53178_1 : decode cJ7_fill_53178 1 = .ok (.istore_n 2, 1) := by decide +kernel
theorem dJ7_fill_53178_2 : decode cJ7_fill_53178 2 = .ok (.aload_n 0, 1) := by decide +kernel
theorem dJ7_fill_53178_3 : decode cJ7_fill_53178 3 = .ok (.arraylength, 1) := by decide +kernel
theorem dJ7_fill_53178_4 : decode cJ7_fill_53178 4 = .ok (.istore_n 3, 1) := by decide +kernel
theorem dJ7_fill_53178_5 : decode cJ7_fill_53178 5 = .ok (.iload_n 2, 1) := by decide +kernel
theorem dJ7_fill_53178_6 : decode cJ7_fill_53178 6 = .ok (.iload_n 3, 1) := by decide +kernel
theorem dJ7_fill_53178_7 : decode cJ7_fill_53178 7 = .ok (.if_icmp .ge 13, 3) := by decide +kernel
theorem dJ7_fill_53178_10 : decode cJ7_fill_53178 10 = .ok (.aload_n 0, 1) := by decide +kernel
theorem dJ7_fill_53178_11 : decode cJ7_fill_53178 11 = .ok (.iload_n 2, 1) := by decide +kernel
theorem dJ7_fill_53178_12 : decode cJ7_fill_53178 12 = .ok (.iload_n 1, 1) := by decide +kernel
theorem dJ7_fill_53178_13 : decode cJ7_fill_53178 13 = .ok (.iastore, 1) := by decide +kernel
theorem dJ7_fill_53178_14 : decode cJ7_fill_53178 14 = .ok (.iinc 2 1, 3) := by decide +kernel
theorem dJ7_fill_53178_17 : decode cJ7_fill_53178 17 = .ok (.goto (-12), 3) := by decide +kernel
theorem dJ7_fill_53178_20 : decode cJ7_fill_53178 20 = .ok (.return_, 1) := by decide +kernel
theorem dJ3_checkIndex_8e157_0 : decode cJ3_checkIndex_8e157 0 = .ok (.iload_n 0, 1) := by decide +kernel
theorem dJ3_checkIndex_8e157_1 : decode cJ3_checkIndex_8e157 1 = .ok (.ifCond .lt 8, 3) := by decide +kernel
theorem dJ3_checkIndex_8e157_4 : decode cJ3_checkIndex_8e157 4 = .ok (.iload_n 0, 1) := by decide +kernel
theorem dJ3_checkIndex_8e157_5 : decode cJ3_checkIndex_8e157 5 = .ok (.iload_n 1, 1) := by decide +kernel
theorem dJ3_checkIndex_8e157_6 : decode cJ3_checkIndex_8e157 6 = .ok (.if_icmp .lt 10, 3) := by decide +kernel
theorem dJ3_checkIndex_8e157_9 : decode cJ3_checkIndex_8e157 9 = .ok (.aload_n 2, 1) := by decide +kernel
theorem dJ3_checkIndex_8e157_10 : decode cJ3_checkIndex_8e157 10 = .ok (.iload_n 0, 1) := by decide +kernel
theorem dJ3_checkIndex_8e157_11 : decode cJ3_checkIndex_8e157 11 = .ok (.iload_n 1, 1) := by decide +kernel
theorem dJ3_checkIndex_8e157_12 : decode cJ3_checkIndex_8e157 12 = .ok (.invokestatic 95, 3) := by decide +kernel
theorem dJ3_checkIndex_8e157_15 : decode cJ3_checkIndex_8e157 15 = .ok (.athrow, 1) := by decide +kernel
theorem dJ3_checkIndex_8e157_16 : decode cJ3_checkIndex_8e157 16 = .ok (.iload_n 0, 1) := by decide +kernel
theorem dJ3_checkIndex_8e157_17 : decode cJ3_checkIndex_8e157 17 = .ok (.ireturn, 1) := by decide +kernel
