theorem dX0_init_0 : decode cX0_init 0 = .ok (.aload_n 0, 1) := by decide +kernel
theorem dX0_init_1 : decode cX0_init 1 = .ok (.invokespecial 3, 3) := by decide +kernel
theorem dX0_init_4 : decode cX0_init 4 = .ok (.aload_n 0, 1) := by decide +kernel
theorem dX0_init_5 : decode cX0_init 5 = .ok (.new 9, 3) := by decide +kernel
theorem dX0_init_8 : decode cX0_init 8 = .ok (.dup, 1) := by decide +kernel
theorem dX0_init_9 : decode cX0_init 9 = .ok (.sipush 384, 3) := by decide +kernel
theorem dX0_init_12 : decode cX0_init 12 = .ok (.invokespecial 13, 3) := by decide +kernel
theorem dX0_init_15 : decode cX0_init 15 = .ok (.putfield 16, 3) := by decide +kernel
theorem dX0_init_18 : decode cX0_init 18 = .ok (.return_, 1) := by decide +kernel
theorem dX0_append_0 : decode cX0_append 0 = .ok (.aload_n 0, 1) := by decide +kernel
theorem dX0_append_1 : decode cX0_append 1 = .ok (.getfield 20, 3) := by decide +kernel
theorem dX0_append_4 : decode cX0_append 4 = .ok (.bipush 96, 2) := by decide +kernel
theorem dX0_append_6 : decode cX0_append 6 = .ok (.if_icmp .lt 4, 3) := by decide +kernel
theorem dX0_append_9 : decode cX0_append 9 = .ok (.return_, 1) := by decide +kernel
theorem dX0_append_10 : decode cX0_append 10 = .ok (.aload_n 0, 1) := by decide +kernel
theorem dX0_append_11 : decode cX0_append 11 = .ok (.getfield 20, 3) := by decide +kernel
theorem dX0_append_14 : decode cX0_append 14 = .ok (.iconst 4, 1) := by decide +kernel
theorem dX0_append_15 : decode cX0_append 15 = .ok (.imul, 1) := by decide +kernel
theorem dX0_append_16 : decode cX0_append 16 = .ok (.istore 5, 2) := by decide +kernel
theorem dX0_append_18 : decode cX0_append 18 = .ok (.aload_n 0, 1) := by decide +kernel
theorem dX0_append_19 : decode cX0_append 19 = .ok (.getfield 16, 3) := by decide +kernel
theorem dX0_append_22 : decode cX0_append 22 = .ok (.iload 5, 2) := by decide +kernel
theorem dX0_append_24 : decode cX0_append 24 = .ok (.iconst 0, 1) := by decide +kernel
theorem dX0_append_25 : decode cX0_append 25 = .ok (.iadd, 1) := by decide +kernel
theorem dX0_append_26 : decode cX0_append 26 = .ok (.iload_n 2, 1) := by decide +kernel
theorem dX0_append_27 : decode cX0_append 27 = .ok (.invokevirtual 24, 3) := by decide +kernel
theorem dX0_append_30 : decode cX0_append 30 = .ok (.aload_n 0, 1) := by decide +kernel
theorem dX0_append_31 : decode cX0_append 31 = .ok (.getfield 16, 3) := by decide +kernel
theorem dX0_append_34 : decode cX0_append 34 = .ok (.iload 5, 2) := by decide +kernel
theorem dX0_append_36 : decode cX0_append 36 = .ok (.iconst 1, 1) := by decide +kernel
theorem dX0_append_37 : decode cX0_append 37 = .ok (.iadd, 1) := by decide +kernel
theorem dX0_append_38 : decode cX0_append 38 = .ok (.iload_n 3, 1) := by decide +kernel
theorem dX0_append_39 : decode cX0_append 39 = .ok (.invokevirtual 24, 3) := by decide +kernel
theorem dX0_append_42 : decode cX0_append 42 = .ok (.aload_n 0, 1) := by decide +kernel
theorem dX0_append_43 : decode cX0_append 43 = .ok (.getfield 16, 3) := by decide +kernel
theorem dX0_append_46 : decode cX0_append 46 = .ok (.iload 5, 2) := by decide +kernel
theorem dX0_append_48 : decode cX0_append 48 = .ok (.iconst 2, 1) := by decide +kernel
theorem dX0_append_49 : decode cX0_append 49 = .ok (.iadd, 1) := by decide +kernel
theorem dX0_append_50 : decode cX0_append 50 = .ok (.iload 4, 2) := by decide +kernel
theorem dX0_append_52 : decode cX0_append 52 = .ok (.invokevirtual 24, 3) := by decide +kernel
theorem dX0_append_55 : decode cX0_append 55 = .ok (.aload_n 0, 1) := by decide +kernel
theorem dX0_append_56 : decode cX0_append 56 = .ok (.getfield 16, 3) := by decide +kernel
theorem dX0_append_59 : decode cX0_append 59 = .ok (.iload 5, 2) := by decide +kernel
theorem dX0_append_61 : decode cX0_append 61 = .ok (.iconst 3, 1) := by decide +kernel
theorem dX0_append_62 : decode cX0_append 62 = .ok (.iadd, 1) := by decide +kernel
theorem dX0_append_63 : decode cX0_append 63 = .ok (.iload_n 1, 1) := by decide +kernel
theorem dX0_append_64 : decode cX0_append 64 = .ok (.invokevirtual 24, 3) := by decide +kernel
theorem dX0_append_67 : decode cX0_append 67 = .ok (.aload_n 0, 1) := by decide +kernel
theorem dX0_append_68 : decode cX0_append 68 = .ok (.dup, 1) := by decide +kernel
theorem dX0_append_69 : decode cX0_append 69 = .ok (.getfield 20, 3) := by decide +kernel
theorem dX0_append_72 : decode cX0_append 72 = .ok (.iconst 1, 1) := by decide +kernel
theorem dX0_append_73 : decode cX0_append 73 = .ok (.iadd, 1) := by decide +kernel
theorem dX0_append_74 : decode cX0_append 74 = .ok (.putfield 20, 3) := by decide +kernel
theorem dX0_append_77 : decode cX0_append 77 = .ok (.return_, 1) := by decide +kernel
theorem dX0_partOf_0 : decode cX0_partOf 0 = .ok (.aload_n 0, 1) := by decide +kernel
theorem dX0_partOf_1 : decode cX0_partOf 1 = .ok (.getfield 16, 3) := by decide +kernel
theorem dX0_partOf_4 : decode cX0_partOf 4 = .ok (.iload_n 1, 1) := by decide +kernel
theorem dX0_partOf_5 : decode cX0_partOf 5 = .ok (.iconst 4, 1) := by decide +kernel
theorem dX0_partOf_6 : decode cX0_partOf 6 = .ok (.imul, 1) := by decide +kernel
theorem dX0_partOf_7 : decode cX0_partOf 7 = .ok (.iload_n 2, 1) := by decide +kernel
theorem dX0_partOf_8 : decode cX0_partOf 8 = .ok (.iadd, 1) := by decide +kernel
theorem dX0_partOf_9 : decode cX0_partOf 9 = .ok (.invokevirtual 28, 3) := by decide +kernel
theorem dX0_partOf_12 : decode cX0_partOf 12 = .ok (.ireturn, 1) := by decide +kernel
theorem dX1_init_0 : decode cX1_init 0 = .ok (.aload_n 0, 1) := by decide +kernel
theorem dX1_init_1 : decode cX1_init 1 = .ok (.invokespecial 3, 3) := by decide +kernel
theorem dX1_init_4 : decode cX1_init 4 = .ok (.aload_n 0, 1) := by decide +kernel
theorem dX1_init_5 : decode cX1_init 5 = .ok (.iconst 4, 1) := by decide +kernel
theorem dX1_init_6 : decode cX1_init 6 = .ok (.anewarray 9, 3) := by decide +kernel
theorem dX1_init_9 : decode cX1_init 9 = .ok (.putfield 11, 3) := by decide +kernel
theorem dX1_init_12 : decode cX1_init 12 = .ok (.iconst 0, 1) := by decide +kernel
theorem dX1_init_13 : decode cX1_init 13 = .ok (.istore_n 1, 1) := by decide +kernel
theorem dX1_init_14 : decode cX1_init 14 = .ok (.iload_n 1, 1) := by decide +kernel
theorem dX1_init_15 : decode cX1_init 15 = .ok (.aload_n 0, 1) := by decide +kernel
theorem dX1_init_16 : decode cX1_init 16 = .ok (.getfield 11, 3) := by decide +kernel
theorem dX1_init_19 : decode cX1_init 19 = .ok (.arraylength, 1) := by decide +kernel
theorem dX1_init_20 : decode cX1_init 20 = .ok (.if_icmp .ge 22, 3) := by decide +kernel
theorem dX1_init_23 : decode cX1_init 23 = .ok (.aload_n 0, 1) := by decide +kernel
theorem dX1_init_24 : decode cX1_init 24 = .ok (.getfield 11, 3) := by decide +kernel
theorem dX1_init_27 : decode cX1_init 27 = .ok (.iload_n 1, 1) := by decide +kernel
theorem dX1_init_28 : decode cX1_init 28 = .ok (.new 9, 3) := by decide +kernel
theorem dX1_init_31 : decode cX1_init 31 = .ok (.dup, 1) := by decide +kernel
theorem dX1_init_32 : decode cX1_init 32 = .ok (.invokespecial 17, 3) := by decide +kernel
theorem dX1_init_35 : decode cX1_init 35 = .ok (.aastore, 1) := by decide +kernel
theorem dX1_init_36 : decode cX1_init 36 = .ok (.iinc 1 1, 3) := by decide +kernel
theorem dX1_init_39 : decode cX1_init 39 = .ok (.goto (-25), 3) := by decide +kernel
theorem dX1_init_42 : decode cX1_init 42 = .ok (.return_, 1) := by decide +kernel
theorem dX1_stateAt_0 : decode cX1_stateAt 0 = .ok (.iload_n 1, 1) := by decide +kernel
theorem dX1_stateAt_1 : decode cX1_stateAt 1 = .ok (.ifCond .lt 21, 3) := by decide +kernel
theorem dX1_stateAt_4 : decode cX1_stateAt 4 = .ok (.iload_n 1, 1) := by decide +kernel
theorem dX1_stateAt_5 : decode cX1_stateAt 5 = .ok (.aload_n 0, 1) := by decide +kernel
theorem dX1_stateAt_6 : decode cX1_stateAt 6 = .ok (.getfield 11, 3) := by decide +kernel
theorem dX1_stateAt_9 : decode cX1_stateAt 9 = .ok (.arraylength, 1) := by decide +kernel
theorem dX1_stateAt_10 : decode cX1_stateAt 10 = .ok (.if_icmp .ge 12, 3) := by decide +kernel
theorem dX1_stateAt_13 : decode cX1_stateAt 13 = .ok (.aload_n 0, 1) := by decide +kernel
theorem dX1_stateAt_14 : decode cX1_stateAt 14 = .ok (.getfield 11, 3) := by decide +kernel
theorem dX1_stateAt_17 : decode cX1_stateAt 17 = .ok (.iload_n 1, 1) := by decide +kernel
theorem dX1_stateAt_18 : decode cX1_stateAt 18 = .ok (.aaload, 1) := by decide +kernel
theorem dX1_stateAt_19 : decode cX1_stateAt 19 = .ok (.goto 4, 3) := by decide +kernel
theorem dX1_stateAt_22 : decode cX1_stateAt 22 = .ok (.aconst_null, 1) := by decide +kernel
theorem dX1_stateAt_23 : decode cX1_stateAt 23 = .ok (.areturn, 1) := by decide +kernel
theorem dX1_record_0 : decode cX1_record 0 = .ok (.aload_n 0, 1) := by decide +kernel
theorem dX1_record_1 : decode cX1_record 1 = .ok (.aload_n 0, 1) := by decide +kernel
theorem dX1_record_2 : decode cX1_record 2 = .ok (.getfield 18, 3) := by decide +kernel
theorem dX1_record_5 : decode cX1_record 5 = .ok (.invokevirtual 22, 3) := by decide +kernel
theorem dX1_record_8 : decode cX1_record 8 = .ok (.astore_n 2, 1) := by decide +kernel
theorem dX1_record_9 : decode cX1_record 9 = .ok (.aload_n 2, 1) := by decide +kernel
theorem dX1_record_10 : decode cX1_record 10 = .ok (.ifnonnull 4, 3) := by decide +kernel
theorem dX1_record_13 : decode cX1_record 13 = .ok (.return_, 1) := by decide +kernel
theorem dX1_record_14 : decode cX1_record 14 = .ok (.aload_n 2, 1) := by decide +kernel
theorem dX1_record_15 : decode cX1_record 15 = .ok (.aload_n 1, 1) := by decide +kernel
theorem dX1_record_16 : decode cX1_record 16 = .ok (.invokevirtual 26, 3) := by decide +kernel
theorem dX1_record_19 : decode cX1_record 19 = .ok (.aload_n 0, 1) := by decide +kernel
theorem dX1_record_20 : decode cX1_record 20 = .ok (.aload_n 0, 1) := by decide +kernel
theorem dX1_record_21 : decode cX1_record 21 = .ok (.getfield 18, 3) := by decide +kernel
theorem dX1_record_24 : decode cX1_record 24 = .ok (.iconst 1, 1) := by decide +kernel
theorem dX1_record_25 : decode cX1_record 25 = .ok (.iadd, 1) := by decide +kernel
theorem dX1_record_26 : decode cX1_record 26 = .ok (.iconst 4, 1) := by decide +kernel
theorem dX1_record_27 : decode cX1_record 27 = .ok (.irem, 1) := by decide +kernel
theorem dX1_record_28 : decode cX1_record 28 = .ok (.putfield 18, 3) := by decide +kernel
theorem dX1_record_31 : decode cX1_record 31 = .ok (.aload_n 0, 1) := by decide +kernel
theorem dX1_record_32 : decode cX1_record 32 = .ok (.aload_n 0, 1) := by decide +kernel
theorem dX1_record_33 : decode cX1_record 33 = .ok (.getfield 30, 3) := by decide +kernel
theorem dX1_record_36 : decode cX1_record 36 = .ok (.iconst 1, 1) := by decide +kernel
theorem dX1_record_37 : decode cX1_record 37 = .ok (.iadd, 1) := by decide +kernel
theorem dX1_record_38 : decode cX1_record 38 = .ok (.iconst 4, 1) := by decide +kernel
theorem dX1_record_39 : decode cX1_record 39 = .ok (.invokestatic 33, 3) := by decide +kernel
theorem dX1_record_42 : decode cX1_record 42 = .ok (.putfield 30, 3) := by decide +kernel
theorem dX1_record_45 : decode cX1_record 45 = .ok (.return_, 1) := by decide +kernel
theorem dX1_takeBack_0 : decode cX1_takeBack 0 = .ok (.aload_n 0, 1) := by decide +kernel
theorem dX1_takeBack_1 : decode cX1_takeBack 1 = .ok (.getfield 18, 3) := by decide +kernel
theorem dX1_takeBack_4 : decode cX1_takeBack 4 = .ok (.iconst 4, 1) := by decide +kernel
theorem dX1_takeBack_5 : decode cX1_takeBack 5 = .ok (.iadd, 1) := by decide +kernel
theorem dX1_takeBack_6 : decode cX1_takeBack 6 = .ok (.iconst 1, 1) := by decide +kernel
theorem dX1_takeBack_7 : decode cX1_takeBack 7 = .ok (.isub, 1) := by decide +kernel
theorem dX1_takeBack_8 : decode cX1_takeBack 8 = .ok (.iconst 4, 1) := by decide +kernel
theorem dX1_takeBack_9 : decode cX1_takeBack 9 = .ok (.irem, 1) := by decide +kernel
theorem dX1_takeBack_10 : decode cX1_takeBack 10 = .ok (.istore_n 2, 1) := by decide +kernel
theorem dX1_takeBack_11 : decode cX1_takeBack 11 = .ok (.aload_n 0, 1) := by decide +kernel
theorem dX1_takeBack_12 : decode cX1_takeBack 12 = .ok (.iload_n 2, 1) := by decide +kernel
theorem dX1_takeBack_13 : decode cX1_takeBack 13 = .ok (.invokevirtual 22, 3) := by decide +kernel
theorem dX1_takeBack_16 : decode cX1_takeBack 16 = .ok (.astore_n 3, 1) := by decide +kernel
theorem dX1_takeBack_17 : decode cX1_takeBack 17 = .ok (.aload_n 0, 1) := by decide +kernel
theorem dX1_takeBack_18 : decode cX1_takeBack 18 = .ok (.getfield 30, 3) := by decide +kernel
theorem dX1_takeBack_21 : decode cX1_takeBack 21 = .ok (.ifCond .eq 7, 3) := by decide +kernel
theorem dX1_takeBack_24 : decode cX1_takeBack 24 = .ok (.aload_n 3, 1) := by decide +kernel
theorem dX1_takeBack_25 : decode cX1_takeBack 25 = .ok (.ifnonnull 5, 3) := by decide +kernel
theorem dX1_takeBack_28 : decode cX1_takeBack 28 = .ok (.iconst 0, 1) := by decide +kernel
theorem dX1_takeBack_29 : decode cX1_takeBack 29 = .ok (.ireturn, 1) := by decide +kernel
theorem dX1_takeBack_30 : decode cX1_takeBack 30 = .ok (.aload_n 1, 1) := by decide +kernel
theorem dX1_takeBack_31 : decode cX1_takeBack 31 = .ok (.aload_n 3, 1) := by decide +kernel
theorem dX1_takeBack_32 : decode cX1_takeBack 32 = .ok (.invokevirtual 26, 3) := by decide +kernel
theorem dX1_takeBack_35 : decode cX1_takeBack 35 = .ok (.aload_n 0, 1) := by decide +kernel
theorem dX1_takeBack_36 : decode cX1_takeBack 36 = .ok (.iload_n 2, 1) := by decide +kernel
theorem dX1_takeBack_37 : decode cX1_takeBack 37 = .ok (.putfield 18, 3) := by decide +kernel
theorem dX1_takeBack_40 : decode cX1_takeBack 40 = .ok (.aload_n 0, 1) := by decide +kernel
theorem dX1_takeBack_41 : decode cX1_takeBack 41 = .ok (.dup, 1) := by decide +kernel
theorem dX1_takeBack_42 : decode cX1_takeBack 42 = .ok (.getfield 30, 3) := by decide +kernel
theorem dX1_takeBack_45 : decode cX1_takeBack 45 = .ok (.iconst 1, 1) := by decide +kernel
theorem dX1_takeBack_46 : decode cX1_takeBack 46 = .ok (.isub, 1) := by decide +kernel
theorem dX1_takeBack_47 : decode cX1_takeBack 47 = .ok (.putfield 30, 3) := by decide +kernel
theorem dX1_takeBack_50 : decode cX1_takeBack 50 = .ok (.iconst 1, 1) := by decide +kernel
theorem dX1_takeBack_51 : decode cX1_takeBack 51 = .ok (.ireturn, 1) := by decide +kernel
theorem dX2_init_0 : decode cX2_init 0 = .ok (.aload_n 0, 1) := by decide +kernel
theorem dX2_init_1 : decode cX2_init 1 = .ok (.invokespecial 3, 3) := by decide +kernel
theorem dX2_init_4 : decode cX2_init 4 = .ok (.aload_n 0, 1) := by decide +kernel
theorem dX2_init_5 : decode cX2_init 5 = .ok (.new 9, 3) := by decide +kernel
theorem dX2_init_8 : decode cX2_init 8 = .ok (.dup, 1) := by decide +kernel
theorem dX2_init_9 : decode cX2_init 9 = .ok (.sipush 1000, 3) := by decide +kernel
theorem dX2_init_12 : decode cX2_init 12 = .ok (.invokespecial 13, 3) := by decide +kernel
theorem dX2_init_15 : decode cX2_init 15 = .ok (.putfield 16, 3) := by decide +kernel
theorem dX2_init_18 : decode cX2_init 18 = .ok (.return_, 1) := by decide +kernel
theorem dX2_copyFrom_0 : decode cX2_copyFrom 0 = .ok (.aload_n 0, 1) := by decide +kernel
theorem dX2_copyFrom_1 : decode cX2_copyFrom 1 = .ok (.getfield 16, 3) := by decide +kernel
theorem dX2_copyFrom_4 : decode cX2_copyFrom 4 = .ok (.aload_n 1, 1) := by decide +kernel
theorem dX2_copyFrom_5 : decode cX2_copyFrom 5 = .ok (.getfield 16, 3) := by decide +kernel
theorem dX2_copyFrom_8 : decode cX2_copyFrom 8 = .ok (.invokevirtual 20, 3) := by decide +kernel
theorem dX2_copyFrom_11 : decode cX2_copyFrom 11 = .ok (.return_, 1) := by decide +kernel
theorem dX2_add_0 : decode cX2_add 0 = .ok (.aload_n 0, 1) := by decide +kernel
theorem dX2_add_1 : decode cX2_add 1 = .ok (.getfield 16, 3) := by decide +kernel
theorem dX2_add_4 : decode cX2_add 4 = .ok (.iload_n 2, 1) := by decide +kernel
theorem dX2_add_5 : decode cX2_add 5 = .ok (.bipush 10, 2) := by decide +kernel
theorem dX2_add_7 : decode cX2_add 7 = .ok (.irem, 1) := by decide +kernel
theorem dX2_add_8 : decode cX2_add 8 = .ok (.bipush 100, 2) := by decide +kernel
theorem dX2_add_10 : decode cX2_add 10 = .ok (.imul, 1) := by decide +kernel
theorem dX2_add_11 : decode cX2_add 11 = .ok (.iload_n 1, 1) := by decide +kernel
theorem dX2_add_12 : decode cX2_add 12 = .ok (.iadd, 1) := by decide +kernel
theorem dX2_add_13 : decode cX2_add 13 = .ok (.iconst 1, 1) := by decide +kernel
theorem dX2_add_14 : decode cX2_add 14 = .ok (.invokevirtual 24, 3) := by decide +kernel
theorem dX2_add_17 : decode cX2_add 17 = .ok (.return_, 1) := by decide +kernel
theorem dX2_latelyOf_0 : decode cX2_latelyOf 0 = .ok (.iconst 0, 1) := by decide +kernel
theorem dX2_latelyOf_1 : decode cX2_latelyOf 1 = .ok (.istore_n 2, 1) := by decide +kernel
theorem dX2_latelyOf_2 : decode cX2_latelyOf 2 = .ok (.iconst 0, 1) := by decide +kernel
theorem dX2_latelyOf_3 : decode cX2_latelyOf 3 = .ok (.istore_n 3, 1) := by decide +kernel
theorem dX2_latelyOf_4 : decode cX2_latelyOf 4 = .ok (.iload_n 3, 1) := by decide +kernel
theorem dX2_latelyOf_5 : decode cX2_latelyOf 5 = .ok (.bipush 10, 2) := by decide +kernel
theorem dX2_latelyOf_7 : decode cX2_latelyOf 7 = .ok (.if_icmp .ge 25, 3) := by decide +kernel
theorem dX2_latelyOf_10 : decode cX2_latelyOf 10 = .ok (.iload_n 2, 1) := by decide +kernel
theorem dX2_latelyOf_11 : decode cX2_latelyOf 11 = .ok (.aload_n 0, 1) := by decide +kernel
theorem dX2_latelyOf_12 : decode cX2_latelyOf 12 = .ok (.getfield 16, 3) := by decide +kernel
theorem dX2_latelyOf_15 : decode cX2_latelyOf 15 = .ok (.iload_n 3, 1) := by decide +kernel
theorem dX2_latelyOf_16 : decode cX2_latelyOf 16 = .ok (.bipush 100, 2) := by decide +kernel
theorem dX2_latelyOf_18 : decode cX2_latelyOf 18 = .ok (.imul, 1) := by decide +kernel
theorem dX2_latelyOf_19 : decode cX2_latelyOf 19 = .ok (.iload_n 1, 1) := by decide +kernel
theorem dX2_latelyOf_20 : decode cX2_latelyOf 20 = .ok (.iadd, 1) := by decide +kernel
theorem dX2_latelyOf_21 : decode cX2_latelyOf 21 = .ok (.invokevirtual 28, 3) := by decide +kernel
theorem dX2_latelyOf_24 : decode cX2_latelyOf 24 = .ok (.iadd, 1) := by decide +kernel
theorem dX2_latelyOf_25 : decode cX2_latelyOf 25 = .ok (.istore_n 2, 1) := by decide +kernel
theorem dX2_latelyOf_26 : decode cX2_latelyOf 26 = .ok (.iinc 3 1, 3) := by decide +kernel
theorem dX2_latelyOf_29 : decode cX2_latelyOf 29 = .ok (.goto (-25), 3) := by decide +kernel
theorem dX2_latelyOf_32 : decode cX2_latelyOf 32 = .ok (.iload_n 2, 1) := by decide +kernel
theorem dX2_latelyOf_33 : decode cX2_latelyOf 33 = .ok (.ireturn, 1) := by decide +kernel
theorem dX2_beginSecond_0 : decode cX2_beginSecond 0 = .ok (.aload_n 0, 1) := by decide +kernel
theorem dX2_beginSecond_1 : decode cX2_beginSecond 1 = .ok (.getfield 16, 3) := by decide +kernel
theorem dX2_beginSecond_4 : decode cX2_beginSecond 4 = .ok (.iload_n 1, 1) := by decide +kernel
theorem dX2_beginSecond_5 : decode cX2_beginSecond 5 = .ok (.bipush 10, 2) := by decide +kernel
theorem dX2_beginSecond_7 : decode cX2_beginSecond 7 = .ok (.irem, 1) := by decide +kernel
theorem dX2_beginSecond_8 : decode cX2_beginSecond 8 = .ok (.bipush 100, 2) := by decide +kernel
theorem dX2_beginSecond_10 : decode cX2_beginSecond 10 = .ok (.imul, 1) := by decide +kernel
theorem dX2_beginSecond_11 : decode cX2_beginSecond 11 = .ok (.bipush 100, 2) := by decide +kernel
theorem dX2_beginSecond_13 : decode cX2_beginSecond 13 = .ok (.iconst 0, 1) := by decide +kernel
theorem dX2_beginSecond_14 : decode cX2_beginSecond 14 = .ok (.invokevirtual 32, 3) := by decide +kernel
theorem dX2_beginSecond_17 : decode cX2_beginSecond 17 = .ok (.return_, 1) := by decide +kernel
theorem dX3_init_0 : decode cX3_init 0 = .ok (.aload_n 0, 1) := by decide +kernel
theorem dX3_init_1 : decode cX3_init 1 = .ok (.invokespecial 3, 3) := by decide +kernel
theorem dX3_init_4 : decode cX3_init 4 = .ok (.aload_n 0, 1) := by decide +kernel
theorem dX3_init_5 : decode cX3_init 5 = .ok (.new 9, 3) := by decide +kernel
theorem dX3_init_8 : decode cX3_init 8 = .ok (.dup, 1) := by decide +kernel
theorem dX3_init_9 : decode cX3_init 9 = .ok (.bipush 8, 2) := by decide +kernel
theorem dX3_init_11 : decode cX3_init 11 = .ok (.invokespecial 11, 3) := by decide +kernel
theorem dX3_init_14 : decode cX3_init 14 = .ok (.putfield 14, 3) := by decide +kernel
theorem dX3_init_17 : decode cX3_init 17 = .ok (.aload_n 0, 1) := by decide +kernel
theorem dX3_init_18 : decode cX3_init 18 = .ok (.new 9, 3) := by decide +kernel
theorem dX3_init_21 : decode cX3_init 21 = .ok (.dup, 1) := by decide +kernel
theorem dX3_init_22 : decode cX3_init 22 = .ok (.bipush 8, 2) := by decide +kernel
theorem dX3_init_24 : decode cX3_init 24 = .ok (.invokespecial 11, 3) := by decide +kernel
theorem dX3_init_27 : decode cX3_init 27 = .ok (.putfield 20, 3) := by decide +kernel
theorem dX3_init_30 : decode cX3_init 30 = .ok (.aload_n 0, 1) := by decide +kernel
theorem dX3_init_31 : decode cX3_init 31 = .ok (.new 9, 3) := by decide +kernel
theorem dX3_init_34 : decode cX3_init 34 = .ok (.dup, 1) := by decide +kernel
theorem dX3_init_35 : decode cX3_init 35 = .ok (.bipush 8, 2) := by decide +kernel
theorem dX3_init_37 : decode cX3_init 37 = .ok (.invokespecial 11, 3) := by decide +kernel
theorem dX3_init_40 : decode cX3_init 40 = .ok (.putfield 23, 3) := by decide +kernel
theorem dX3_init_43 : decode cX3_init 43 = .ok (.aload_n 0, 1) := by decide +kernel
theorem dX3_init_44 : decode cX3_init 44 = .ok (.new 9, 3) := by decide +kernel
theorem dX3_init_47 : decode cX3_init 47 = .ok (.dup, 1) := by decide +kernel
theorem dX3_init_48 : decode cX3_init 48 = .ok (.bipush 8, 2) := by decide +kernel
theorem dX3_init_50 : decode cX3_init 50 = .ok (.invokespecial 11, 3) := by decide +kernel
theorem dX3_init_53 : decode cX3_init 53 = .ok (.putfield 26, 3) := by decide +kernel
theorem dX3_init_56 : decode cX3_init 56 = .ok (.aload_n 0, 1) := by decide +kernel
theorem dX3_init_57 : decode cX3_init 57 = .ok (.new 9, 3) := by decide +kernel
theorem dX3_init_60 : decode cX3_init 60 = .ok (.dup, 1) := by decide +kernel
theorem dX3_init_61 : decode cX3_init 61 = .ok (.bipush 8, 2) := by decide +kernel
theorem dX3_init_63 : decode cX3_init 63 = .ok (.invokespecial 11, 3) := by decide +kernel
theorem dX3_init_66 : decode cX3_init 66 = .ok (.putfield 29, 3) := by decide +kernel
theorem dX3_init_69 : decode cX3_init 69 = .ok (.aload_n 0, 1) := by decide +kernel
theorem dX3_init_70 : decode cX3_init 70 = .ok (.new 9, 3) := by decide +kernel
theorem dX3_init_73 : decode cX3_init 73 = .ok (.dup, 1) := by decide +kernel
theorem dX3_init_74 : decode cX3_init 74 = .ok (.bipush 88, 2) := by decide +kernel
theorem dX3_init_76 : decode cX3_init 76 = .ok (.invokespecial 11, 3) := by decide +kernel
theorem dX3_init_79 : decode cX3_init 79 = .ok (.putfield 32, 3) := by decide +kernel
theorem dX3_init_82 : decode cX3_init 82 = .ok (.aload_n 0, 1) := by decide +kernel
theorem dX3_init_83 : decode cX3_init 83 = .ok (.getfield 14, 3) := by decide +kernel
theorem dX3_init_86 : decode cX3_init 86 = .ok (.iconst 0, 1) := by decide +kernel
theorem dX3_init_87 : decode cX3_init 87 = .ok (.bipush 8, 2) := by decide +kernel
theorem dX3_init_89 : decode cX3_init 89 = .ok (.iconst 1, 1) := by decide +kernel
theorem dX3_init_90 : decode cX3_init 90 = .ok (.invokevirtual 35, 3) := by decide +kernel
theorem dX3_init_93 : decode cX3_init 93 = .ok (.aload_n 0, 1) := by decide +kernel
theorem dX3_init_94 : decode cX3_init 94 = .ok (.getfield 26, 3) := by decide +kernel
theorem dX3_init_97 : decode cX3_init 97 = .ok (.iconst 0, 1) := by decide +kernel
theorem dX3_init_98 : decode cX3_init 98 = .ok (.bipush 8, 2) := by decide +kernel
theorem dX3_init_100 : decode cX3_init 100 = .ok (.bipush (-4), 2) := by decide +kernel
theorem dX3_init_102 : decode cX3_init 102 = .ok (.invokevirtual 35, 3) := by decide +kernel
theorem dX3_init_105 : decode cX3_init 105 = .ok (.return_, 1) := by decide +kernel
theorem dX3_copyFrom_0 : decode cX3_copyFrom 0 = .ok (.aload_n 0, 1) := by decide +kernel
theorem dX3_copyFrom_1 : decode cX3_copyFrom 1 = .ok (.getfield 14, 3) := by decide +kernel
theorem dX3_copyFrom_4 : decode cX3_copyFrom 4 = .ok (.aload_n 1, 1) := by decide +kernel
theorem dX3_copyFrom_5 : decode cX3_copyFrom 5 = .ok (.getfield 14, 3) := by decide +kernel
theorem dX3_copyFrom_8 : decode cX3_copyFrom 8 = .ok (.invokevirtual 39, 3) := by decide +kernel
theorem dX3_copyFrom_11 : decode cX3_copyFrom 11 = .ok (.aload_n 0, 1) := by decide +kernel
theorem dX3_copyFrom_12 : decode cX3_copyFrom 12 = .ok (.getfield 20, 3) := by decide +kernel
theorem dX3_copyFrom_15 : decode cX3_copyFrom 15 = .ok (.aload_n 1, 1) := by decide +kernel
theorem dX3_copyFrom_16 : decode cX3_copyFrom 16 = .ok (.getfield 20, 3) := by decide +kernel
theorem dX3_copyFrom_19 : decode cX3_copyFrom 19 = .ok (.invokevirtual 39, 3) := by decide +kernel
theorem dX3_copyFrom_22 : decode cX3_copyFrom 22 = .ok (.aload_n 0, 1) := by decide +kernel
theorem dX3_copyFrom_23 : decode cX3_copyFrom 23 = .ok (.getfield 23, 3) := by decide +kernel
theorem dX3_copyFrom_26 : decode cX3_copyFrom 26 = .ok (.aload_n 1, 1) := by decide +kernel
theorem dX3_copyFrom_27 : decode cX3_copyFrom 27 = .ok (.getfield 23, 3) := by decide +kernel
theorem dX3_copyFrom_30 : decode cX3_copyFrom 30 = .ok (.invokevirtual 39, 3) := by decide +kernel
theorem dX3_copyFrom_33 : decode cX3_copyFrom 33 = .ok (.aload_n 0, 1) := by decide +kernel
theorem dX3_copyFrom_34 : decode cX3_copyFrom 34 = .ok (.getfield 26, 3) := by decide +kernel
theorem dX3_copyFrom_37 : decode cX3_copyFrom 37 = .ok (.aload_n 1, 1) := by decide +kernel
theorem dX3_copyFrom_38 : decode cX3_copyFrom 38 = .ok (.getfield 26, 3) := by decide +kernel
theorem dX3_copyFrom_41 : decode cX3_copyFrom 41 = .ok (.invokevirtual 39, 3) := by decide +kernel
theorem dX3_copyFrom_44 : decode cX3_copyFrom 44 = .ok (.aload_n 0, 1) := by decide +kernel
theorem dX3_copyFrom_45 : decode cX3_copyFrom 45 = .ok (.getfield 29, 3) := by decide +kernel
theorem dX3_copyFrom_48 : decode cX3_copyFrom 48 = .ok (.aload_n 1, 1) := by decide +kernel
theorem dX3_copyFrom_49 : decode cX3_copyFrom 49 = .ok (.getfield 29, 3) := by decide +kernel
theorem dX3_copyFrom_52 : decode cX3_copyFrom 52 = .ok (.invokevirtual 39, 3) := by decide +kernel
theorem dX3_copyFrom_55 : decode cX3_copyFrom 55 = .ok (.aload_n 0, 1) := by decide +kernel
theorem dX3_copyFrom_56 : decode cX3_copyFrom 56 = .ok (.getfield 32, 3) := by decide +kernel
theorem dX3_copyFrom_59 : decode cX3_copyFrom 59 = .ok (.aload_n 1, 1) := by decide +kernel
theorem dX3_copyFrom_60 : decode cX3_copyFrom 60 = .ok (.getfield 32, 3) := by decide +kernel
theorem dX3_copyFrom_63 : decode cX3_copyFrom 63 = .ok (.invokevirtual 39, 3) := by decide +kernel
theorem dX3_copyFrom_66 : decode cX3_copyFrom 66 = .ok (.return_, 1) := by decide +kernel
theorem dX3_isUp_0 : decode cX3_isUp 0 = .ok (.aload_n 0, 1) := by decide +kernel
theorem dX3_isUp_1 : decode cX3_isUp 1 = .ok (.getfield 14, 3) := by decide +kernel
theorem dX3_isUp_4 : decode cX3_isUp 4 = .ok (.iload_n 1, 1) := by decide +kernel
theorem dX3_isUp_5 : decode cX3_isUp 5 = .ok (.invokevirtual 43, 3) := by decide +kernel
theorem dX3_isUp_8 : decode cX3_isUp 8 = .ok (.iconst 1, 1) := by decide +kernel
theorem dX3_isUp_9 : decode cX3_isUp 9 = .ok (.if_icmp .ne 7, 3) := by decide +kernel
theorem dX3_isUp_12 : decode cX3_isUp 12 = .ok (.iconst 1, 1) := by decide +kernel
theorem dX3_isUp_13 : decode cX3_isUp 13 = .ok (.goto 4, 3) := by decide +kernel
theorem dX3_isUp_16 : decode cX3_isUp 16 = .ok (.iconst 0, 1) := by decide +kernel
theorem dX3_isUp_17 : decode cX3_isUp 17 = .ok (.ireturn, 1) := by decide +kernel
theorem dX3_isOpen_0 : decode cX3_isOpen 0 = .ok (.aload_n 0, 1) := by decide +kernel
theorem dX3_isOpen_1 : decode cX3_isOpen 1 = .ok (.getfield 14, 3) := by decide +kernel
theorem dX3_isOpen_4 : decode cX3_isOpen 4 = .ok (.iload_n 1, 1) := by decide +kernel
theorem dX3_isOpen_5 : decode cX3_isOpen 5 = .ok (.invokevirtual 43, 3) := by decide +kernel
theorem dX3_isOpen_8 : decode cX3_isOpen 8 = .ok (.iconst 1, 1) := by decide +kernel
theorem dX3_isOpen_9 : decode cX3_isOpen 9 = .ok (.if_icmp .ne 18, 3) := by decide +kernel
theorem dX3_isOpen_12 : decode cX3_isOpen 12 = .ok (.aload_n 0, 1) := by decide +kernel
theorem dX3_isOpen_13 : decode cX3_isOpen 13 = .ok (.getfield 20, 3) := by decide +kernel
theorem dX3_isOpen_16 : decode cX3_isOpen 16 = .ok (.iload_n 1, 1) := by decide +kernel
theorem dX3_isOpen_17 : decode cX3_isOpen 17 = .ok (.invokevirtual 43, 3) := by decide +kernel
theorem dX3_isOpen_20 : decode cX3_isOpen 20 = .ok (.ifCond .ne 7, 3) := by decide +kernel
theorem dX3_isOpen_23 : decode cX3_isOpen 23 = .ok (.iconst 1, 1) := by decide +kernel
theorem dX3_isOpen_24 : decode cX3_isOpen 24 = .ok (.goto 4, 3) := by decide +kernel
theorem dX3_isOpen_27 : decode cX3_isOpen 27 = .ok (.iconst 0, 1) := by decide +kernel
theorem dX3_isOpen_28 : decode cX3_isOpen 28 = .ok (.ireturn, 1) := by decide +kernel
theorem dX3_turn_0 : decode cX3_turn 0 = .ok (.aload_n 0, 1) := by decide +kernel
theorem dX3_turn_1 : decode cX3_turn 1 = .ok (.getfield 14, 3) := by decide +kernel
theorem dX3_turn_4 : decode cX3_turn 4 = .ok (.iload_n 1, 1) := by decide +kernel
theorem dX3_turn_5 : decode cX3_turn 5 = .ok (.iload_n 2, 1) := by decide +kernel
theorem dX3_turn_6 : decode cX3_turn 6 = .ok (.ifCond .eq 7, 3) := by decide +kernel
theorem dX3_turn_9 : decode cX3_turn 9 = .ok (.iconst 1, 1) := by decide +kernel
theorem dX3_turn_10 : decode cX3_turn 10 = .ok (.goto 4, 3) := by decide +kernel
theorem dX3_turn_13 : decode cX3_turn 13 = .ok (.iconst 0, 1) := by decide +kernel
theorem dX3_turn_14 : decode cX3_turn 14 = .ok (.invokevirtual 47, 3) := by decide +kernel
theorem dX3_turn_17 : decode cX3_turn 17 = .ok (.return_, 1) := by decide +kernel
theorem dX3_openOnes_0 : decode cX3_openOnes 0 = .ok (.iconst 0, 1) := by decide +kernel
theorem dX3_openOnes_1 : decode cX3_openOnes 1 = .ok (.istore_n 1, 1) := by decide +kernel
theorem dX3_openOnes_2 : decode cX3_openOnes 2 = .ok (.iconst 0, 1) := by decide +kernel
theorem dX3_openOnes_3 : decode cX3_openOnes 3 = .ok (.istore_n 2, 1) := by decide +kernel
theorem dX3_openOnes_4 : decode cX3_openOnes 4 = .ok (.iload_n 2, 1) := by decide +kernel
theorem dX3_openOnes_5 : decode cX3_openOnes 5 = .ok (.bipush 8, 2) := by decide +kernel
theorem dX3_openOnes_7 : decode cX3_openOnes 7 = .ok (.if_icmp .ge 23, 3) := by decide +kernel
theorem dX3_openOnes_10 : decode cX3_openOnes 10 = .ok (.aload_n 0, 1) := by decide +kernel
theorem dX3_openOnes_11 : decode cX3_openOnes 11 = .ok (.iload_n 2, 1) := by decide +kernel
theorem dX3_openOnes_12 : decode cX3_openOnes 12 = .ok (.invokevirtual 51, 3) := by decide +kernel
theorem dX3_openOnes_15 : decode cX3_openOnes 15 = .ok (.ifCond .eq 9, 3) := by decide +kernel
theorem dX3_openOnes_18 : decode cX3_openOnes 18 = .ok (.iload_n 1, 1) := by decide +kernel
theorem dX3_openOnes_19 : decode cX3_openOnes 19 = .ok (.iconst 1, 1) := by decide +kernel
theorem dX3_openOnes_20 : decode cX3_openOnes 20 = .ok (.iload_n 2, 1) := by decide +kernel
theorem dX3_openOnes_21 : decode cX3_openOnes 21 = .ok (.ishl, 1) := by decide +kernel
theorem dX3_openOnes_22 : decode cX3_openOnes 22 = .ok (.ior, 1) := by decide +kernel
theorem dX3_openOnes_23 : decode cX3_openOnes 23 = .ok (.istore_n 1, 1) := by decide +kernel
theorem dX3_openOnes_24 : decode cX3_openOnes 24 = .ok (.iinc 2 1, 3) := by decide +kernel
theorem dX3_openOnes_27 : decode cX3_openOnes 27 = .ok (.goto (-23), 3) := by decide +kernel
theorem dX3_openOnes_30 : decode cX3_openOnes 30 = .ok (.iload_n 1, 1) := by decide +kernel
theorem dX3_openOnes_31 : decode cX3_openOnes 31 = .ok (.ireturn, 1) := by decide +kernel
theorem dX3_secondsLeft_0 : decode cX3_secondsLeft 0 = .ok (.aload_n 0, 1) := by decide +kernel
theorem dX3_secondsLeft_1 : decode cX3_secondsLeft 1 = .ok (.getfield 20, 3) := by decide +kernel
theorem dX3_secondsLeft_4 : decode cX3_secondsLeft 4 = .ok (.iload_n 1, 1) := by decide +kernel
theorem dX3_secondsLeft_5 : decode cX3_secondsLeft 5 = .ok (.invokevirtual 43, 3) := by decide +kernel
theorem dX3_secondsLeft_8 : decode cX3_secondsLeft 8 = .ok (.ireturn, 1) := by decide +kernel
theorem dX3_beginQuarantine_0 : decode cX3_beginQuarantine 0 = .ok (.aload_n 0, 1) := by decide +kernel
theorem dX3_beginQuarantine_1 : decode cX3_beginQuarantine 1 = .ok (.getfield 20, 3) := by decide +kernel
theorem dX3_beginQuarantine_4 : decode cX3_beginQuarantine 4 = .ok (.iload_n 1, 1) := by decide +kernel
theorem dX3_beginQuarantine_5 : decode cX3_beginQuarantine 5 = .ok (.iload_n 2, 1) := by decide +kernel
theorem dX3_beginQuarantine_6 : decode cX3_beginQuarantine 6 = .ok (.invokevirtual 47, 3) := by decide +kernel
theorem dX3_beginQuarantine_9 : decode cX3_beginQuarantine 9 = .ok (.aload_n 0, 1) := by decide +kernel
theorem dX3_beginQuarantine_10 : decode cX3_beginQuarantine 10 = .ok (.getfield 23, 3) := by decide +kernel
theorem dX3_beginQuarantine_13 : decode cX3_beginQuarantine 13 = .ok (.iload_n 1, 1) := by decide +kernel
theorem dX3_beginQuarantine_14 : decode cX3_beginQuarantine 14 = .ok (.iload_n 3, 1) := by decide +kernel
theorem dX3_beginQuarantine_15 : decode cX3_beginQuarantine 15 = .ok (.invokevirtual 47, 3) := by decide +kernel
theorem dX3_beginQuarantine_18 : decode cX3_beginQuarantine 18 = .ok (.return_, 1) := by decide +kernel
theorem dX3_endQuarantine_0 : decode cX3_endQuarantine 0 = .ok (.aload_n 0, 1) := by decide +kernel
theorem dX3_endQuarantine_1 : decode cX3_endQuarantine 1 = .ok (.getfield 20, 3) := by decide +kernel
theorem dX3_endQuarantine_4 : decode cX3_endQuarantine 4 = .ok (.iload_n 1, 1) := by decide +kernel
theorem dX3_endQuarantine_5 : decode cX3_endQuarantine 5 = .ok (.iconst 0, 1) := by decide +kernel
theorem dX3_endQuarantine_6 : decode cX3_endQuarantine 6 = .ok (.invokevirtual 47, 3) := by decide +kernel
theorem dX3_endQuarantine_9 : decode cX3_endQuarantine 9 = .ok (.return_, 1) := by decide +kernel
theorem dX3_quarantined_0 : decode cX3_quarantined 0 = .ok (.iconst 0, 1) := by decide +kernel
theorem dX3_quarantined_1 : decode cX3_quarantined 1 = .ok (.istore_n 1, 1) := by decide +kernel
theorem dX3_quarantined_2 : decode cX3_quarantined 2 = .ok (.iconst 0, 1) := by decide +kernel
theorem dX3_quarantined_3 : decode cX3_quarantined 3 = .ok (.istore_n 2, 1) := by decide +kernel
theorem dX3_quarantined_4 : decode cX3_quarantined 4 = .ok (.iload_n 2, 1) := by decide +kernel
theorem dX3_quarantined_5 : decode cX3_quarantined 5 = .ok (.bipush 8, 2) := by decide +kernel
theorem dX3_quarantined_7 : decode cX3_quarantined 7 = .ok (.if_icmp .ge 23, 3) := by decide +kernel
theorem dX3_quarantined_10 : decode cX3_quarantined 10 = .ok (.aload_n 0, 1) := by decide +kernel
theorem dX3_quarantined_11 : decode cX3_quarantined 11 = .ok (.getfield 20, 3) := by decide +kernel
theorem dX3_quarantined_14 : decode cX3_quarantined 14 = .ok (.iload_n 2, 1) := by decide +kernel
theorem dX3_quarantined_15 : decode cX3_quarantined 15 = .ok (.invokevirtual 43, 3) := by decide +kernel
theorem dX3_quarantined_18 : decode cX3_quarantined 18 = .ok (.ifCond .le 6, 3) := by decide +kernel
theorem dX3_quarantined_21 : decode cX3_quarantined 21 = .ok (.iinc 1 1, 3) := by decide +kernel
theorem dX3_quarantined_24 : decode cX3_quarantined 24 = .ok (.iinc 2 1, 3) := by decide +kernel
theorem dX3_quarantined_27 : decode cX3_quarantined 27 = .ok (.goto (-23), 3) := by decide +kernel
theorem dX3_quarantined_30 : decode cX3_quarantined 30 = .ok (.iload_n 1, 1) := by decide +kernel
theorem dX3_quarantined_31 : decode cX3_quarantined 31 = .ok (.ireturn, 1) := by decide +kernel
theorem dX3_farEnd_0 : decode cX3_farEnd 0 = .ok (.aload_n 0, 1) := by decide +kernel
theorem dX3_farEnd_1 : decode cX3_farEnd 1 = .ok (.getfield 26, 3) := by decide +kernel
theorem dX3_farEnd_4 : decode cX3_farEnd 4 = .ok (.iload_n 1, 1) := by decide +kernel
theorem dX3_farEnd_5 : decode cX3_farEnd 5 = .ok (.invokevirtual 43, 3) := by decide +kernel
theorem dX3_farEnd_8 : decode cX3_farEnd 8 = .ok (.ireturn, 1) := by decide +kernel
theorem dX3_tie_0 : decode cX3_tie 0 = .ok (.aload_n 0, 1) := by decide +kernel
theorem dX3_tie_1 : decode cX3_tie 1 = .ok (.getfield 26, 3) := by decide +kernel
theorem dX3_tie_4 : decode cX3_tie 4 = .ok (.iload_n 1, 1) := by decide +kernel
theorem dX3_tie_5 : decode cX3_tie 5 = .ok (.iload_n 2, 1) := by decide +kernel
theorem dX3_tie_6 : decode cX3_tie 6 = .ok (.invokevirtual 47, 3) := by decide +kernel
theorem dX3_tie_9 : decode cX3_tie 9 = .ok (.aload_n 0, 1) := by decide +kernel
theorem dX3_tie_10 : decode cX3_tie 10 = .ok (.getfield 26, 3) := by decide +kernel
theorem dX3_tie_13 : decode cX3_tie 13 = .ok (.iload_n 2, 1) := by decide +kernel
theorem dX3_tie_14 : decode cX3_tie 14 = .ok (.iload_n 1, 1) := by decide +kernel
theorem dX3_tie_15 : decode cX3_tie 15 = .ok (.invokevirtual 47, 3) := by decide +kernel
theorem dX3_tie_18 : decode cX3_tie 18 = .ok (.return_, 1) := by decide +kernel
theorem dX3_untie_0 : decode cX3_untie 0 = .ok (.aload_n 0, 1) := by decide +kernel
theorem dX3_untie_1 : decode cX3_untie 1 = .ok (.getfield 26, 3) := by decide +kernel
theorem dX3_untie_4 : decode cX3_untie 4 = .ok (.iload_n 1, 1) := by decide +kernel
theorem dX3_untie_5 : decode cX3_untie 5 = .ok (.bipush (-4), 2) := by decide +kernel
theorem dX3_untie_7 : decode cX3_untie 7 = .ok (.invokevirtual 47, 3) := by decide +kernel
theorem dX3_untie_10 : decode cX3_untie 10 = .ok (.aload_n 0, 1) := by decide +kernel
theorem dX3_untie_11 : decode cX3_untie 11 = .ok (.getfield 26, 3) := by decide +kernel
theorem dX3_untie_14 : decode cX3_untie 14 = .ok (.iload_n 2, 1) := by decide +kernel
theorem dX3_untie_15 : decode cX3_untie 15 = .ok (.bipush (-4), 2) := by decide +kernel
theorem dX3_untie_17 : decode cX3_untie 17 = .ok (.invokevirtual 47, 3) := by decide +kernel
theorem dX3_untie_20 : decode cX3_untie 20 = .ok (.return_, 1) := by decide +kernel
theorem dX3_cables_0 : decode cX3_cables 0 = .ok (.iconst 0, 1) := by decide +kernel
theorem dX3_cables_1 : decode cX3_cables 1 = .ok (.istore_n 1, 1) := by decide +kernel
theorem dX3_cables_2 : decode cX3_cables 2 = .ok (.iconst 0, 1) := by decide +kernel
theorem dX3_cables_3 : decode cX3_cables 3 = .ok (.istore_n 2, 1) := by decide +kernel
theorem dX3_cables_4 : decode cX3_cables 4 = .ok (.iload_n 2, 1) := by decide +kernel
theorem dX3_cables_5 : decode cX3_cables 5 = .ok (.bipush 8, 2) := by decide +kernel
theorem dX3_cables_7 : decode cX3_cables 7 = .ok (.if_icmp .ge 25, 3) := by decide +kernel
theorem dX3_cables_10 : decode cX3_cables 10 = .ok (.aload_n 0, 1) := by decide +kernel
theorem dX3_cables_11 : decode cX3_cables 11 = .ok (.getfield 26, 3) := by decide +kernel
theorem dX3_cables_14 : decode cX3_cables 14 = .ok (.iload_n 2, 1) := by decide +kernel
theorem dX3_cables_15 : decode cX3_cables 15 = .ok (.invokevirtual 43, 3) := by decide +kernel
theorem dX3_cables_18 : decode cX3_cables 18 = .ok (.bipush (-4), 2) := by decide +kernel
theorem dX3_cables_20 : decode cX3_cables 20 = .ok (.if_icmp .eq 6, 3) := by decide +kernel
theorem dX3_cables_23 : decode cX3_cables 23 = .ok (.iinc 1 1, 3) := by decide +kernel
theorem dX3_cables_26 : decode cX3_cables 26 = .ok (.iinc 2 1, 3) := by decide +kernel
theorem dX3_cables_29 : decode cX3_cables 29 = .ok (.goto (-25), 3) := by decide +kernel
theorem dX3_cables_32 : decode cX3_cables 32 = .ok (.iload_n 1, 1) := by decide +kernel
theorem dX3_cables_33 : decode cX3_cables 33 = .ok (.iconst 2, 1) := by decide +kernel
theorem dX3_cables_34 : decode cX3_cables 34 = .ok (.idiv, 1) := by decide +kernel
theorem dX3_cables_35 : decode cX3_cables 35 = .ok (.ireturn, 1) := by decide +kernel
theorem dX3_credit_0 : decode cX3_credit 0 = .ok (.aload_n 0, 1) := by decide +kernel
theorem dX3_credit_1 : decode cX3_credit 1 = .ok (.getfield 32, 3) := by decide +kernel
theorem dX3_credit_4 : decode cX3_credit 4 = .ok (.iload_n 1, 1) := by decide +kernel
theorem dX3_credit_5 : decode cX3_credit 5 = .ok (.bipush 11, 2) := by decide +kernel
theorem dX3_credit_7 : decode cX3_credit 7 = .ok (.imul, 1) := by decide +kernel
theorem dX3_credit_8 : decode cX3_credit 8 = .ok (.iload_n 2, 1) := by decide +kernel
theorem dX3_credit_9 : decode cX3_credit 9 = .ok (.iadd, 1) := by decide +kernel
theorem dX3_credit_10 : decode cX3_credit 10 = .ok (.iload_n 3, 1) := by decide +kernel
theorem dX3_credit_11 : decode cX3_credit 11 = .ok (.invokevirtual 55, 3) := by decide +kernel
theorem dX3_credit_14 : decode cX3_credit 14 = .ok (.return_, 1) := by decide +kernel
theorem dX3_credited_0 : decode cX3_credited 0 = .ok (.aload_n 0, 1) := by decide +kernel
theorem dX3_credited_1 : decode cX3_credited 1 = .ok (.getfield 32, 3) := by decide +kernel
theorem dX3_credited_4 : decode cX3_credited 4 = .ok (.iload_n 1, 1) := by decide +kernel
theorem dX3_credited_5 : decode cX3_credited 5 = .ok (.bipush 11, 2) := by decide +kernel
theorem dX3_credited_7 : decode cX3_credited 7 = .ok (.imul, 1) := by decide +kernel
theorem dX3_credited_8 : decode cX3_credited 8 = .ok (.iload_n 2, 1) := by decide +kernel
theorem dX3_credited_9 : decode cX3_credited 9 = .ok (.iadd, 1) := by decide +kernel
theorem dX3_credited_10 : decode cX3_credited 10 = .ok (.invokevirtual 43, 3) := by decide +kernel
theorem dX3_credited_13 : decode cX3_credited 13 = .ok (.ireturn, 1) := by decide +kernel
theorem dX3_allCameIn_0 : decode cX3_allCameIn 0 = .ok (.iconst 0, 1) := by decide +kernel
theorem dX3_allCameIn_1 : decode cX3_allCameIn 1 = .ok (.istore_n 1, 1) := by decide +kernel
theorem dX3_allCameIn_2 : decode cX3_allCameIn 2 = .ok (.iconst 0, 1) := by decide +kernel
theorem dX3_allCameIn_3 : decode cX3_allCameIn 3 = .ok (.istore_n 2, 1) := by decide +kernel
theorem dX3_allCameIn_4 : decode cX3_allCameIn 4 = .ok (.iload_n 2, 1) := by decide +kernel
theorem dX3_allCameIn_5 : decode cX3_allCameIn 5 = .ok (.bipush 8, 2) := by decide +kernel
theorem dX3_allCameIn_7 : decode cX3_allCameIn 7 = .ok (.if_icmp .ge 18, 3) := by decide +kernel
theorem dX3_allCameIn_10 : decode cX3_allCameIn 10 = .ok (.iload_n 1, 1) := by decide +kernel
theorem dX3_allCameIn_11 : decode cX3_allCameIn 11 = .ok (.aload_n 0, 1) := by decide +kernel
theorem dX3_allCameIn_12 : decode cX3_allCameIn 12 = .ok (.iload_n 2, 1) := by decide +kernel
theorem dX3_allCameIn_13 : decode cX3_allCameIn 13 = .ok (.iconst 0, 1) := by decide +kernel
theorem dX3_allCameIn_14 : decode cX3_allCameIn 14 = .ok (.invokevirtual 58, 3) := by decide +kernel
theorem dX3_allCameIn_17 : decode cX3_allCameIn 17 = .ok (.iadd, 1) := by decide +kernel
theorem dX3_allCameIn_18 : decode cX3_allCameIn 18 = .ok (.istore_n 1, 1) := by decide +kernel
theorem dX3_allCameIn_19 : decode cX3_allCameIn 19 = .ok (.iinc 2 1, 3) := by decide +kernel
theorem dX3_allCameIn_22 : decode cX3_allCameIn 22 = .ok (.goto (-18), 3) := by decide +kernel
theorem dX3_allCameIn_25 : decode cX3_allCameIn 25 = .ok (.iload_n 1, 1) := by decide +kernel
theorem dX3_allCameIn_26 : decode cX3_allCameIn 26 = .ok (.ireturn, 1) := by decide +kernel
theorem dX3_endSecond_0 : decode cX3_endSecond 0 = .ok (.iconst 0, 1) := by decide +kernel
theorem dX3_endSecond_1 : decode cX3_endSecond 1 = .ok (.istore_n 1, 1) := by decide +kernel
theorem dX3_endSecond_2 : decode cX3_endSecond 2 = .ok (.iload_n 1, 1) := by decide +kernel
theorem dX3_endSecond_3 : decode cX3_endSecond 3 = .ok (.bipush 8, 2) := by decide +kernel
theorem dX3_endSecond_5 : decode cX3_endSecond 5 = .ok (.if_icmp .ge 29, 3) := by decide +kernel
theorem dX3_endSecond_8 : decode cX3_endSecond 8 = .ok (.aload_n 0, 1) := by decide +kernel
theorem dX3_endSecond_9 : decode cX3_endSecond 9 = .ok (.getfield 20, 3) := by decide +kernel
theorem dX3_endSecond_12 : decode cX3_endSecond 12 = .ok (.iload_n 1, 1) := by decide +kernel
theorem dX3_endSecond_13 : decode cX3_endSecond 13 = .ok (.invokevirtual 43, 3) := by decide +kernel
theorem dX3_endSecond_16 : decode cX3_endSecond 16 = .ok (.ifCond .le 12, 3) := by decide +kernel
theorem dX3_endSecond_19 : decode cX3_endSecond 19 = .ok (.aload_n 0, 1) := by decide +kernel
theorem dX3_endSecond_20 : decode cX3_endSecond 20 = .ok (.getfield 20, 3) := by decide +kernel
theorem dX3_endSecond_23 : decode cX3_endSecond 23 = .ok (.iload_n 1, 1) := by decide +kernel
theorem dX3_endSecond_24 : decode cX3_endSecond 24 = .ok (.iconst (-1), 1) := by decide +kernel
theorem dX3_endSecond_25 : decode cX3_endSecond 25 = .ok (.invokevirtual 55, 3) := by decide +kernel
theorem dX3_endSecond_28 : decode cX3_endSecond 28 = .ok (.iinc 1 1, 3) := by decide +kernel
theorem dX3_endSecond_31 : decode cX3_endSecond 31 = .ok (.goto (-29), 3) := by decide +kernel
theorem dX3_endSecond_34 : decode cX3_endSecond 34 = .ok (.aload_n 0, 1) := by decide +kernel
theorem dX3_endSecond_35 : decode cX3_endSecond 35 = .ok (.getfield 29, 3) := by decide +kernel
theorem dX3_endSecond_38 : decode cX3_endSecond 38 = .ok (.iconst 0, 1) := by decide +kernel
theorem dX3_endSecond_39 : decode cX3_endSecond 39 = .ok (.bipush 8, 2) := by decide +kernel
theorem dX3_endSecond_41 : decode cX3_endSecond 41 = .ok (.iconst 0, 1) := by decide +kernel
theorem dX3_endSecond_42 : decode cX3_endSecond 42 = .ok (.invokevirtual 35, 3) := by decide +kernel
theorem dX3_endSecond_45 : decode cX3_endSecond 45 = .ok (.return_, 1) := by decide +kernel
theorem dX4_init_0 : decode cX4_init 0 = .ok (.aload_n 0, 1) := by decide +kernel
theorem dX4_init_1 : decode cX4_init 1 = .ok (.invokespecial 3, 3) := by decide +kernel
theorem dX4_init_4 : decode cX4_init 4 = .ok (.aload_n 0, 1) := by decide +kernel
theorem dX4_init_5 : decode cX4_init 5 = .ok (.new 9, 3) := by decide +kernel
theorem dX4_init_8 : decode cX4_init 8 = .ok (.dup, 1) := by decide +kernel
theorem dX4_init_9 : decode cX4_init 9 = .ok (.bipush 8, 2) := by decide +kernel
theorem dX4_init_11 : decode cX4_init 11 = .ok (.invokespecial 11, 3) := by decide +kernel
theorem dX4_init_14 : decode cX4_init 14 = .ok (.putfield 14, 3) := by decide +kernel
theorem dX4_init_17 : decode cX4_init 17 = .ok (.aload_n 0, 1) := by decide +kernel
theorem dX4_init_18 : decode cX4_init 18 = .ok (.new 9, 3) := by decide +kernel
theorem dX4_init_21 : decode cX4_init 21 = .ok (.dup, 1) := by decide +kernel
theorem dX4_init_22 : decode cX4_init 22 = .ok (.sipush 384, 3) := by decide +kernel
theorem dX4_init_25 : decode cX4_init 25 = .ok (.invokespecial 11, 3) := by decide +kernel
theorem dX4_init_28 : decode cX4_init 28 = .ok (.putfield 20, 3) := by decide +kernel
theorem dX4_init_31 : decode cX4_init 31 = .ok (.return_, 1) := by decide +kernel
theorem dX4_copyFrom_0 : decode cX4_copyFrom 0 = .ok (.aload_n 0, 1) := by decide +kernel
theorem dX4_copyFrom_1 : decode cX4_copyFrom 1 = .ok (.getfield 14, 3) := by decide +kernel
theorem dX4_copyFrom_4 : decode cX4_copyFrom 4 = .ok (.aload_n 1, 1) := by decide +kernel
theorem dX4_copyFrom_5 : decode cX4_copyFrom 5 = .ok (.getfield 14, 3) := by decide +kernel
theorem dX4_copyFrom_8 : decode cX4_copyFrom 8 = .ok (.invokevirtual 23, 3) := by decide +kernel
theorem dX4_copyFrom_11 : decode cX4_copyFrom 11 = .ok (.aload_n 0, 1) := by decide +kernel
theorem dX4_copyFrom_12 : decode cX4_copyFrom 12 = .ok (.getfield 20, 3) := by decide +kernel
theorem dX4_copyFrom_15 : decode cX4_copyFrom 15 = .ok (.aload_n 1, 1) := by decide +kernel
theorem dX4_copyFrom_16 : decode cX4_copyFrom 16 = .ok (.getfield 20, 3) := by decide +kernel
theorem dX4_copyFrom_19 : decode cX4_copyFrom 19 = .ok (.invokevirtual 23, 3) := by decide +kernel
theorem dX4_copyFrom_22 : decode cX4_copyFrom 22 = .ok (.return_, 1) := by decide +kernel
theorem dX4_cellOf_0 : decode cX4_cellOf 0 = .ok (.iload_n 0, 1) := by decide +kernel
theorem dX4_cellOf_1 : decode cX4_cellOf 1 = .ok (.bipush 12, 2) := by decide +kernel
theorem dX4_cellOf_3 : decode cX4_cellOf 3 = .ok (.imul, 1) := by decide +kernel
theorem dX4_cellOf_4 : decode cX4_cellOf 4 = .ok (.iload_n 1, 1) := by decide +kernel
theorem dX4_cellOf_5 : decode cX4_cellOf 5 = .ok (.iadd, 1) := by decide +kernel
theorem dX4_cellOf_6 : decode cX4_cellOf 6 = .ok (.iconst 4, 1) := by decide +kernel
theorem dX4_cellOf_7 : decode cX4_cellOf 7 = .ok (.imul, 1) := by decide +kernel
theorem dX4_cellOf_8 : decode cX4_cellOf 8 = .ok (.ireturn, 1) := by decide +kernel
theorem dX4_partOf_0 : decode cX4_partOf 0 = .ok (.aload_n 0, 1) := by decide +kernel
theorem dX4_partOf_1 : decode cX4_partOf 1 = .ok (.getfield 20, 3) := by decide +kernel
theorem dX4_partOf_4 : decode cX4_partOf 4 = .ok (.iload_n 1, 1) := by decide +kernel
theorem dX4_partOf_5 : decode cX4_partOf 5 = .ok (.iload_n 2, 1) := by decide +kernel
theorem dX4_partOf_6 : decode cX4_partOf 6 = .ok (.invokestatic 27, 3) := by decide +kernel
theorem dX4_partOf_9 : decode cX4_partOf 9 = .ok (.iload_n 3, 1) := by decide +kernel
theorem dX4_partOf_10 : decode cX4_partOf 10 = .ok (.iadd, 1) := by decide +kernel
theorem dX4_partOf_11 : decode cX4_partOf 11 = .ok (.invokevirtual 31, 3) := by decide +kernel
theorem dX4_partOf_14 : decode cX4_partOf 14 = .ok (.ireturn, 1) := by decide +kernel
theorem dX4_isFull_0 : decode cX4_isFull 0 = .ok (.aload_n 0, 1) := by decide +kernel
theorem dX4_isFull_1 : decode cX4_isFull 1 = .ok (.getfield 14, 3) := by decide +kernel
theorem dX4_isFull_4 : decode cX4_isFull 4 = .ok (.iload_n 1, 1) := by decide +kernel
theorem dX4_isFull_5 : decode cX4_isFull 5 = .ok (.invokevirtual 31, 3) := by decide +kernel
theorem dX4_isFull_8 : decode cX4_isFull 8 = .ok (.bipush 12, 2) := by decide +kernel
theorem dX4_isFull_10 : decode cX4_isFull 10 = .ok (.if_icmp .lt 7, 3) := by decide +kernel
theorem dX4_isFull_13 : decode cX4_isFull 13 = .ok (.iconst 1, 1) := by decide +kernel
theorem dX4_isFull_14 : decode cX4_isFull 14 = .ok (.goto 4, 3) := by decide +kernel
theorem dX4_isFull_17 : decode cX4_isFull 17 = .ok (.iconst 0, 1) := by decide +kernel
theorem dX4_isFull_18 : decode cX4_isFull 18 = .ok (.ireturn, 1) := by decide +kernel
theorem dX4_insert_0 : decode cX4_insert 0 = .ok (.aload_n 0, 1) := by decide +kernel
theorem dX4_insert_1 : decode cX4_insert 1 = .ok (.getfield 14, 3) := by decide +kernel
theorem dX4_insert_4 : decode cX4_insert 4 = .ok (.iload_n 1, 1) := by decide +kernel
theorem dX4_insert_5 : decode cX4_insert 5 = .ok (.invokevirtual 31, 3) := by decide +kernel
theorem dX4_insert_8 : decode cX4_insert 8 = .ok (.istore 6, 2) := by decide +kernel
theorem dX4_insert_10 : decode cX4_insert 10 = .ok (.iload 6, 2) := by decide +kernel
theorem dX4_insert_12 : decode cX4_insert 12 = .ok (.istore 7, 2) := by decide +kernel
theorem dX4_insert_14 : decode cX4_insert 14 = .ok (.iload 7, 2) := by decide +kernel
theorem dX4_insert_16 : decode cX4_insert 16 = .ok (.ifCond .le 24, 3) := by decide +kernel
theorem dX4_insert_19 : decode cX4_insert 19 = .ok (.aload_n 0, 1) := by decide +kernel
theorem dX4_insert_20 : decode cX4_insert 20 = .ok (.iload_n 1, 1) := by decide +kernel
theorem dX4_insert_21 : decode cX4_insert 21 = .ok (.iload 7, 2) := by decide +kernel
theorem dX4_insert_23 : decode cX4_insert 23 = .ok (.iconst 1, 1) := by decide +kernel
theorem dX4_insert_24 : decode cX4_insert 24 = .ok (.isub, 1) := by decide +kernel
theorem dX4_insert_25 : decode cX4_insert 25 = .ok (.iconst 2, 1) := by decide +kernel
theorem dX4_insert_26 : decode cX4_insert 26 = .ok (.invokevirtual 35, 3) := by decide +kernel
theorem dX4_insert_29 : decode cX4_insert 29 = .ok (.iload 4, 2) := by decide +kernel
theorem dX4_insert_31 : decode cX4_insert 31 = .ok (.if_icmp .ge 9, 3) := by decide +kernel
theorem dX4_insert_34 : decode cX4_insert 34 = .ok (.iinc 7 (-1), 3) := by decide +kernel
theorem dX4_insert_37 : decode cX4_insert 37 = .ok (.goto (-23), 3) := by decide +kernel
theorem dX4_insert_40 : decode cX4_insert 40 = .ok (.iload_n 1, 1) := by decide +kernel
theorem dX4_insert_41 : decode cX4_insert 41 = .ok (.iload 7, 2) := by decide +kernel
theorem dX4_insert_43 : decode cX4_insert 43 = .ok (.invokestatic 27, 3) := by decide +kernel
theorem dX4_insert_46 : decode cX4_insert 46 = .ok (.istore 8, 2) := by decide +kernel
theorem dX4_insert_48 : decode cX4_insert 48 = .ok (.aload_n 0, 1) := by decide +kernel
theorem dX4_insert_49 : decode cX4_insert 49 = .ok (.getfield 20, 3) := by decide +kernel
theorem dX4_insert_52 : decode cX4_insert 52 = .ok (.iload 8, 2) := by decide +kernel
theorem dX4_insert_54 : decode cX4_insert 54 = .ok (.iload 8, 2) := by decide +kernel
theorem dX4_insert_56 : decode cX4_insert 56 = .ok (.iconst 4, 1) := by decide +kernel
theorem dX4_insert_57 : decode cX4_insert 57 = .ok (.iadd, 1) := by decide +kernel
theorem dX4_insert_58 : decode cX4_insert 58 = .ok (.iload 6, 2) := by decide +kernel
theorem dX4_insert_60 : decode cX4_insert 60 = .ok (.iload 7, 2) := by decide +kernel
theorem dX4_insert_62 : decode cX4_insert 62 = .ok (.isub, 1) := by decide +kernel
theorem dX4_insert_63 : decode cX4_insert 63 = .ok (.iconst 4, 1) := by decide +kernel
theorem dX4_insert_64 : decode cX4_insert 64 = .ok (.imul, 1) := by decide +kernel
theorem dX4_insert_65 : decode cX4_insert 65 = .ok (.invokevirtual 39, 3) := by decide +kernel
theorem dX4_insert_68 : decode cX4_insert 68 = .ok (.aload_n 0, 1) := by decide +kernel
theorem dX4_insert_69 : decode cX4_insert 69 = .ok (.getfield 20, 3) := by decide +kernel
theorem dX4_insert_72 : decode cX4_insert 72 = .ok (.iload 8, 2) := by decide +kernel
theorem dX4_insert_74 : decode cX4_insert 74 = .ok (.iconst 0, 1) := by decide +kernel
theorem dX4_insert_75 : decode cX4_insert 75 = .ok (.iadd, 1) := by decide +kernel
theorem dX4_insert_76 : decode cX4_insert 76 = .ok (.iload_n 2, 1) := by decide +kernel
theorem dX4_insert_77 : decode cX4_insert 77 = .ok (.invokevirtual 43, 3) := by decide +kernel
theorem dX4_insert_80 : decode cX4_insert 80 = .ok (.aload_n 0, 1) := by decide +kernel
theorem dX4_insert_81 : decode cX4_insert 81 = .ok (.getfield 20, 3) := by decide +kernel
theorem dX4_insert_84 : decode cX4_insert 84 = .ok (.iload 8, 2) := by decide +kernel
theorem dX4_insert_86 : decode cX4_insert 86 = .ok (.iconst 1, 1) := by decide +kernel
theorem dX4_insert_87 : decode cX4_insert 87 = .ok (.iadd, 1) := by decide +kernel
theorem dX4_insert_88 : decode cX4_insert 88 = .ok (.iload_n 3, 1) := by decide +kernel
theorem dX4_insert_89 : decode cX4_insert 89 = .ok (.invokevirtual 43, 3) := by decide +kernel
theorem dX4_insert_92 : decode cX4_insert 92 = .ok (.aload_n 0, 1) := by decide +kernel
theorem dX4_insert_93 : decode cX4_insert 93 = .ok (.getfield 20, 3) := by decide +kernel
theorem dX4_insert_96 : decode cX4_insert 96 = .ok (.iload 8, 2) := by decide +kernel
theorem dX4_insert_98 : decode cX4_insert 98 = .ok (.iconst 2, 1) := by decide +kernel
theorem dX4_insert_99 : decode cX4_insert 99 = .ok (.iadd, 1) := by decide +kernel
theorem dX4_insert_100 : decode cX4_insert 100 = .ok (.iload 4, 2) := by decide +kernel
theorem dX4_insert_102 : decode cX4_insert 102 = .ok (.invokevirtual 43, 3) := by decide +kernel
theorem dX4_insert_105 : decode cX4_insert 105 = .ok (.aload_n 0, 1) := by decide +kernel
theorem dX4_insert_106 : decode cX4_insert 106 = .ok (.getfield 20, 3) := by decide +kernel
theorem dX4_insert_109 : decode cX4_insert 109 = .ok (.iload 8, 2) := by decide +kernel
theorem dX4_insert_111 : decode cX4_insert 111 = .ok (.iconst 3, 1) := by decide +kernel
theorem dX4_insert_112 : decode cX4_insert 112 = .ok (.iadd, 1) := by decide +kernel
theorem dX4_insert_113 : decode cX4_insert 113 = .ok (.iload 5, 2) := by decide +kernel
theorem dX4_insert_115 : decode cX4_insert 115 = .ok (.invokevirtual 43, 3) := by decide +kernel
theorem dX4_insert_118 : decode cX4_insert 118 = .ok (.aload_n 0, 1) := by decide +kernel
theorem dX4_insert_119 : decode cX4_insert 119 = .ok (.getfield 14, 3) := by decide +kernel
theorem dX4_insert_122 : decode cX4_insert 122 = .ok (.iload_n 1, 1) := by decide +kernel
theorem dX4_insert_123 : decode cX4_insert 123 = .ok (.iload 6, 2) := by decide +kernel
theorem dX4_insert_125 : decode cX4_insert 125 = .ok (.iconst 1, 1) := by decide +kernel
theorem dX4_insert_126 : decode cX4_insert 126 = .ok (.iadd, 1) := by decide +kernel
theorem dX4_insert_127 : decode cX4_insert 127 = .ok (.invokevirtual 43, 3) := by decide +kernel
theorem dX4_insert_130 : decode cX4_insert 130 = .ok (.return_, 1) := by decide +kernel
theorem dX4_removeFirst_0 : decode cX4_removeFirst 0 = .ok (.aload_n 0, 1) := by decide +kernel
theorem dX4_removeFirst_1 : decode cX4_removeFirst 1 = .ok (.getfield 14, 3) := by decide +kernel
theorem dX4_removeFirst_4 : decode cX4_removeFirst 4 = .ok (.iload_n 1, 1) := by decide +kernel
theorem dX4_removeFirst_5 : decode cX4_removeFirst 5 = .ok (.invokevirtual 31, 3) := by decide +kernel
theorem dX4_removeFirst_8 : decode cX4_removeFirst 8 = .ok (.iload_n 2, 1) := by decide +kernel
theorem dX4_removeFirst_9 : decode cX4_removeFirst 9 = .ok (.isub, 1) := by decide +kernel
theorem dX4_removeFirst_10 : decode cX4_removeFirst 10 = .ok (.istore_n 3, 1) := by decide +kernel
theorem dX4_removeFirst_11 : decode cX4_removeFirst 11 = .ok (.aload_n 0, 1) := by decide +kernel
theorem dX4_removeFirst_12 : decode cX4_removeFirst 12 = .ok (.getfield 20, 3) := by decide +kernel
theorem dX4_removeFirst_15 : decode cX4_removeFirst 15 = .ok (.iload_n 1, 1) := by decide +kernel
theorem dX4_removeFirst_16 : decode cX4_removeFirst 16 = .ok (.iload_n 2, 1) := by decide +kernel
theorem dX4_removeFirst_17 : decode cX4_removeFirst 17 = .ok (.invokestatic 27, 3) := by decide +kernel
theorem dX4_removeFirst_20 : decode cX4_removeFirst 20 = .ok (.iload_n 1, 1) := by decide +kernel
theorem dX4_removeFirst_21 : decode cX4_removeFirst 21 = .ok (.iconst 0, 1) := by decide +kernel
theorem dX4_removeFirst_22 : decode cX4_removeFirst 22 = .ok (.invokestatic 27, 3) := by decide +kernel
theorem dX4_removeFirst_25 : decode cX4_removeFirst 25 = .ok (.iload_n 3, 1) := by decide +kernel
theorem dX4_removeFirst_26 : decode cX4_removeFirst 26 = .ok (.iconst 4, 1) := by decide +kernel
theorem dX4_removeFirst_27 : decode cX4_removeFirst 27 = .ok (.imul, 1) := by decide +kernel
theorem dX4_removeFirst_28 : decode cX4_removeFirst 28 = .ok (.invokevirtual 39, 3) := by decide +kernel
theorem dX4_removeFirst_31 : decode cX4_removeFirst 31 = .ok (.aload_n 0, 1) := by decide +kernel
theorem dX4_removeFirst_32 : decode cX4_removeFirst 32 = .ok (.getfield 14, 3) := by decide +kernel
theorem dX4_removeFirst_35 : decode cX4_removeFirst 35 = .ok (.iload_n 1, 1) := by decide +kernel
theorem dX4_removeFirst_36 : decode cX4_removeFirst 36 = .ok (.iload_n 3, 1) := by decide +kernel
theorem dX4_removeFirst_37 : decode cX4_removeFirst 37 = .ok (.invokevirtual 43, 3) := by decide +kernel
theorem dX4_removeFirst_40 : decode cX4_removeFirst 40 = .ok (.return_, 1) := by decide +kernel
theorem dX5_init_0 : decode cX5_init 0 = .ok (.aload_n 0, 1) := by decide +kernel
theorem dX5_init_1 : decode cX5_init 1 = .ok (.invokespecial 1, 3) := by decide +kernel
theorem dX5_init_4 : decode cX5_init 4 = .ok (.aload_n 0, 1) := by decide +kernel
theorem dX5_init_5 : decode cX5_init 5 = .ok (.iload_n 1, 1) := by decide +kernel
theorem dX5_init_6 : decode cX5_init 6 = .ok (.iconst 0, 1) := by decide +kernel
theorem dX5_init_7 : decode cX5_init 7 = .ok (.invokestatic 7, 3) := by decide +kernel
theorem dX5_init_10 : decode cX5_init 10 = .ok (.newarray .int, 2) := by decide +kernel
theorem dX5_init_12 : decode cX5_init 12 = .ok (.putfield 13, 3) := by decide +kernel
theorem dX5_init_15 : decode cX5_init 15 = .ok (.return_, 1) := by decide +kernel
theorem dX5_at_0 : decode cX5_at 0 = .ok (.iload_n 1, 1) := by decide +kernel
theorem dX5_at_1 : decode cX5_at 1 = .ok (.ifCond .lt 21, 3) := by decide +kernel
theorem dX5_at_4 : decode cX5_at 4 = .ok (.iload_n 1, 1) := by decide +kernel
theorem dX5_at_5 : decode cX5_at 5 = .ok (.aload_n 0, 1) := by decide +kernel
theorem dX5_at_6 : decode cX5_at 6 = .ok (.getfield 13, 3) := by decide +kernel
theorem dX5_at_9 : decode cX5_at 9 = .ok (.arraylength, 1) := by decide +kernel
theorem dX5_at_10 : decode cX5_at 10 = .ok (.if_icmp .ge 12, 3) := by decide +kernel
theorem dX5_at_13 : decode cX5_at 13 = .ok (.aload_n 0, 1) := by decide +kernel
theorem dX5_at_14 : decode cX5_at 14 = .ok (.getfield 13, 3) := by decide +kernel
theorem dX5_at_17 : decode cX5_at 17 = .ok (.iload_n 1, 1) := by decide +kernel
theorem dX5_at_18 : decode cX5_at 18 = .ok (.iaload, 1) := by decide +kernel
theorem dX5_at_19 : decode cX5_at 19 = .ok (.goto 4, 3) := by decide +kernel
theorem dX5_at_22 : decode cX5_at 22 = .ok (.iconst 0, 1) := by decide +kernel
theorem dX5_at_23 : decode cX5_at 23 = .ok (.ireturn, 1) := by decide +kernel
theorem dX5_put_0 : decode cX5_put 0 = .ok (.iload_n 1, 1) := by decide +kernel
theorem dX5_put_1 : decode cX5_put 1 = .ok (.ifCond .lt 19, 3) := by decide +kernel
theorem dX5_put_4 : decode cX5_put 4 = .ok (.iload_n 1, 1) := by decide +kernel
theorem dX5_put_5 : decode cX5_put 5 = .ok (.aload_n 0, 1) := by decide +kernel
theorem dX5_put_6 : decode cX5_put 6 = .ok (.getfield 13, 3) := by decide +kernel
theorem dX5_put_9 : decode cX5_put 9 = .ok (.arraylength, 1) := by decide +kernel
theorem dX5_put_10 : decode cX5_put 10 = .ok (.if_icmp .ge 10, 3) := by decide +kernel
theorem dX5_put_13 : decode cX5_put 13 = .ok (.aload_n 0, 1) := by decide +kernel
theorem dX5_put_14 : decode cX5_put 14 = .ok (.getfield 13, 3) := by decide +kernel
theorem dX5_put_17 : decode cX5_put 17 = .ok (.iload_n 1, 1) := by decide +kernel
theorem dX5_put_18 : decode cX5_put 18 = .ok (.iload_n 2, 1) := by decide +kernel
theorem dX5_put_19 : decode cX5_put 19 = .ok (.iastore, 1) := by decide +kernel
theorem dX5_put_20 : decode cX5_put 20 = .ok (.return_, 1) := by decide +kernel
theorem dX5_add_0 : decode cX5_add 0 = .ok (.iload_n 1, 1) := by decide +kernel
theorem dX5_add_1 : decode cX5_add 1 = .ok (.ifCond .lt 22, 3) := by decide +kernel
theorem dX5_add_4 : decode cX5_add 4 = .ok (.iload_n 1, 1) := by decide +kernel
theorem dX5_add_5 : decode cX5_add 5 = .ok (.aload_n 0, 1) := by decide +kernel
theorem dX5_add_6 : decode cX5_add 6 = .ok (.getfield 13, 3) := by decide +kernel
theorem dX5_add_9 : decode cX5_add 9 = .ok (.arraylength, 1) := by decide +kernel
theorem dX5_add_10 : decode cX5_add 10 = .ok (.if_icmp .ge 13, 3) := by decide +kernel
theorem dX5_add_13 : decode cX5_add 13 = .ok (.aload_n 0, 1) := by decide +kernel
theorem dX5_add_14 : decode cX5_add 14 = .ok (.getfield 13, 3) := by decide +kernel
theorem dX5_add_17 : decode cX5_add 17 = .ok (.iload_n 1, 1) := by decide +kernel
theorem dX5_add_18 : decode cX5_add 18 = .ok (.dup2, 1) := by decide +kernel
theorem dX5_add_19 : decode cX5_add 19 = .ok (.iaload, 1) := by decide +kernel
theorem dX5_add_20 : decode cX5_add 20 = .ok (.iload_n 2, 1) := by decide +kernel
theorem dX5_add_21 : decode cX5_add 21 = .ok (.iadd, 1) := by decide +kernel
theorem dX5_add_22 : decode cX5_add 22 = .ok (.iastore, 1) := by decide +kernel
theorem dX5_add_23 : decode cX5_add 23 = .ok (.return_, 1) := by decide +kernel
theorem dX5_sum_0 : decode cX5_sum 0 = .ok (.iconst 0, 1) := by decide +kernel
theorem dX5_sum_1 : decode cX5_sum 1 = .ok (.istore_n 1, 1) := by decide +kernel
theorem dX5_sum_2 : decode cX5_sum 2 = .ok (.aload_n 0, 1) := by decide +kernel
theorem dX5_sum_3 : decode cX5_sum 3 = .ok (.getfield 13, 3) := by decide +kernel
theorem dX5_sum_6 : decode cX5_sum 6 = .ok (.astore_n 2, 1) := by decide +kernel
theorem dX5_sum_7 : decode cX5_sum 7 = .ok (.aload_n 2, 1) := by decide +kernel
theorem dX5_sum_8 : decode cX5_sum 8 = .ok (.arraylength, 1) := by decide +kernel
theorem dX5_sum_9 : decode cX5_sum 9 = .ok (.istore_n 3, 1) := by decide +kernel
theorem dX5_sum_10 : decode cX5_sum 10 = .ok (.iconst 0, 1) := by decide +kernel
theorem dX5_sum_11 : decode cX5_sum 11 = .ok (.istore 4, 2) := by decide +kernel
theorem dX5_sum_13 : decode cX5_sum 13 = .ok (.iload 4, 2) := by decide +kernel
theorem dX5_sum_15 : decode cX5_sum 15 = .ok (.iload_n 3, 1) := by decide +kernel
theorem dX5_sum_16 : decode cX5_sum 16 = .ok (.if_icmp .ge 20, 3) := by decide +kernel
theorem dX5_sum_19 : decode cX5_sum 19 = .ok (.aload_n 2, 1) := by decide +kernel
theorem dX5_sum_20 : decode cX5_sum 20 = .ok (.iload 4, 2) := by decide +kernel
theorem dX5_sum_22 : decode cX5_sum 22 = .ok (.iaload, 1) := by decide +kernel
theorem dX5_sum_23 : decode cX5_sum 23 = .ok (.istore 5, 2) := by decide +kernel
theorem dX5_sum_25 : decode cX5_sum 25 = .ok (.iload_n 1, 1) := by decide +kernel
theorem dX5_sum_26 : decode cX5_sum 26 = .ok (.iload 5, 2) := by decide +kernel
theorem dX5_sum_28 : decode cX5_sum 28 = .ok (.iadd, 1) := by decide +kernel
theorem dX5_sum_29 : decode cX5_sum 29 = .ok (.istore_n 1, 1) := by decide +kernel
theorem dX5_sum_30 : decode cX5_sum 30 = .ok (.iinc 4 1, 3) := by decide +kernel
theorem dX5_sum_33 : decode cX5_sum 33 = .ok (.goto (-20), 3) := by decide +kernel
theorem dX5_sum_36 : decode cX5_sum 36 = .ok (.iload_n 1, 1) := by decide +kernel
theorem dX5_sum_37 : decode cX5_sum 37 = .ok (.ireturn, 1) := by decide +kernel
theorem dX5_fill_0 : decode cX5_fill 0 = .ok (.aload_n 0, 1) := by decide +kernel
theorem dX5_fill_1 : decode cX5_fill 1 = .ok (.iload_n 1, 1) := by decide +kernel
theorem dX5_fill_2 : decode cX5_fill 2 = .ok (.iload_n 2, 1) := by decide +kernel
theorem dX5_fill_3 : decode cX5_fill 3 = .ok (.invokevirtual 19, 3) := by decide +kernel
theorem dX5_fill_6 : decode cX5_fill 6 = .ok (.ifCond .eq 15, 3) := by decide +kernel
theorem dX5_fill_9 : decode cX5_fill 9 = .ok (.aload_n 0, 1) := by decide +kernel
theorem dX5_fill_10 : decode cX5_fill 10 = .ok (.getfield 13, 3) := by decide +kernel
theorem dX5_fill_13 : decode cX5_fill 13 = .ok (.iload_n 1, 1) := by decide +kernel
theorem dX5_fill_14 : decode cX5_fill 14 = .ok (.iload_n 1, 1) := by decide +kernel
theorem dX5_fill_15 : decode cX5_fill 15 = .ok (.iload_n 2, 1) := by decide +kernel
theorem dX5_fill_16 : decode cX5_fill 16 = .ok (.iadd, 1) := by decide +kernel
theorem dX5_fill_17 : decode cX5_fill 17 = .ok (.iload_n 3, 1) := by decide +kernel
theorem dX5_fill_18 : decode cX5_fill 18 = .ok (.invokestatic 23, 3) := by decide +kernel
theorem dX5_fill_21 : decode cX5_fill 21 = .ok (.return_, 1) := by decide +kernel
theorem dX5_slide_0 : decode cX5_slide 0 = .ok (.aload_n 0, 1) := by decide +kernel
theorem dX5_slide_1 : decode cX5_slide 1 = .ok (.iload_n 1, 1) := by decide +kernel
theorem dX5_slide_2 : decode cX5_slide 2 = .ok (.iload_n 3, 1) := by decide +kernel
theorem dX5_slide_3 : decode cX5_slide 3 = .ok (.invokevirtual 19, 3) := by decide +kernel
theorem dX5_slide_6 : decode cX5_slide 6 = .ok (.ifCond .eq 26, 3) := by decide +kernel
theorem dX5_slide_9 : decode cX5_slide 9 = .ok (.aload_n 0, 1) := by decide +kernel
theorem dX5_slide_10 : decode cX5_slide 10 = .ok (.iload_n 2, 1) := by decide +kernel
theorem dX5_slide_11 : decode cX5_slide 11 = .ok (.iload_n 3, 1) := by decide +kernel
theorem dX5_slide_12 : decode cX5_slide 12 = .ok (.invokevirtual 19, 3) := by decide +kernel
theorem dX5_slide_15 : decode cX5_slide 15 = .ok (.ifCond .eq 17, 3) := by decide +kernel
theorem dX5_slide_18 : decode cX5_slide 18 = .ok (.aload_n 0, 1) := by decide +kernel
theorem dX5_slide_19 : decode cX5_slide 19 = .ok (.getfield 13, 3) := by decide +kernel
theorem dX5_slide_22 : decode cX5_slide 22 = .ok (.iload_n 1, 1) := by decide +kernel
theorem dX5_slide_23 : decode cX5_slide 23 = .ok (.aload_n 0, 1) := by decide +kernel
theorem dX5_slide_24 : decode cX5_slide 24 = .ok (.getfield 13, 3) := by decide +kernel
theorem dX5_slide_27 : decode cX5_slide 27 = .ok (.iload_n 2, 1) := by decide +kernel
theorem dX5_slide_28 : decode cX5_slide 28 = .ok (.iload_n 3, 1) := by decide +kernel
theorem dX5_slide_29 : decode cX5_slide 29 = .ok (.invokestatic 29, 3) := by decide +kernel
theorem dX5_slide_32 : decode cX5_slide 32 = .ok (.return_, 1) := by decide +kernel
theorem dX5_fits_0 : decode cX5_fits 0 = .ok (.iload_n 1, 1) := by decide +kernel
theorem dX5_fits_1 : decode cX5_fits 1 = .ok (.ifCond .lt 22, 3) := by decide +kernel
theorem dX5_fits_4 : decode cX5_fits 4 = .ok (.iload_n 2, 1) := by decide +kernel
theorem dX5_fits_5 : decode cX5_fits 5 = .ok (.ifCond .lt 18, 3) := by decide +kernel
theorem dX5_fits_8 : decode cX5_fits 8 = .ok (.iload_n 1, 1) := by decide +kernel
theorem dX5_fits_9 : decode cX5_fits 9 = .ok (.aload_n 0, 1) := by decide +kernel
theorem dX5_fits_10 : decode cX5_fits 10 = .ok (.getfield 13, 3) := by decide +kernel
theorem dX5_fits_13 : decode cX5_fits 13 = .ok (.arraylength, 1) := by decide +kernel
theorem dX5_fits_14 : decode cX5_fits 14 = .ok (.iload_n 2, 1) := by decide +kernel
theorem dX5_fits_15 : decode cX5_fits 15 = .ok (.isub, 1) := by decide +kernel
theorem dX5_fits_16 : decode cX5_fits 16 = .ok (.if_icmp .gt 7, 3) := by decide +kernel
theorem dX5_fits_19 : decode cX5_fits 19 = .ok (.iconst 1, 1) := by decide +kernel
theorem dX5_fits_20 : decode cX5_fits 20 = .ok (.goto 4, 3) := by decide +kernel
theorem dX5_fits_23 : decode cX5_fits 23 = .ok (.iconst 0, 1) := by decide +kernel
theorem dX5_fits_24 : decode cX5_fits 24 = .ok (.ireturn, 1) := by decide +kernel
theorem dX5_copyFrom_0 : decode cX5_copyFrom 0 = .ok (.aload_n 1, 1) := by decide +kernel
theorem dX5_copyFrom_1 : decode cX5_copyFrom 1 = .ok (.getfield 13, 3) := by decide +kernel
theorem dX5_copyFrom_4 : decode cX5_copyFrom 4 = .ok (.iconst 0, 1) := by decide +kernel
theorem dX5_copyFrom_5 : decode cX5_copyFrom 5 = .ok (.aload_n 0, 1) := by decide +kernel
theorem dX5_copyFrom_6 : decode cX5_copyFrom 6 = .ok (.getfield 13, 3) := by decide +kernel
theorem dX5_copyFrom_9 : decode cX5_copyFrom 9 = .ok (.iconst 0, 1) := by decide +kernel
theorem dX5_copyFrom_10 : decode cX5_copyFrom 10 = .ok (.aload_n 0, 1) := by decide +kernel
theorem dX5_copyFrom_11 : decode cX5_copyFrom 11 = .ok (.getfield 13, 3) := by decide +kernel
theorem dX5_copyFrom_14 : decode cX5_copyFrom 14 = .ok (.arraylength, 1) := by decide +kernel
theorem dX5_copyFrom_15 : decode cX5_copyFrom 15 = .ok (.aload_n 1, 1) := by decide +kernel
theorem dX5_copyFrom_16 : decode cX5_copyFrom 16 = .ok (.getfield 13, 3) := by decide +kernel
theorem dX5_copyFrom_19 : decode cX5_copyFrom 19 = .ok (.arraylength, 1) := by decide +kernel
theorem dX5_copyFrom_20 : decode cX5_copyFrom 20 = .ok (.invokestatic 35, 3) := by decide +kernel
theorem dX5_copyFrom_23 : decode cX5_copyFrom 23 = .ok (.invokestatic 29, 3) := by decide +kernel
theorem dX5_copyFrom_26 : decode cX5_copyFrom 26 = .ok (.return_, 1) := by decide +kernel
theorem dX6_init_0 : decode cX6_init 0 = .ok (.aload_n 0, 1) := by decide +kernel
theorem dX6_init_1 : decode cX6_init 1 = .ok (.invokespecial 3, 3) := by decide +kernel
theorem dX6_init_4 : decode cX6_init 4 = .ok (.aload_n 0, 1) := by decide +kernel
theorem dX6_init_5 : decode cX6_init 5 = .ok (.new 9, 3) := by decide +kernel
theorem dX6_init_8 : decode cX6_init 8 = .ok (.dup, 1) := by decide +kernel
theorem dX6_init_9 : decode cX6_init 9 = .ok (.getstatic 11, 3) := by decide +kernel
theorem dX6_init_12 : decode cX6_init 12 = .ok (.arraylength, 1) := by decide +kernel
theorem dX6_init_13 : decode cX6_init 13 = .ok (.invokespecial 15, 3) := by decide +kernel
theorem dX6_init_16 : decode cX6_init 16 = .ok (.putfield 18, 3) := by decide +kernel
theorem dX6_init_19 : decode cX6_init 19 = .ok (.aload_n 0, 1) := by decide +kernel
theorem dX6_init_20 : decode cX6_init 20 = .ok (.new 24, 3) := by decide +kernel
theorem dX6_init_23 : decode cX6_init 23 = .ok (.dup, 1) := by decide +kernel
theorem dX6_init_24 : decode cX6_init 24 = .ok (.invokespecial 26, 3) := by decide +kernel
theorem dX6_init_27 : decode cX6_init 27 = .ok (.putfield 27, 3) := by decide +kernel
theorem dX6_init_30 : decode cX6_init 30 = .ok (.aload_n 0, 1) := by decide +kernel
theorem dX6_init_31 : decode cX6_init 31 = .ok (.new 31, 3) := by decide +kernel
theorem dX6_init_34 : decode cX6_init 34 = .ok (.dup, 1) := by decide +kernel
theorem dX6_init_35 : decode cX6_init 35 = .ok (.invokespecial 33, 3) := by decide +kernel
theorem dX6_init_38 : decode cX6_init 38 = .ok (.putfield 34, 3) := by decide +kernel
theorem dX6_init_41 : decode cX6_init 41 = .ok (.aload_n 0, 1) := by decide +kernel
theorem dX6_init_42 : decode cX6_init 42 = .ok (.new 38, 3) := by decide +kernel
theorem dX6_init_45 : decode cX6_init 45 = .ok (.dup, 1) := by decide +kernel
theorem dX6_init_46 : decode cX6_init 46 = .ok (.invokespecial 40, 3) := by decide +kernel
theorem dX6_init_49 : decode cX6_init 49 = .ok (.putfield 41, 3) := by decide +kernel
theorem dX6_init_52 : decode cX6_init 52 = .ok (.aload_n 0, 1) := by decide +kernel
theorem dX6_init_53 : decode cX6_init 53 = .ok (.new 45, 3) := by decide +kernel
theorem dX6_init_56 : decode cX6_init 56 = .ok (.dup, 1) := by decide +kernel
theorem dX6_init_57 : decode cX6_init 57 = .ok (.invokespecial 47, 3) := by decide +kernel
theorem dX6_init_60 : decode cX6_init 60 = .ok (.putfield 48, 3) := by decide +kernel
theorem dX6_init_63 : decode cX6_init 63 = .ok (.iconst 0, 1) := by decide +kernel
theorem dX6_init_64 : decode cX6_init 64 = .ok (.istore_n 1, 1) := by decide +kernel
theorem dX6_init_65 : decode cX6_init 65 = .ok (.iload_n 1, 1) := by decide +kernel
theorem dX6_init_66 : decode cX6_init 66 = .ok (.getstatic 11, 3) := by decide +kernel
theorem dX6_init_69 : decode cX6_init 69 = .ok (.arraylength, 1) := by decide +kernel
theorem dX6_init_70 : decode cX6_init 70 = .ok (.if_icmp .ge 22, 3) := by decide +kernel
theorem dX6_init_73 : decode cX6_init 73 = .ok (.aload_n 0, 1) := by decide +kernel
theorem dX6_init_74 : decode cX6_init 74 = .ok (.getfield 18, 3) := by decide +kernel
theorem dX6_init_77 : decode cX6_init 77 = .ok (.iload_n 1, 1) := by decide +kernel
theorem dX6_init_78 : decode cX6_init 78 = .ok (.getstatic 11, 3) := by decide +kernel
theorem dX6_init_81 : decode cX6_init 81 = .ok (.iload_n 1, 1) := by decide +kernel
theorem dX6_init_82 : decode cX6_init 82 = .ok (.iaload, 1) := by decide +kernel
theorem dX6_init_83 : decode cX6_init 83 = .ok (.invokevirtual 52, 3) := by decide +kernel
theorem dX6_init_86 : decode cX6_init 86 = .ok (.iinc 1 1, 3) := by decide +kernel
theorem dX6_init_89 : decode cX6_init 89 = .ok (.goto (-24), 3) := by decide +kernel
theorem dX6_init_92 : decode cX6_init 92 = .ok (.return_, 1) := by decide +kernel
theorem dX6_copyFrom_0 : decode cX6_copyFrom 0 = .ok (.aload_n 0, 1) := by decide +kernel
theorem dX6_copyFrom_1 : decode cX6_copyFrom 1 = .ok (.getfield 18, 3) := by decide +kernel
theorem dX6_copyFrom_4 : decode cX6_copyFrom 4 = .ok (.aload_n 1, 1) := by decide +kernel
theorem dX6_copyFrom_5 : decode cX6_copyFrom 5 = .ok (.getfield 18, 3) := by decide +kernel
theorem dX6_copyFrom_8 : decode cX6_copyFrom 8 = .ok (.invokevirtual 56, 3) := by decide +kernel
theorem dX6_copyFrom_11 : decode cX6_copyFrom 11 = .ok (.aload_n 0, 1) := by decide +kernel
theorem dX6_copyFrom_12 : decode cX6_copyFrom 12 = .ok (.getfield 27, 3) := by decide +kernel
theorem dX6_copyFrom_15 : decode cX6_copyFrom 15 = .ok (.aload_n 1, 1) := by decide +kernel
theorem dX6_copyFrom_16 : decode cX6_copyFrom 16 = .ok (.getfield 27, 3) := by decide +kernel
theorem dX6_copyFrom_19 : decode cX6_copyFrom 19 = .ok (.invokevirtual 60, 3) := by decide +kernel
theorem dX6_copyFrom_22 : decode cX6_copyFrom 22 = .ok (.aload_n 0, 1) := by decide +kernel
theorem dX6_copyFrom_23 : decode cX6_copyFrom 23 = .ok (.getfield 34, 3) := by decide +kernel
theorem dX6_copyFrom_26 : decode cX6_copyFrom 26 = .ok (.aload_n 1, 1) := by decide +kernel
theorem dX6_copyFrom_27 : decode cX6_copyFrom 27 = .ok (.getfield 34, 3) := by decide +kernel
theorem dX6_copyFrom_30 : decode cX6_copyFrom 30 = .ok (.invokevirtual 63, 3) := by decide +kernel
theorem dX6_copyFrom_33 : decode cX6_copyFrom 33 = .ok (.aload_n 0, 1) := by decide +kernel
theorem dX6_copyFrom_34 : decode cX6_copyFrom 34 = .ok (.getfield 41, 3) := by decide +kernel
theorem dX6_copyFrom_37 : decode cX6_copyFrom 37 = .ok (.aload_n 1, 1) := by decide +kernel
theorem dX6_copyFrom_38 : decode cX6_copyFrom 38 = .ok (.getfield 41, 3) := by decide +kernel
theorem dX6_copyFrom_41 : decode cX6_copyFrom 41 = .ok (.invokevirtual 66, 3) := by decide +kernel
theorem dX6_copyFrom_44 : decode cX6_copyFrom 44 = .ok (.aload_n 0, 1) := by decide +kernel
theorem dX6_copyFrom_45 : decode cX6_copyFrom 45 = .ok (.getfield 48, 3) := by decide +kernel
theorem dX6_copyFrom_48 : decode cX6_copyFrom 48 = .ok (.aload_n 1, 1) := by decide +kernel
theorem dX6_copyFrom_49 : decode cX6_copyFrom 49 = .ok (.getfield 48, 3) := by decide +kernel
theorem dX6_copyFrom_52 : decode cX6_copyFrom 52 = .ok (.invokevirtual 69, 3) := by decide +kernel
theorem dX6_copyFrom_55 : decode cX6_copyFrom 55 = .ok (.aload_n 0, 1) := by decide +kernel
theorem dX6_copyFrom_56 : decode cX6_copyFrom 56 = .ok (.aload_n 1, 1) := by decide +kernel
theorem dX6_copyFrom_57 : decode cX6_copyFrom 57 = .ok (.getfield 72, 3) := by decide +kernel
theorem dX6_copyFrom_60 : decode cX6_copyFrom 60 = .ok (.putfield 72, 3) := by decide +kernel
theorem dX6_copyFrom_63 : decode cX6_copyFrom 63 = .ok (.aload_n 0, 1) := by decide +kernel
theorem dX6_copyFrom_64 : decode cX6_copyFrom 64 = .ok (.aload_n 1, 1) := by decide +kernel
theorem dX6_copyFrom_65 : decode cX6_copyFrom 65 = .ok (.getfield 76, 3) := by decide +kernel
theorem dX6_copyFrom_68 : decode cX6_copyFrom 68 = .ok (.putfield 76, 3) := by decide +kernel
theorem dX6_copyFrom_71 : decode cX6_copyFrom 71 = .ok (.aload_n 0, 1) := by decide +kernel
theorem dX6_copyFrom_72 : decode cX6_copyFrom 72 = .ok (.aload_n 1, 1) := by decide +kernel
theorem dX6_copyFrom_73 : decode cX6_copyFrom 73 = .ok (.getfield 79, 3) := by decide +kernel
theorem dX6_copyFrom_76 : decode cX6_copyFrom 76 = .ok (.putfield 79, 3) := by decide +kernel
theorem dX6_copyFrom_79 : decode cX6_copyFrom 79 = .ok (.return_, 1) := by decide +kernel
theorem dX6_dropQueue_0 : decode cX6_dropQueue 0 = .ok (.aload_n 0, 1) := by decide +kernel
theorem dX6_dropQueue_1 : decode cX6_dropQueue 1 = .ok (.getfield 34, 3) := by decide +kernel
theorem dX6_dropQueue_4 : decode cX6_dropQueue 4 = .ok (.getfield 82, 3) := by decide +kernel
theorem dX6_dropQueue_7 : decode cX6_dropQueue 7 = .ok (.iload_n 1, 1) := by decide +kernel
theorem dX6_dropQueue_8 : decode cX6_dropQueue 8 = .ok (.invokevirtual 85, 3) := by decide +kernel
theorem dX6_dropQueue_11 : decode cX6_dropQueue 11 = .ok (.istore_n 2, 1) := by decide +kernel
theorem dX6_dropQueue_12 : decode cX6_dropQueue 12 = .ok (.aload_n 0, 1) := by decide +kernel
theorem dX6_dropQueue_13 : decode cX6_dropQueue 13 = .ok (.getfield 34, 3) := by decide +kernel
theorem dX6_dropQueue_16 : decode cX6_dropQueue 16 = .ok (.iload_n 1, 1) := by decide +kernel
theorem dX6_dropQueue_17 : decode cX6_dropQueue 17 = .ok (.iload_n 2, 1) := by decide +kernel
theorem dX6_dropQueue_18 : decode cX6_dropQueue 18 = .ok (.invokevirtual 89, 3) := by decide +kernel
theorem dX6_dropQueue_21 : decode cX6_dropQueue 21 = .ok (.aload_n 0, 1) := by decide +kernel
theorem dX6_dropQueue_22 : decode cX6_dropQueue 22 = .ok (.getfield 27, 3) := by decide +kernel
theorem dX6_dropQueue_25 : decode cX6_dropQueue 25 = .ok (.iload_n 1, 1) := by decide +kernel
theorem dX6_dropQueue_26 : decode cX6_dropQueue 26 = .ok (.bipush 8, 2) := by decide +kernel
theorem dX6_dropQueue_28 : decode cX6_dropQueue 28 = .ok (.iload_n 2, 1) := by decide +kernel
theorem dX6_dropQueue_29 : decode cX6_dropQueue 29 = .ok (.invokevirtual 92, 3) := by decide +kernel
theorem dX6_dropQueue_32 : decode cX6_dropQueue 32 = .ok (.return_, 1) := by decide +kernel
theorem dX6_comeIn_0 : decode cX6_comeIn 0 = .ok (.aload_n 0, 1) := by decide +kernel
theorem dX6_comeIn_1 : decode cX6_comeIn 1 = .ok (.iload_n 1, 1) := by decide +kernel
theorem dX6_comeIn_2 : decode cX6_comeIn 2 = .ok (.iload_n 2, 1) := by decide +kernel
theorem dX6_comeIn_3 : decode cX6_comeIn 3 = .ok (.iload_n 3, 1) := by decide +kernel
theorem dX6_comeIn_4 : decode cX6_comeIn 4 = .ok (.invokevirtual 96, 3) := by decide +kernel
theorem dX6_comeIn_7 : decode cX6_comeIn 7 = .ok (.istore 5, 2) := by decide +kernel
theorem dX6_comeIn_9 : decode cX6_comeIn 9 = .ok (.aload_n 0, 1) := by decide +kernel
theorem dX6_comeIn_10 : decode cX6_comeIn 10 = .ok (.iload 5, 2) := by decide +kernel
theorem dX6_comeIn_12 : decode cX6_comeIn 12 = .ok (.iload_n 1, 1) := by decide +kernel
theorem dX6_comeIn_13 : decode cX6_comeIn 13 = .ok (.iload_n 3, 1) := by decide +kernel
theorem dX6_comeIn_14 : decode cX6_comeIn 14 = .ok (.invokevirtual 100, 3) := by decide +kernel
theorem dX6_comeIn_17 : decode cX6_comeIn 17 = .ok (.istore 6, 2) := by decide +kernel
theorem dX6_comeIn_19 : decode cX6_comeIn 19 = .ok (.iconst 0, 1) := by decide +kernel
theorem dX6_comeIn_20 : decode cX6_comeIn 20 = .ok (.istore 7, 2) := by decide +kernel
theorem dX6_comeIn_22 : decode cX6_comeIn 22 = .ok (.iload 7, 2) := by decide +kernel
theorem dX6_comeIn_24 : decode cX6_comeIn 24 = .ok (.bipush 8, 2) := by decide +kernel
theorem dX6_comeIn_26 : decode cX6_comeIn 26 = .ok (.if_icmp .ge 30, 3) := by decide +kernel
theorem dX6_comeIn_29 : decode cX6_comeIn 29 = .ok (.iload 6, 2) := by decide +kernel
theorem dX6_comeIn_31 : decode cX6_comeIn 31 = .ok (.iload 7, 2) := by decide +kernel
theorem dX6_comeIn_33 : decode cX6_comeIn 33 = .ok (.ishr, 1) := by decide +kernel
theorem dX6_comeIn_34 : decode cX6_comeIn 34 = .ok (.iconst 1, 1) := by decide +kernel
theorem dX6_comeIn_35 : decode cX6_comeIn 35 = .ok (.iand, 1) := by decide +kernel
theorem dX6_comeIn_36 : decode cX6_comeIn 36 = .ok (.iconst 1, 1) := by decide +kernel
theorem dX6_comeIn_37 : decode cX6_comeIn 37 = .ok (.if_icmp .ne 13, 3) := by decide +kernel
theorem dX6_comeIn_40 : decode cX6_comeIn 40 = .ok (.aload_n 0, 1) := by decide +kernel
theorem dX6_comeIn_41 : decode cX6_comeIn 41 = .ok (.iload 7, 2) := by decide +kernel
theorem dX6_comeIn_43 : decode cX6_comeIn 43 = .ok (.iload_n 2, 1) := by decide +kernel
theorem dX6_comeIn_44 : decode cX6_comeIn 44 = .ok (.iload_n 3, 1) := by decide +kernel
theorem dX6_comeIn_45 : decode cX6_comeIn 45 = .ok (.iload 4, 2) := by decide +kernel
theorem dX6_comeIn_47 : decode cX6_comeIn 47 = .ok (.invokevirtual 103, 3) := by decide +kernel
theorem dX6_comeIn_50 : decode cX6_comeIn 50 = .ok (.iinc 7 1, 3) := by decide +kernel
theorem dX6_comeIn_53 : decode cX6_comeIn 53 = .ok (.goto (-31), 3) := by decide +kernel
theorem dX6_comeIn_56 : decode cX6_comeIn 56 = .ok (.aload_n 0, 1) := by decide +kernel
theorem dX6_comeIn_57 : decode cX6_comeIn 57 = .ok (.getfield 27, 3) := by decide +kernel
theorem dX6_comeIn_60 : decode cX6_comeIn 60 = .ok (.iload_n 1, 1) := by decide +kernel
theorem dX6_comeIn_61 : decode cX6_comeIn 61 = .ok (.iconst 0, 1) := by decide +kernel
theorem dX6_comeIn_62 : decode cX6_comeIn 62 = .ok (.iconst 1, 1) := by decide +kernel
theorem dX6_comeIn_63 : decode cX6_comeIn 63 = .ok (.invokevirtual 92, 3) := by decide +kernel
theorem dX6_comeIn_66 : decode cX6_comeIn 66 = .ok (.aload_n 0, 1) := by decide +kernel
theorem dX6_comeIn_67 : decode cX6_comeIn 67 = .ok (.getfield 27, 3) := by decide +kernel
theorem dX6_comeIn_70 : decode cX6_comeIn 70 = .ok (.iload_n 1, 1) := by decide +kernel
theorem dX6_comeIn_71 : decode cX6_comeIn 71 = .ok (.iload 5, 2) := by decide +kernel
theorem dX6_comeIn_73 : decode cX6_comeIn 73 = .ok (.invokestatic 107, 3) := by decide +kernel
theorem dX6_comeIn_76 : decode cX6_comeIn 76 = .ok (.iconst 1, 1) := by decide +kernel
theorem dX6_comeIn_77 : decode cX6_comeIn 77 = .ok (.invokevirtual 92, 3) := by decide +kernel
theorem dX6_comeIn_80 : decode cX6_comeIn 80 = .ok (.iload 5, 2) := by decide +kernel
theorem dX6_comeIn_82 : decode cX6_comeIn 82 = .ok (.ireturn, 1) := by decide +kernel
theorem dX6_learnAndDecide_0 : decode cX6_learnAndDecide 0 = .ok (.aload_n 0, 1) := by decide +kernel
theorem dX6_learnAndDecide_1 : decode cX6_learnAndDecide 1 = .ok (.getfield 27, 3) := by decide +kernel
theorem dX6_learnAndDecide_4 : decode cX6_learnAndDecide 4 = .ok (.iload_n 1, 1) := by decide +kernel
theorem dX6_learnAndDecide_5 : decode cX6_learnAndDecide 5 = .ok (.invokevirtual 110, 3) := by decide +kernel
theorem dX6_learnAndDecide_8 : decode cX6_learnAndDecide 8 = .ok (.ifCond .ne 5, 3) := by decide +kernel
theorem dX6_learnAndDecide_11 : decode cX6_learnAndDecide 11 = .ok (.iconst 0, 1) := by decide +kernel
theorem dX6_learnAndDecide_12 : decode cX6_learnAndDecide 12 = .ok (.ireturn, 1) := by decide +kernel
theorem dX6_learnAndDecide_13 : decode cX6_learnAndDecide 13 = .ok (.aload_n 0, 1) := by decide +kernel
theorem dX6_learnAndDecide_14 : decode cX6_learnAndDecide 14 = .ok (.getfield 41, 3) := by decide +kernel
theorem dX6_learnAndDecide_17 : decode cX6_learnAndDecide 17 = .ok (.iload_n 2, 1) := by decide +kernel
theorem dX6_learnAndDecide_18 : decode cX6_learnAndDecide 18 = .ok (.invokevirtual 114, 3) := by decide +kernel
theorem dX6_learnAndDecide_21 : decode cX6_learnAndDecide 21 = .ok (.istore 4, 2) := by decide +kernel
theorem dX6_learnAndDecide_23 : decode cX6_learnAndDecide 23 = .ok (.aload_n 0, 1) := by decide +kernel
theorem dX6_learnAndDecide_24 : decode cX6_learnAndDecide 24 = .ok (.getfield 41, 3) := by decide +kernel
theorem dX6_learnAndDecide_27 : decode cX6_learnAndDecide 27 = .ok (.iload_n 2, 1) := by decide +kernel
theorem dX6_learnAndDecide_28 : decode cX6_learnAndDecide 28 = .ok (.iload_n 1, 1) := by decide +kernel
theorem dX6_learnAndDecide_29 : decode cX6_learnAndDecide 29 = .ok (.aload_n 0, 1) := by decide +kernel
theorem dX6_learnAndDecide_30 : decode cX6_learnAndDecide 30 = .ok (.getfield 72, 3) := by decide +kernel
theorem dX6_learnAndDecide_33 : decode cX6_learnAndDecide 33 = .ok (.invokevirtual 117, 3) := by decide +kernel
theorem dX6_learnAndDecide_36 : decode cX6_learnAndDecide 36 = .ok (.iload 4, 2) := by decide +kernel
theorem dX6_learnAndDecide_38 : decode cX6_learnAndDecide 38 = .ok (.bipush (-4), 2) := by decide +kernel
theorem dX6_learnAndDecide_40 : decode cX6_learnAndDecide 40 = .ok (.if_icmp .eq 41, 3) := by decide +kernel
theorem dX6_learnAndDecide_43 : decode cX6_learnAndDecide 43 = .ok (.iload 4, 2) := by decide +kernel
theorem dX6_learnAndDecide_45 : decode cX6_learnAndDecide 45 = .ok (.iload_n 1, 1) := by decide +kernel
theorem dX6_learnAndDecide_46 : decode cX6_learnAndDecide 46 = .ok (.if_icmp .eq 35, 3) := by decide +kernel
theorem dX6_learnAndDecide_49 : decode cX6_learnAndDecide 49 = .ok (.aload_n 0, 1) := by decide +kernel
theorem dX6_learnAndDecide_50 : decode cX6_learnAndDecide 50 = .ok (.getfield 48, 3) := by decide +kernel
theorem dX6_learnAndDecide_53 : decode cX6_learnAndDecide 53 = .ok (.iload_n 2, 1) := by decide +kernel
theorem dX6_learnAndDecide_54 : decode cX6_learnAndDecide 54 = .ok (.aload_n 0, 1) := by decide +kernel
theorem dX6_learnAndDecide_55 : decode cX6_learnAndDecide 55 = .ok (.getfield 72, 3) := by decide +kernel
theorem dX6_learnAndDecide_58 : decode cX6_learnAndDecide 58 = .ok (.invokevirtual 120, 3) := by decide +kernel
theorem dX6_learnAndDecide_61 : decode cX6_learnAndDecide 61 = .ok (.aload_n 0, 1) := by decide +kernel
theorem dX6_learnAndDecide_62 : decode cX6_learnAndDecide 62 = .ok (.getfield 48, 3) := by decide +kernel
theorem dX6_learnAndDecide_65 : decode cX6_learnAndDecide 65 = .ok (.iload_n 2, 1) := by decide +kernel
theorem dX6_learnAndDecide_66 : decode cX6_learnAndDecide 66 = .ok (.invokevirtual 123, 3) := by decide +kernel
theorem dX6_learnAndDecide_69 : decode cX6_learnAndDecide 69 = .ok (.iconst 3, 1) := by decide +kernel
theorem dX6_learnAndDecide_70 : decode cX6_learnAndDecide 70 = .ok (.if_icmp .lt 11, 3) := by decide +kernel
theorem dX6_learnAndDecide_73 : decode cX6_learnAndDecide 73 = .ok (.aload_n 0, 1) := by decide +kernel
theorem dX6_learnAndDecide_74 : decode cX6_learnAndDecide 74 = .ok (.iload_n 1, 1) := by decide +kernel
theorem dX6_learnAndDecide_75 : decode cX6_learnAndDecide 75 = .ok (.iconst 1, 1) := by decide +kernel
theorem dX6_learnAndDecide_76 : decode cX6_learnAndDecide 76 = .ok (.invokevirtual 126, 3) := by decide +kernel
theorem dX6_learnAndDecide_79 : decode cX6_learnAndDecide 79 = .ok (.iconst 4, 1) := by decide +kernel
theorem dX6_learnAndDecide_80 : decode cX6_learnAndDecide 80 = .ok (.ireturn, 1) := by decide +kernel
theorem dX6_learnAndDecide_81 : decode cX6_learnAndDecide 81 = .ok (.aload_n 0, 1) := by decide +kernel
theorem dX6_learnAndDecide_82 : decode cX6_learnAndDecide 82 = .ok (.getfield 41, 3) := by decide +kernel
theorem dX6_learnAndDecide_85 : decode cX6_learnAndDecide 85 = .ok (.iload_n 3, 1) := by decide +kernel
theorem dX6_learnAndDecide_86 : decode cX6_learnAndDecide 86 = .ok (.invokevirtual 114, 3) := by decide +kernel
theorem dX6_learnAndDecide_89 : decode cX6_learnAndDecide 89 = .ok (.istore 5, 2) := by decide +kernel
theorem dX6_learnAndDecide_91 : decode cX6_learnAndDecide 91 = .ok (.iload 5, 2) := by decide +kernel
theorem dX6_learnAndDecide_93 : decode cX6_learnAndDecide 93 = .ok (.iload_n 1, 1) := by decide +kernel
theorem dX6_learnAndDecide_94 : decode cX6_learnAndDecide 94 = .ok (.if_icmp .ne 5, 3) := by decide +kernel
theorem dX6_learnAndDecide_97 : decode cX6_learnAndDecide 97 = .ok (.iconst 1, 1) := by decide +kernel
theorem dX6_learnAndDecide_98 : decode cX6_learnAndDecide 98 = .ok (.ireturn, 1) := by decide +kernel
theorem dX6_learnAndDecide_99 : decode cX6_learnAndDecide 99 = .ok (.iload 5, 2) := by decide +kernel
theorem dX6_learnAndDecide_101 : decode cX6_learnAndDecide 101 = .ok (.bipush (-4), 2) := by decide +kernel
theorem dX6_learnAndDecide_103 : decode cX6_learnAndDecide 103 = .ok (.if_icmp .eq 22, 3) := by decide +kernel
theorem dX6_learnAndDecide_106 : decode cX6_learnAndDecide 106 = .ok (.aload_n 0, 1) := by decide +kernel
theorem dX6_learnAndDecide_107 : decode cX6_learnAndDecide 107 = .ok (.getfield 27, 3) := by decide +kernel
theorem dX6_learnAndDecide_110 : decode cX6_learnAndDecide 110 = .ok (.iload 5, 2) := by decide +kernel
theorem dX6_learnAndDecide_112 : decode cX6_learnAndDecide 112 = .ok (.invokevirtual 110, 3) := by decide +kernel
theorem dX6_learnAndDecide_115 : decode cX6_learnAndDecide 115 = .ok (.ifCond .eq 7, 3) := by decide +kernel
theorem dX6_learnAndDecide_118 : decode cX6_learnAndDecide 118 = .ok (.iconst 2, 1) := by decide +kernel
theorem dX6_learnAndDecide_119 : decode cX6_learnAndDecide 119 = .ok (.goto 5, 3) := by decide +kernel
theorem dX6_learnAndDecide_122 : decode cX6_learnAndDecide 122 = .ok (.bipush 6, 2) := by decide +kernel
theorem dX6_learnAndDecide_124 : decode cX6_learnAndDecide 124 = .ok (.ireturn, 1) := by decide +kernel
theorem dX6_learnAndDecide_125 : decode cX6_learnAndDecide 125 = .ok (.aload_n 0, 1) := by decide +kernel
theorem dX6_learnAndDecide_126 : decode cX6_learnAndDecide 126 = .ok (.getfield 27, 3) := by decide +kernel
theorem dX6_learnAndDecide_129 : decode cX6_learnAndDecide 129 = .ok (.getfield 129, 3) := by decide +kernel
theorem dX6_learnAndDecide_132 : decode cX6_learnAndDecide 132 = .ok (.iload_n 1, 1) := by decide +kernel
theorem dX6_learnAndDecide_133 : decode cX6_learnAndDecide 133 = .ok (.invokevirtual 85, 3) := by decide +kernel
theorem dX6_learnAndDecide_136 : decode cX6_learnAndDecide 136 = .ok (.aload_n 0, 1) := by decide +kernel
theorem dX6_learnAndDecide_137 : decode cX6_learnAndDecide 137 = .ok (.getfield 18, 3) := by decide +kernel
theorem dX6_learnAndDecide_140 : decode cX6_learnAndDecide 140 = .ok (.iconst 2, 1) := by decide +kernel
theorem dX6_learnAndDecide_141 : decode cX6_learnAndDecide 141 = .ok (.invokevirtual 85, 3) := by decide +kernel
theorem dX6_learnAndDecide_144 : decode cX6_learnAndDecide 144 = .ok (.if_icmp .lt 11, 3) := by decide +kernel
theorem dX6_learnAndDecide_147 : decode cX6_learnAndDecide 147 = .ok (.aload_n 0, 1) := by decide +kernel
theorem dX6_learnAndDecide_148 : decode cX6_learnAndDecide 148 = .ok (.iload_n 1, 1) := by decide +kernel
theorem dX6_learnAndDecide_149 : decode cX6_learnAndDecide 149 = .ok (.iconst 2, 1) := by decide +kernel
theorem dX6_learnAndDecide_150 : decode cX6_learnAndDecide 150 = .ok (.invokevirtual 126, 3) := by decide +kernel
theorem dX6_learnAndDecide_153 : decode cX6_learnAndDecide 153 = .ok (.iconst 5, 1) := by decide +kernel
theorem dX6_learnAndDecide_154 : decode cX6_learnAndDecide 154 = .ok (.ireturn, 1) := by decide +kernel
theorem dX6_learnAndDecide_155 : decode cX6_learnAndDecide 155 = .ok (.aload_n 0, 1) := by decide +kernel
theorem dX6_learnAndDecide_156 : decode cX6_learnAndDecide 156 = .ok (.getfield 27, 3) := by decide +kernel
theorem dX6_learnAndDecide_159 : decode cX6_learnAndDecide 159 = .ok (.getfield 129, 3) := by decide +kernel
theorem dX6_learnAndDecide_162 : decode cX6_learnAndDecide 162 = .ok (.iload_n 1, 1) := by decide +kernel
theorem dX6_learnAndDecide_163 : decode cX6_learnAndDecide 163 = .ok (.iconst 1, 1) := by decide +kernel
theorem dX6_learnAndDecide_164 : decode cX6_learnAndDecide 164 = .ok (.invokevirtual 132, 3) := by decide +kernel
theorem dX6_learnAndDecide_167 : decode cX6_learnAndDecide 167 = .ok (.iconst 3, 1) := by decide +kernel
theorem dX6_learnAndDecide_168 : decode cX6_learnAndDecide 168 = .ok (.ireturn, 1) := by decide +kernel
theorem dX6_quarantine_0 : decode cX6_quarantine 0 = .ok (.aload_n 0, 1) := by decide +kernel
theorem dX6_quarantine_1 : decode cX6_quarantine 1 = .ok (.getfield 27, 3) := by decide +kernel
theorem dX6_quarantine_4 : decode cX6_quarantine 4 = .ok (.iload_n 1, 1) := by decide +kernel
theorem dX6_quarantine_5 : decode cX6_quarantine 5 = .ok (.aload_n 0, 1) := by decide +kernel
theorem dX6_quarantine_6 : decode cX6_quarantine 6 = .ok (.getfield 18, 3) := by decide +kernel
theorem dX6_quarantine_9 : decode cX6_quarantine 9 = .ok (.iconst 1, 1) := by decide +kernel
theorem dX6_quarantine_10 : decode cX6_quarantine 10 = .ok (.invokevirtual 85, 3) := by decide +kernel
theorem dX6_quarantine_13 : decode cX6_quarantine 13 = .ok (.iload_n 2, 1) := by decide +kernel
theorem dX6_quarantine_14 : decode cX6_quarantine 14 = .ok (.invokevirtual 133, 3) := by decide +kernel
theorem dX6_quarantine_17 : decode cX6_quarantine 17 = .ok (.aload_n 0, 1) := by decide +kernel
theorem dX6_quarantine_18 : decode cX6_quarantine 18 = .ok (.getfield 41, 3) := by decide +kernel
theorem dX6_quarantine_21 : decode cX6_quarantine 21 = .ok (.iload_n 1, 1) := by decide +kernel
theorem dX6_quarantine_22 : decode cX6_quarantine 22 = .ok (.invokevirtual 136, 3) := by decide +kernel
theorem dX6_quarantine_25 : decode cX6_quarantine 25 = .ok (.aload_n 0, 1) := by decide +kernel
theorem dX6_quarantine_26 : decode cX6_quarantine 26 = .ok (.dup, 1) := by decide +kernel
theorem dX6_quarantine_27 : decode cX6_quarantine 27 = .ok (.getfield 79, 3) := by decide +kernel
theorem dX6_quarantine_30 : decode cX6_quarantine 30 = .ok (.iconst 1, 1) := by decide +kernel
theorem dX6_quarantine_31 : decode cX6_quarantine 31 = .ok (.iadd, 1) := by decide +kernel
theorem dX6_quarantine_32 : decode cX6_quarantine 32 = .ok (.putfield 79, 3) := by decide +kernel
theorem dX6_quarantine_35 : decode cX6_quarantine 35 = .ok (.return_, 1) := by decide +kernel
theorem dX6_waysOut_0 : decode cX6_waysOut 0 = .ok (.iload_n 1, 1) := by decide +kernel
theorem dX6_waysOut_1 : decode cX6_waysOut 1 = .ok (.iconst 2, 1) := by decide +kernel
theorem dX6_waysOut_2 : decode cX6_waysOut 2 = .ok (.if_icmp .ne 14, 3) := by decide +kernel
theorem dX6_waysOut_5 : decode cX6_waysOut 5 = .ok (.iconst 1, 1) := by decide +kernel
theorem dX6_waysOut_6 : decode cX6_waysOut 6 = .ok (.aload_n 0, 1) := by decide +kernel
theorem dX6_waysOut_7 : decode cX6_waysOut 7 = .ok (.getfield 41, 3) := by decide +kernel
theorem dX6_waysOut_10 : decode cX6_waysOut 10 = .ok (.iload_n 3, 1) := by decide +kernel
theorem dX6_waysOut_11 : decode cX6_waysOut 11 = .ok (.invokevirtual 114, 3) := by decide +kernel
theorem dX6_waysOut_14 : decode cX6_waysOut 14 = .ok (.ishl, 1) := by decide +kernel
theorem dX6_waysOut_15 : decode cX6_waysOut 15 = .ok (.ireturn, 1) := by decide +kernel
theorem dX6_waysOut_16 : decode cX6_waysOut 16 = .ok (.iload_n 1, 1) := by decide +kernel
theorem dX6_waysOut_17 : decode cX6_waysOut 17 = .ok (.iconst 3, 1) := by decide +kernel
theorem dX6_waysOut_18 : decode cX6_waysOut 18 = .ok (.if_icmp .ne 19, 3) := by decide +kernel
theorem dX6_waysOut_21 : decode cX6_waysOut 21 = .ok (.aload_n 0, 1) := by decide +kernel
theorem dX6_waysOut_22 : decode cX6_waysOut 22 = .ok (.getfield 27, 3) := by decide +kernel
theorem dX6_waysOut_25 : decode cX6_waysOut 25 = .ok (.invokevirtual 139, 3) := by decide +kernel
theorem dX6_waysOut_28 : decode cX6_waysOut 28 = .ok (.iconst 1, 1) := by decide +kernel
theorem dX6_waysOut_29 : decode cX6_waysOut 29 = .ok (.iload_n 2, 1) := by decide +kernel
theorem dX6_waysOut_30 : decode cX6_waysOut 30 = .ok (.ishl, 1) := by decide +kernel
theorem dX6_waysOut_31 : decode cX6_waysOut 31 = .ok (.iconst (-1), 1) := by decide +kernel
theorem dX6_waysOut_32 : decode cX6_waysOut 32 = .ok (.ixor, 1) := by decide +kernel
theorem dX6_waysOut_33 : decode cX6_waysOut 33 = .ok (.iand, 1) := by decide +kernel
theorem dX6_waysOut_34 : decode cX6_waysOut 34 = .ok (.goto 4, 3) := by decide +kernel
theorem dX6_waysOut_37 : decode cX6_waysOut 37 = .ok (.iconst 0, 1) := by decide +kernel
theorem dX6_waysOut_38 : decode cX6_waysOut 38 = .ok (.ireturn, 1) := by decide +kernel
theorem dX6_goOut_0 : decode cX6_goOut 0 = .ok (.aload_n 0, 1) := by decide +kernel
theorem dX6_goOut_1 : decode cX6_goOut 1 = .ok (.getfield 34, 3) := by decide +kernel
theorem dX6_goOut_4 : decode cX6_goOut 4 = .ok (.iload_n 1, 1) := by decide +kernel
theorem dX6_goOut_5 : decode cX6_goOut 5 = .ok (.invokevirtual 143, 3) := by decide +kernel
theorem dX6_goOut_8 : decode cX6_goOut 8 = .ok (.ifCond .eq 15, 3) := by decide +kernel
theorem dX6_goOut_11 : decode cX6_goOut 11 = .ok (.aload_n 0, 1) := by decide +kernel
theorem dX6_goOut_12 : decode cX6_goOut 12 = .ok (.getfield 27, 3) := by decide +kernel
theorem dX6_goOut_15 : decode cX6_goOut 15 = .ok (.iload_n 1, 1) := by decide +kernel
theorem dX6_goOut_16 : decode cX6_goOut 16 = .ok (.bipush 8, 2) := by decide +kernel
theorem dX6_goOut_18 : decode cX6_goOut 18 = .ok (.iconst 1, 1) := by decide +kernel
theorem dX6_goOut_19 : decode cX6_goOut 19 = .ok (.invokevirtual 92, 3) := by decide +kernel
theorem dX6_goOut_22 : decode cX6_goOut 22 = .ok (.return_, 1) := by decide +kernel
theorem dX6_goOut_23 : decode cX6_goOut 23 = .ok (.aload_n 0, 1) := by decide +kernel
theorem dX6_goOut_24 : decode cX6_goOut 24 = .ok (.getfield 34, 3) := by decide +kernel
theorem dX6_goOut_27 : decode cX6_goOut 27 = .ok (.iload_n 1, 1) := by decide +kernel
theorem dX6_goOut_28 : decode cX6_goOut 28 = .ok (.iload_n 2, 1) := by decide +kernel
theorem dX6_goOut_29 : decode cX6_goOut 29 = .ok (.iload_n 3, 1) := by decide +kernel
theorem dX6_goOut_30 : decode cX6_goOut 30 = .ok (.iload 4, 2) := by decide +kernel
theorem dX6_goOut_32 : decode cX6_goOut 32 = .ok (.aload_n 0, 1) := by decide +kernel
theorem dX6_goOut_33 : decode cX6_goOut 33 = .ok (.getfield 76, 3) := by decide +kernel
theorem dX6_goOut_36 : decode cX6_goOut 36 = .ok (.invokevirtual 146, 3) := by decide +kernel
theorem dX6_goOut_39 : decode cX6_goOut 39 = .ok (.aload_n 0, 1) := by decide +kernel
theorem dX6_goOut_40 : decode cX6_goOut 40 = .ok (.getfield 27, 3) := by decide +kernel
theorem dX6_goOut_43 : decode cX6_goOut 43 = .ok (.iload_n 1, 1) := by decide +kernel
theorem dX6_goOut_44 : decode cX6_goOut 44 = .ok (.bipush 7, 2) := by decide +kernel
theorem dX6_goOut_46 : decode cX6_goOut 46 = .ok (.iconst 1, 1) := by decide +kernel
theorem dX6_goOut_47 : decode cX6_goOut 47 = .ok (.invokevirtual 92, 3) := by decide +kernel
theorem dX6_goOut_50 : decode cX6_goOut 50 = .ok (.aload_n 0, 1) := by decide +kernel
theorem dX6_goOut_51 : decode cX6_goOut 51 = .ok (.dup, 1) := by decide +kernel
theorem dX6_goOut_52 : decode cX6_goOut 52 = .ok (.getfield 76, 3) := by decide +kernel
theorem dX6_goOut_55 : decode cX6_goOut 55 = .ok (.iconst 1, 1) := by decide +kernel
theorem dX6_goOut_56 : decode cX6_goOut 56 = .ok (.iadd, 1) := by decide +kernel
theorem dX6_goOut_57 : decode cX6_goOut 57 = .ok (.putfield 76, 3) := by decide +kernel
theorem dX6_goOut_60 : decode cX6_goOut 60 = .ok (.return_, 1) := by decide +kernel
theorem dX6_accountOf_0 : decode cX6_accountOf 0 = .ok (.iload_n 0, 1) := by decide +kernel
theorem dX6_accountOf_1 : decode cX6_accountOf 1 = .ok (.bipush 6, 2) := by decide +kernel
theorem dX6_accountOf_3 : decode cX6_accountOf 3 = .ok (.if_icmp .ne 6, 3) := by decide +kernel
theorem dX6_accountOf_6 : decode cX6_accountOf 6 = .ok (.bipush 6, 2) := by decide +kernel
theorem dX6_accountOf_8 : decode cX6_accountOf 8 = .ok (.ireturn, 1) := by decide +kernel
theorem dX6_accountOf_9 : decode cX6_accountOf 9 = .ok (.iload_n 0, 1) := by decide +kernel
theorem dX6_accountOf_10 : decode cX6_accountOf 10 = .ok (.iconst 4, 1) := by decide +kernel
theorem dX6_accountOf_11 : decode cX6_accountOf 11 = .ok (.if_icmp .eq 8, 3) := by decide +kernel
theorem dX6_accountOf_14 : decode cX6_accountOf 14 = .ok (.iload_n 0, 1) := by decide +kernel
theorem dX6_accountOf_15 : decode cX6_accountOf 15 = .ok (.iconst 5, 1) := by decide +kernel
theorem dX6_accountOf_16 : decode cX6_accountOf 16 = .ok (.if_icmp .ne 7, 3) := by decide +kernel
theorem dX6_accountOf_19 : decode cX6_accountOf 19 = .ok (.iconst 5, 1) := by decide +kernel
theorem dX6_accountOf_20 : decode cX6_accountOf 20 = .ok (.goto 6, 3) := by decide +kernel
theorem dX6_accountOf_23 : decode cX6_accountOf 23 = .ok (.iload_n 0, 1) := by decide +kernel
theorem dX6_accountOf_24 : decode cX6_accountOf 24 = .ok (.iconst 1, 1) := by decide +kernel
theorem dX6_accountOf_25 : decode cX6_accountOf 25 = .ok (.iadd, 1) := by decide +kernel
theorem dX6_accountOf_26 : decode cX6_accountOf 26 = .ok (.ireturn, 1) := by decide +kernel
theorem dX6_letIn_0 : decode cX6_letIn 0 = .ok (.iconst 0, 1) := by decide +kernel
theorem dX6_letIn_1 : decode cX6_letIn 1 = .ok (.istore_n 2, 1) := by decide +kernel
theorem dX6_letIn_2 : decode cX6_letIn 2 = .ok (.iconst 0, 1) := by decide +kernel
theorem dX6_letIn_3 : decode cX6_letIn 3 = .ok (.istore_n 3, 1) := by decide +kernel
theorem dX6_letIn_4 : decode cX6_letIn 4 = .ok (.iload_n 3, 1) := by decide +kernel
theorem dX6_letIn_5 : decode cX6_letIn 5 = .ok (.aload_n 1, 1) := by decide +kernel
theorem dX6_letIn_6 : decode cX6_letIn 6 = .ok (.getfield 150, 3) := by decide +kernel
theorem dX6_letIn_9 : decode cX6_letIn 9 = .ok (.if_icmp .ge 47, 3) := by decide +kernel
theorem dX6_letIn_12 : decode cX6_letIn 12 = .ok (.aload_n 0, 1) := by decide +kernel
theorem dX6_letIn_13 : decode cX6_letIn 13 = .ok (.aload_n 1, 1) := by decide +kernel
theorem dX6_letIn_14 : decode cX6_letIn 14 = .ok (.iload_n 3, 1) := by decide +kernel
theorem dX6_letIn_15 : decode cX6_letIn 15 = .ok (.iconst 3, 1) := by decide +kernel
theorem dX6_letIn_16 : decode cX6_letIn 16 = .ok (.invokevirtual 155, 3) := by decide +kernel
theorem dX6_letIn_19 : decode cX6_letIn 19 = .ok (.aload_n 1, 1) := by decide +kernel
theorem dX6_letIn_20 : decode cX6_letIn 20 = .ok (.iload_n 3, 1) := by decide +kernel
theorem dX6_letIn_21 : decode cX6_letIn 21 = .ok (.iconst 0, 1) := by decide +kernel
theorem dX6_letIn_22 : decode cX6_letIn 22 = .ok (.invokevirtual 155, 3) := by decide +kernel
theorem dX6_letIn_25 : decode cX6_letIn 25 = .ok (.aload_n 1, 1) := by decide +kernel
theorem dX6_letIn_26 : decode cX6_letIn 26 = .ok (.iload_n 3, 1) := by decide +kernel
theorem dX6_letIn_27 : decode cX6_letIn 27 = .ok (.iconst 1, 1) := by decide +kernel
theorem dX6_letIn_28 : decode cX6_letIn 28 = .ok (.invokevirtual 155, 3) := by decide +kernel
theorem dX6_letIn_31 : decode cX6_letIn 31 = .ok (.aload_n 1, 1) := by decide +kernel
theorem dX6_letIn_32 : decode cX6_letIn 32 = .ok (.iload_n 3, 1) := by decide +kernel
theorem dX6_letIn_33 : decode cX6_letIn 33 = .ok (.iconst 2, 1) := by decide +kernel
theorem dX6_letIn_34 : decode cX6_letIn 34 = .ok (.invokevirtual 155, 3) := by decide +kernel
theorem dX6_letIn_37 : decode cX6_letIn 37 = .ok (.invokevirtual 159, 3) := by decide +kernel
theorem dX6_letIn_40 : decode cX6_letIn 40 = .ok (.istore 4, 2) := by decide +kernel
theorem dX6_letIn_42 : decode cX6_letIn 42 = .ok (.iload 4, 2) := by decide +kernel
theorem dX6_letIn_44 : decode cX6_letIn 44 = .ok (.ifCond .eq 6, 3) := by decide +kernel
theorem dX6_letIn_47 : decode cX6_letIn 47 = .ok (.iinc 2 1, 3) := by decide +kernel
theorem dX6_letIn_50 : decode cX6_letIn 50 = .ok (.iinc 3 1, 3) := by decide +kernel
theorem dX6_letIn_53 : decode cX6_letIn 53 = .ok (.goto (-49), 3) := by decide +kernel
theorem dX6_letIn_56 : decode cX6_letIn 56 = .ok (.iload_n 2, 1) := by decide +kernel
theorem dX6_letIn_57 : decode cX6_letIn 57 = .ok (.ireturn, 1) := by decide +kernel
theorem dX6_sendInto_0 : decode cX6_sendInto 0 = .ok (.aload_n 1, 1) := by decide +kernel
theorem dX6_sendInto_1 : decode cX6_sendInto 1 = .ok (.iconst 0, 1) := by decide +kernel
theorem dX6_sendInto_2 : decode cX6_sendInto 2 = .ok (.putfield 150, 3) := by decide +kernel
theorem dX6_sendInto_5 : decode cX6_sendInto 5 = .ok (.iconst 0, 1) := by decide +kernel
theorem dX6_sendInto_6 : decode cX6_sendInto 6 = .ok (.istore_n 2, 1) := by decide +kernel
theorem dX6_sendInto_7 : decode cX6_sendInto 7 = .ok (.iconst 0, 1) := by decide +kernel
theorem dX6_sendInto_8 : decode cX6_sendInto 8 = .ok (.istore_n 3, 1) := by decide +kernel
theorem dX6_sendInto_9 : decode cX6_sendInto 9 = .ok (.iload_n 3, 1) := by decide +kernel
theorem dX6_sendInto_10 : decode cX6_sendInto 10 = .ok (.bipush 8, 2) := by decide +kernel
theorem dX6_sendInto_12 : decode cX6_sendInto 12 = .ok (.if_icmp .ge 29, 3) := by decide +kernel
theorem dX6_sendInto_15 : decode cX6_sendInto 15 = .ok (.aload_n 0, 1) := by decide +kernel
theorem dX6_sendInto_16 : decode cX6_sendInto 16 = .ok (.getfield 27, 3) := by decide +kernel
theorem dX6_sendInto_19 : decode cX6_sendInto 19 = .ok (.iload_n 3, 1) := by decide +kernel
theorem dX6_sendInto_20 : decode cX6_sendInto 20 = .ok (.invokevirtual 110, 3) := by decide +kernel
theorem dX6_sendInto_23 : decode cX6_sendInto 23 = .ok (.ifCond .eq 12, 3) := by decide +kernel
theorem dX6_sendInto_26 : decode cX6_sendInto 26 = .ok (.iload_n 2, 1) := by decide +kernel
theorem dX6_sendInto_27 : decode cX6_sendInto 27 = .ok (.aload_n 0, 1) := by decide +kernel
theorem dX6_sendInto_28 : decode cX6_sendInto 28 = .ok (.iload_n 3, 1) := by decide +kernel
theorem dX6_sendInto_29 : decode cX6_sendInto 29 = .ok (.aload_n 1, 1) := by decide +kernel
theorem dX6_sendInto_30 : decode cX6_sendInto 30 = .ok (.invokevirtual 163, 3) := by decide +kernel
theorem dX6_sendInto_33 : decode cX6_sendInto 33 = .ok (.iadd, 1) := by decide +kernel
theorem dX6_sendInto_34 : decode cX6_sendInto 34 = .ok (.istore_n 2, 1) := by decide +kernel
theorem dX6_sendInto_35 : decode cX6_sendInto 35 = .ok (.iinc 3 1, 3) := by decide +kernel
theorem dX6_sendInto_38 : decode cX6_sendInto 38 = .ok (.goto (-29), 3) := by decide +kernel
theorem dX6_sendInto_41 : decode cX6_sendInto 41 = .ok (.iload_n 2, 1) := by decide +kernel
theorem dX6_sendInto_42 : decode cX6_sendInto 42 = .ok (.ireturn, 1) := by decide +kernel
theorem dX6_sendFrom_0 : decode cX6_sendFrom 0 = .ok (.aload_n 0, 1) := by decide +kernel
theorem dX6_sendFrom_1 : decode cX6_sendFrom 1 = .ok (.getfield 18, 3) := by decide +kernel
theorem dX6_sendFrom_4 : decode cX6_sendFrom 4 = .ok (.iconst 3, 1) := by decide +kernel
theorem dX6_sendFrom_5 : decode cX6_sendFrom 5 = .ok (.invokevirtual 85, 3) := by decide +kernel
theorem dX6_sendFrom_8 : decode cX6_sendFrom 8 = .ok (.aload_n 0, 1) := by decide +kernel
theorem dX6_sendFrom_9 : decode cX6_sendFrom 9 = .ok (.getfield 34, 3) := by decide +kernel
theorem dX6_sendFrom_12 : decode cX6_sendFrom 12 = .ok (.getfield 82, 3) := by decide +kernel
theorem dX6_sendFrom_15 : decode cX6_sendFrom 15 = .ok (.iload_n 1, 1) := by decide +kernel
theorem dX6_sendFrom_16 : decode cX6_sendFrom 16 = .ok (.invokevirtual 85, 3) := by decide +kernel
theorem dX6_sendFrom_19 : decode cX6_sendFrom 19 = .ok (.invokestatic 167, 3) := by decide +kernel
theorem dX6_sendFrom_22 : decode cX6_sendFrom 22 = .ok (.istore_n 3, 1) := by decide +kernel
theorem dX6_sendFrom_23 : decode cX6_sendFrom 23 = .ok (.aload_n 0, 1) := by decide +kernel
theorem dX6_sendFrom_24 : decode cX6_sendFrom 24 = .ok (.getfield 27, 3) := by decide +kernel
theorem dX6_sendFrom_27 : decode cX6_sendFrom 27 = .ok (.iload_n 1, 1) := by decide +kernel
theorem dX6_sendFrom_28 : decode cX6_sendFrom 28 = .ok (.invokevirtual 172, 3) := by decide +kernel
theorem dX6_sendFrom_31 : decode cX6_sendFrom 31 = .ok (.istore 4, 2) := by decide +kernel
theorem dX6_sendFrom_33 : decode cX6_sendFrom 33 = .ok (.iconst 0, 1) := by decide +kernel
theorem dX6_sendFrom_34 : decode cX6_sendFrom 34 = .ok (.istore 5, 2) := by decide +kernel
theorem dX6_sendFrom_36 : decode cX6_sendFrom 36 = .ok (.iload 5, 2) := by decide +kernel
theorem dX6_sendFrom_38 : decode cX6_sendFrom 38 = .ok (.iload_n 3, 1) := by decide +kernel
theorem dX6_sendFrom_39 : decode cX6_sendFrom 39 = .ok (.if_icmp .ge 55, 3) := by decide +kernel
theorem dX6_sendFrom_42 : decode cX6_sendFrom 42 = .ok (.iload 4, 2) := by decide +kernel
theorem dX6_sendFrom_44 : decode cX6_sendFrom 44 = .ok (.bipush (-4), 2) := by decide +kernel
theorem dX6_sendFrom_46 : decode cX6_sendFrom 46 = .ok (.if_icmp .eq 48, 3) := by decide +kernel
theorem dX6_sendFrom_49 : decode cX6_sendFrom 49 = .ok (.aload_n 2, 1) := by decide +kernel
theorem dX6_sendFrom_50 : decode cX6_sendFrom 50 = .ok (.iload 4, 2) := by decide +kernel
theorem dX6_sendFrom_52 : decode cX6_sendFrom 52 = .ok (.aload_n 0, 1) := by decide +kernel
theorem dX6_sendFrom_53 : decode cX6_sendFrom 53 = .ok (.getfield 34, 3) := by decide +kernel
theorem dX6_sendFrom_56 : decode cX6_sendFrom 56 = .ok (.iload_n 1, 1) := by decide +kernel
theorem dX6_sendFrom_57 : decode cX6_sendFrom 57 = .ok (.iload 5, 2) := by decide +kernel
theorem dX6_sendFrom_59 : decode cX6_sendFrom 59 = .ok (.iconst 0, 1) := by decide +kernel
theorem dX6_sendFrom_60 : decode cX6_sendFrom 60 = .ok (.invokevirtual 175, 3) := by decide +kernel
theorem dX6_sendFrom_63 : decode cX6_sendFrom 63 = .ok (.aload_n 0, 1) := by decide +kernel
theorem dX6_sendFrom_64 : decode cX6_sendFrom 64 = .ok (.getfield 34, 3) := by decide +kernel
theorem dX6_sendFrom_67 : decode cX6_sendFrom 67 = .ok (.iload_n 1, 1) := by decide +kernel
theorem dX6_sendFrom_68 : decode cX6_sendFrom 68 = .ok (.iload 5, 2) := by decide +kernel
theorem dX6_sendFrom_70 : decode cX6_sendFrom 70 = .ok (.iconst 1, 1) := by decide +kernel
theorem dX6_sendFrom_71 : decode cX6_sendFrom 71 = .ok (.invokevirtual 175, 3) := by decide +kernel
theorem dX6_sendFrom_74 : decode cX6_sendFrom 74 = .ok (.aload_n 0, 1) := by decide +kernel
theorem dX6_sendFrom_75 : decode cX6_sendFrom 75 = .ok (.getfield 34, 3) := by decide +kernel
theorem dX6_sendFrom_78 : decode cX6_sendFrom 78 = .ok (.iload_n 1, 1) := by decide +kernel
theorem dX6_sendFrom_79 : decode cX6_sendFrom 79 = .ok (.iload 5, 2) := by decide +kernel
theorem dX6_sendFrom_81 : decode cX6_sendFrom 81 = .ok (.iconst 2, 1) := by decide +kernel
theorem dX6_sendFrom_82 : decode cX6_sendFrom 82 = .ok (.invokevirtual 175, 3) := by decide +kernel
theorem dX6_sendFrom_85 : decode cX6_sendFrom 85 = .ok (.invokevirtual 177, 3) := by decide +kernel
theorem dX6_sendFrom_88 : decode cX6_sendFrom 88 = .ok (.iinc 5 1, 3) := by decide +kernel
theorem dX6_sendFrom_91 : decode cX6_sendFrom 91 = .ok (.goto (-55), 3) := by decide +kernel
theorem dX6_sendFrom_94 : decode cX6_sendFrom 94 = .ok (.aload_n 0, 1) := by decide +kernel
theorem dX6_sendFrom_95 : decode cX6_sendFrom 95 = .ok (.getfield 34, 3) := by decide +kernel
theorem dX6_sendFrom_98 : decode cX6_sendFrom 98 = .ok (.iload_n 1, 1) := by decide +kernel
theorem dX6_sendFrom_99 : decode cX6_sendFrom 99 = .ok (.iload_n 3, 1) := by decide +kernel
theorem dX6_sendFrom_100 : decode cX6_sendFrom 100 = .ok (.invokevirtual 89, 3) := by decide +kernel
theorem dX6_sendFrom_103 : decode cX6_sendFrom 103 = .ok (.aload_n 0, 1) := by decide +kernel
theorem dX6_sendFrom_104 : decode cX6_sendFrom 104 = .ok (.getfield 27, 3) := by decide +kernel
theorem dX6_sendFrom_107 : decode cX6_sendFrom 107 = .ok (.iload_n 1, 1) := by decide +kernel
theorem dX6_sendFrom_108 : decode cX6_sendFrom 108 = .ok (.bipush 9, 2) := by decide +kernel
theorem dX6_sendFrom_110 : decode cX6_sendFrom 110 = .ok (.iload_n 3, 1) := by decide +kernel
theorem dX6_sendFrom_111 : decode cX6_sendFrom 111 = .ok (.invokevirtual 92, 3) := by decide +kernel
theorem dX6_sendFrom_114 : decode cX6_sendFrom 114 = .ok (.iload 4, 2) := by decide +kernel
theorem dX6_sendFrom_116 : decode cX6_sendFrom 116 = .ok (.bipush (-4), 2) := by decide +kernel
theorem dX6_sendFrom_118 : decode cX6_sendFrom 118 = .ok (.if_icmp .ne 14, 3) := by decide +kernel
theorem dX6_sendFrom_121 : decode cX6_sendFrom 121 = .ok (.aload_n 0, 1) := by decide +kernel
theorem dX6_sendFrom_122 : decode cX6_sendFrom 122 = .ok (.getfield 27, 3) := by decide +kernel
theorem dX6_sendFrom_125 : decode cX6_sendFrom 125 = .ok (.iload_n 1, 1) := by decide +kernel
theorem dX6_sendFrom_126 : decode cX6_sendFrom 126 = .ok (.bipush 10, 2) := by decide +kernel
theorem dX6_sendFrom_128 : decode cX6_sendFrom 128 = .ok (.iload_n 3, 1) := by decide +kernel
theorem dX6_sendFrom_129 : decode cX6_sendFrom 129 = .ok (.invokevirtual 92, 3) := by decide +kernel
theorem dX6_sendFrom_132 : decode cX6_sendFrom 132 = .ok (.iload_n 3, 1) := by decide +kernel
theorem dX6_sendFrom_133 : decode cX6_sendFrom 133 = .ok (.ireturn, 1) := by decide +kernel
theorem dX6_endSecond_0 : decode cX6_endSecond 0 = .ok (.aload_n 0, 1) := by decide +kernel
theorem dX6_endSecond_1 : decode cX6_endSecond 1 = .ok (.dup, 1) := by decide +kernel
theorem dX6_endSecond_2 : decode cX6_endSecond 2 = .ok (.getfield 72, 3) := by decide +kernel
theorem dX6_endSecond_5 : decode cX6_endSecond 5 = .ok (.iconst 1, 1) := by decide +kernel
theorem dX6_endSecond_6 : decode cX6_endSecond 6 = .ok (.iadd, 1) := by decide +kernel
theorem dX6_endSecond_7 : decode cX6_endSecond 7 = .ok (.putfield 72, 3) := by decide +kernel
theorem dX6_endSecond_10 : decode cX6_endSecond 10 = .ok (.aload_n 0, 1) := by decide +kernel
theorem dX6_endSecond_11 : decode cX6_endSecond 11 = .ok (.getfield 27, 3) := by decide +kernel
theorem dX6_endSecond_14 : decode cX6_endSecond 14 = .ok (.invokevirtual 180, 3) := by decide +kernel
theorem dX6_endSecond_17 : decode cX6_endSecond 17 = .ok (.aload_n 0, 1) := by decide +kernel
theorem dX6_endSecond_18 : decode cX6_endSecond 18 = .ok (.getfield 41, 3) := by decide +kernel
theorem dX6_endSecond_21 : decode cX6_endSecond 21 = .ok (.aload_n 0, 1) := by decide +kernel
theorem dX6_endSecond_22 : decode cX6_endSecond 22 = .ok (.getfield 72, 3) := by decide +kernel
theorem dX6_endSecond_25 : decode cX6_endSecond 25 = .ok (.aload_n 0, 1) := by decide +kernel
theorem dX6_endSecond_26 : decode cX6_endSecond 26 = .ok (.getfield 18, 3) := by decide +kernel
theorem dX6_endSecond_29 : decode cX6_endSecond 29 = .ok (.iconst 0, 1) := by decide +kernel
theorem dX6_endSecond_30 : decode cX6_endSecond 30 = .ok (.invokevirtual 85, 3) := by decide +kernel
theorem dX6_endSecond_33 : decode cX6_endSecond 33 = .ok (.isub, 1) := by decide +kernel
theorem dX6_endSecond_34 : decode cX6_endSecond 34 = .ok (.invokevirtual 183, 3) := by decide +kernel
theorem dX6_endSecond_37 : decode cX6_endSecond 37 = .ok (.aload_n 0, 1) := by decide +kernel
theorem dX6_endSecond_38 : decode cX6_endSecond 38 = .ok (.getfield 48, 3) := by decide +kernel
theorem dX6_endSecond_41 : decode cX6_endSecond 41 = .ok (.aload_n 0, 1) := by decide +kernel
theorem dX6_endSecond_42 : decode cX6_endSecond 42 = .ok (.getfield 72, 3) := by decide +kernel
theorem dX6_endSecond_45 : decode cX6_endSecond 45 = .ok (.invokevirtual 186, 3) := by decide +kernel
theorem dX6_endSecond_48 : decode cX6_endSecond 48 = .ok (.return_, 1) := by decide +kernel
theorem dX7_init_0 : decode cX7_init 0 = .ok (.aload_n 0, 1) := by decide +kernel
theorem dX7_init_1 : decode cX7_init 1 = .ok (.invokespecial 3, 3) := by decide +kernel
theorem dX7_init_4 : decode cX7_init 4 = .ok (.aload_n 0, 1) := by decide +kernel
theorem dX7_init_5 : decode cX7_init 5 = .ok (.new 9, 3) := by decide +kernel
theorem dX7_init_8 : decode cX7_init 8 = .ok (.dup, 1) := by decide +kernel
theorem dX7_init_9 : decode cX7_init 9 = .ok (.bipush 100, 2) := by decide +kernel
theorem dX7_init_11 : decode cX7_init 11 = .ok (.invokespecial 11, 3) := by decide +kernel
theorem dX7_init_14 : decode cX7_init 14 = .ok (.putfield 14, 3) := by decide +kernel
theorem dX7_init_17 : decode cX7_init 17 = .ok (.aload_n 0, 1) := by decide +kernel
theorem dX7_init_18 : decode cX7_init 18 = .ok (.new 9, 3) := by decide +kernel
theorem dX7_init_21 : decode cX7_init 21 = .ok (.dup, 1) := by decide +kernel
theorem dX7_init_22 : decode cX7_init 22 = .ok (.bipush 100, 2) := by decide +kernel
theorem dX7_init_24 : decode cX7_init 24 = .ok (.invokespecial 11, 3) := by decide +kernel
theorem dX7_init_27 : decode cX7_init 27 = .ok (.putfield 20, 3) := by decide +kernel
theorem dX7_init_30 : decode cX7_init 30 = .ok (.aload_n 0, 1) := by decide +kernel
theorem dX7_init_31 : decode cX7_init 31 = .ok (.getfield 14, 3) := by decide +kernel
theorem dX7_init_34 : decode cX7_init 34 = .ok (.iconst 0, 1) := by decide +kernel
theorem dX7_init_35 : decode cX7_init 35 = .ok (.bipush 100, 2) := by decide +kernel
theorem dX7_init_37 : decode cX7_init 37 = .ok (.bipush (-4), 2) := by decide +kernel
theorem dX7_init_39 : decode cX7_init 39 = .ok (.invokevirtual 23, 3) := by decide +kernel
theorem dX7_init_42 : decode cX7_init 42 = .ok (.return_, 1) := by decide +kernel
theorem dX7_copyFrom_0 : decode cX7_copyFrom 0 = .ok (.aload_n 0, 1) := by decide +kernel
theorem dX7_copyFrom_1 : decode cX7_copyFrom 1 = .ok (.getfield 14, 3) := by decide +kernel
theorem dX7_copyFrom_4 : decode cX7_copyFrom 4 = .ok (.aload_n 1, 1) := by decide +kernel
theorem dX7_copyFrom_5 : decode cX7_copyFrom 5 = .ok (.getfield 14, 3) := by decide +kernel
theorem dX7_copyFrom_8 : decode cX7_copyFrom 8 = .ok (.invokevirtual 27, 3) := by decide +kernel
theorem dX7_copyFrom_11 : decode cX7_copyFrom 11 = .ok (.aload_n 0, 1) := by decide +kernel
theorem dX7_copyFrom_12 : decode cX7_copyFrom 12 = .ok (.getfield 20, 3) := by decide +kernel
theorem dX7_copyFrom_15 : decode cX7_copyFrom 15 = .ok (.aload_n 1, 1) := by decide +kernel
theorem dX7_copyFrom_16 : decode cX7_copyFrom 16 = .ok (.getfield 20, 3) := by decide +kernel
theorem dX7_copyFrom_19 : decode cX7_copyFrom 19 = .ok (.invokevirtual 27, 3) := by decide +kernel
theorem dX7_copyFrom_22 : decode cX7_copyFrom 22 = .ok (.aload_n 0, 1) := by decide +kernel
theorem dX7_copyFrom_23 : decode cX7_copyFrom 23 = .ok (.aload_n 1, 1) := by decide +kernel
theorem dX7_copyFrom_24 : decode cX7_copyFrom 24 = .ok (.getfield 31, 3) := by decide +kernel
theorem dX7_copyFrom_27 : decode cX7_copyFrom 27 = .ok (.putfield 31, 3) := by decide +kernel
theorem dX7_copyFrom_30 : decode cX7_copyFrom 30 = .ok (.return_, 1) := by decide +kernel
theorem dX7_portOf_0 : decode cX7_portOf 0 = .ok (.aload_n 0, 1) := by decide +kernel
theorem dX7_portOf_1 : decode cX7_portOf 1 = .ok (.getfield 14, 3) := by decide +kernel
theorem dX7_portOf_4 : decode cX7_portOf 4 = .ok (.iload_n 1, 1) := by decide +kernel
theorem dX7_portOf_5 : decode cX7_portOf 5 = .ok (.invokevirtual 35, 3) := by decide +kernel
theorem dX7_portOf_8 : decode cX7_portOf 8 = .ok (.ireturn, 1) := by decide +kernel
theorem dX7_learn_0 : decode cX7_learn 0 = .ok (.aload_n 0, 1) := by decide +kernel
theorem dX7_learn_1 : decode cX7_learn 1 = .ok (.getfield 14, 3) := by decide +kernel
theorem dX7_learn_4 : decode cX7_learn 4 = .ok (.iload_n 1, 1) := by decide +kernel
theorem dX7_learn_5 : decode cX7_learn 5 = .ok (.invokevirtual 35, 3) := by decide +kernel
theorem dX7_learn_8 : decode cX7_learn 8 = .ok (.bipush (-4), 2) := by decide +kernel
theorem dX7_learn_10 : decode cX7_learn 10 = .ok (.if_icmp .ne 30, 3) := by decide +kernel
theorem dX7_learn_13 : decode cX7_learn 13 = .ok (.aload_n 0, 1) := by decide +kernel
theorem dX7_learn_14 : decode cX7_learn 14 = .ok (.getfield 31, 3) := by decide +kernel
theorem dX7_learn_17 : decode cX7_learn 17 = .ok (.bipush 20, 2) := by decide +kernel
theorem dX7_learn_19 : decode cX7_learn 19 = .ok (.if_icmp .lt 11, 3) := by decide +kernel
theorem dX7_learn_22 : decode cX7_learn 22 = .ok (.aload_n 0, 1) := by decide +kernel
theorem dX7_learn_23 : decode cX7_learn 23 = .ok (.aload_n 0, 1) := by decide +kernel
theorem dX7_learn_24 : decode cX7_learn 24 = .ok (.invokevirtual 39, 3) := by decide +kernel
theorem dX7_learn_27 : decode cX7_learn 27 = .ok (.invokevirtual 43, 3) := by decide +kernel
theorem dX7_learn_30 : decode cX7_learn 30 = .ok (.aload_n 0, 1) := by decide +kernel
theorem dX7_learn_31 : decode cX7_learn 31 = .ok (.dup, 1) := by decide +kernel
theorem dX7_learn_32 : decode cX7_learn 32 = .ok (.getfield 31, 3) := by decide +kernel
theorem dX7_learn_35 : decode cX7_learn 35 = .ok (.iconst 1, 1) := by decide +kernel
theorem dX7_learn_36 : decode cX7_learn 36 = .ok (.iadd, 1) := by decide +kernel
theorem dX7_learn_37 : decode cX7_learn 37 = .ok (.putfield 31, 3) := by decide +kernel
theorem dX7_learn_40 : decode cX7_learn 40 = .ok (.aload_n 0, 1) := by decide +kernel
theorem dX7_learn_41 : decode cX7_learn 41 = .ok (.getfield 14, 3) := by decide +kernel
theorem dX7_learn_44 : decode cX7_learn 44 = .ok (.iload_n 1, 1) := by decide +kernel
theorem dX7_learn_45 : decode cX7_learn 45 = .ok (.iload_n 2, 1) := by decide +kernel
theorem dX7_learn_46 : decode cX7_learn 46 = .ok (.invokevirtual 46, 3) := by decide +kernel
theorem dX7_learn_49 : decode cX7_learn 49 = .ok (.aload_n 0, 1) := by decide +kernel
theorem dX7_learn_50 : decode cX7_learn 50 = .ok (.getfield 20, 3) := by decide +kernel
theorem dX7_learn_53 : decode cX7_learn 53 = .ok (.iload_n 1, 1) := by decide +kernel
theorem dX7_learn_54 : decode cX7_learn 54 = .ok (.iload_n 3, 1) := by decide +kernel
theorem dX7_learn_55 : decode cX7_learn 55 = .ok (.invokevirtual 46, 3) := by decide +kernel
theorem dX7_learn_58 : decode cX7_learn 58 = .ok (.return_, 1) := by decide +kernel
theorem dX7_remove_0 : decode cX7_remove 0 = .ok (.aload_n 0, 1) := by decide +kernel
theorem dX7_remove_1 : decode cX7_remove 1 = .ok (.getfield 14, 3) := by decide +kernel
theorem dX7_remove_4 : decode cX7_remove 4 = .ok (.iload_n 1, 1) := by decide +kernel
theorem dX7_remove_5 : decode cX7_remove 5 = .ok (.bipush (-4), 2) := by decide +kernel
theorem dX7_remove_7 : decode cX7_remove 7 = .ok (.invokevirtual 46, 3) := by decide +kernel
theorem dX7_remove_10 : decode cX7_remove 10 = .ok (.aload_n 0, 1) := by decide +kernel
theorem dX7_remove_11 : decode cX7_remove 11 = .ok (.dup, 1) := by decide +kernel
theorem dX7_remove_12 : decode cX7_remove 12 = .ok (.getfield 31, 3) := by decide +kernel
theorem dX7_remove_15 : decode cX7_remove 15 = .ok (.iconst 1, 1) := by decide +kernel
theorem dX7_remove_16 : decode cX7_remove 16 = .ok (.isub, 1) := by decide +kernel
theorem dX7_remove_17 : decode cX7_remove 17 = .ok (.putfield 31, 3) := by decide +kernel
theorem dX7_remove_20 : decode cX7_remove 20 = .ok (.return_, 1) := by decide +kernel
theorem dX7_oldest_0 : decode cX7_oldest 0 = .ok (.iconst 0, 1) := by decide +kernel
theorem dX7_oldest_1 : decode cX7_oldest 1 = .ok (.istore_n 1, 1) := by decide +kernel
theorem dX7_oldest_2 : decode cX7_oldest 2 = .ok (.iconst 1, 1) := by decide +kernel
theorem dX7_oldest_3 : decode cX7_oldest 3 = .ok (.istore_n 2, 1) := by decide +kernel
theorem dX7_oldest_4 : decode cX7_oldest 4 = .ok (.iload_n 2, 1) := by decide +kernel
theorem dX7_oldest_5 : decode cX7_oldest 5 = .ok (.bipush 99, 2) := by decide +kernel
theorem dX7_oldest_7 : decode cX7_oldest 7 = .ok (.if_icmp .gt 47, 3) := by decide +kernel
theorem dX7_oldest_10 : decode cX7_oldest 10 = .ok (.aload_n 0, 1) := by decide +kernel
theorem dX7_oldest_11 : decode cX7_oldest 11 = .ok (.getfield 14, 3) := by decide +kernel
theorem dX7_oldest_14 : decode cX7_oldest 14 = .ok (.iload_n 2, 1) := by decide +kernel
theorem dX7_oldest_15 : decode cX7_oldest 15 = .ok (.invokevirtual 35, 3) := by decide +kernel
theorem dX7_oldest_18 : decode cX7_oldest 18 = .ok (.bipush (-4), 2) := by decide +kernel
theorem dX7_oldest_20 : decode cX7_oldest 20 = .ok (.if_icmp .eq 28, 3) := by decide +kernel
theorem dX7_oldest_23 : decode cX7_oldest 23 = .ok (.iload_n 1, 1) := by decide +kernel
theorem dX7_oldest_24 : decode cX7_oldest 24 = .ok (.ifCond .eq 22, 3) := by decide +kernel
theorem dX7_oldest_27 : decode cX7_oldest 27 = .ok (.aload_n 0, 1) := by decide +kernel
theorem dX7_oldest_28 : decode cX7_oldest 28 = .ok (.getfield 20, 3) := by decide +kernel
theorem dX7_oldest_31 : decode cX7_oldest 31 = .ok (.iload_n 2, 1) := by decide +kernel
theorem dX7_oldest_32 : decode cX7_oldest 32 = .ok (.invokevirtual 35, 3) := by decide +kernel
theorem dX7_oldest_35 : decode cX7_oldest 35 = .ok (.aload_n 0, 1) := by decide +kernel
theorem dX7_oldest_36 : decode cX7_oldest 36 = .ok (.getfield 20, 3) := by decide +kernel
theorem dX7_oldest_39 : decode cX7_oldest 39 = .ok (.iload_n 1, 1) := by decide +kernel
theorem dX7_oldest_40 : decode cX7_oldest 40 = .ok (.invokevirtual 35, 3) := by decide +kernel
theorem dX7_oldest_43 : decode cX7_oldest 43 = .ok (.if_icmp .ge 5, 3) := by decide +kernel
theorem dX7_oldest_46 : decode cX7_oldest 46 = .ok (.iload_n 2, 1) := by decide +kernel
theorem dX7_oldest_47 : decode cX7_oldest 47 = .ok (.istore_n 1, 1) := by decide +kernel
theorem dX7_oldest_48 : decode cX7_oldest 48 = .ok (.iinc 2 1, 3) := by decide +kernel
theorem dX7_oldest_51 : decode cX7_oldest 51 = .ok (.goto (-47), 3) := by decide +kernel
theorem dX7_oldest_54 : decode cX7_oldest 54 = .ok (.iload_n 1, 1) := by decide +kernel
theorem dX7_oldest_55 : decode cX7_oldest 55 = .ok (.ireturn, 1) := by decide +kernel
theorem dX7_removeAllWith_0 : decode cX7_removeAllWith 0 = .ok (.iconst 1, 1) := by decide +kernel
theorem dX7_removeAllWith_1 : decode cX7_removeAllWith 1 = .ok (.istore_n 2, 1) := by decide +kernel
theorem dX7_removeAllWith_2 : decode cX7_removeAllWith 2 = .ok (.iload_n 2, 1) := by decide +kernel
theorem dX7_removeAllWith_3 : decode cX7_removeAllWith 3 = .ok (.bipush 99, 2) := by decide +kernel
theorem dX7_removeAllWith_5 : decode cX7_removeAllWith 5 = .ok (.if_icmp .gt 41, 3) := by decide +kernel
theorem dX7_removeAllWith_8 : decode cX7_removeAllWith 8 = .ok (.aload_n 0, 1) := by decide +kernel
theorem dX7_removeAllWith_9 : decode cX7_removeAllWith 9 = .ok (.getfield 14, 3) := by decide +kernel
theorem dX7_removeAllWith_12 : decode cX7_removeAllWith 12 = .ok (.iload_n 2, 1) := by decide +kernel
theorem dX7_removeAllWith_13 : decode cX7_removeAllWith 13 = .ok (.invokevirtual 35, 3) := by decide +kernel
theorem dX7_removeAllWith_16 : decode cX7_removeAllWith 16 = .ok (.iload_n 1, 1) := by decide +kernel
theorem dX7_removeAllWith_17 : decode cX7_removeAllWith 17 = .ok (.if_icmp .ne 23, 3) := by decide +kernel
theorem dX7_removeAllWith_20 : decode cX7_removeAllWith 20 = .ok (.aload_n 0, 1) := by decide +kernel
theorem dX7_removeAllWith_21 : decode cX7_removeAllWith 21 = .ok (.getfield 14, 3) := by decide +kernel
theorem dX7_removeAllWith_24 : decode cX7_removeAllWith 24 = .ok (.iload_n 2, 1) := by decide +kernel
theorem dX7_removeAllWith_25 : decode cX7_removeAllWith 25 = .ok (.bipush (-4), 2) := by decide +kernel
theorem dX7_removeAllWith_27 : decode cX7_removeAllWith 27 = .ok (.invokevirtual 46, 3) := by decide +kernel
theorem dX7_removeAllWith_30 : decode cX7_removeAllWith 30 = .ok (.aload_n 0, 1) := by decide +kernel
theorem dX7_removeAllWith_31 : decode cX7_removeAllWith 31 = .ok (.dup, 1) := by decide +kernel
theorem dX7_removeAllWith_32 : decode cX7_removeAllWith 32 = .ok (.getfield 31, 3) := by decide +kernel
theorem dX7_removeAllWith_35 : decode cX7_removeAllWith 35 = .ok (.iconst 1, 1) := by decide +kernel
theorem dX7_removeAllWith_36 : decode cX7_removeAllWith 36 = .ok (.isub, 1) := by decide +kernel
theorem dX7_removeAllWith_37 : decode cX7_removeAllWith 37 = .ok (.putfield 31, 3) := by decide +kernel
theorem dX7_removeAllWith_40 : decode cX7_removeAllWith 40 = .ok (.iinc 2 1, 3) := by decide +kernel
theorem dX7_removeAllWith_43 : decode cX7_removeAllWith 43 = .ok (.goto (-41), 3) := by decide +kernel
theorem dX7_removeAllWith_46 : decode cX7_removeAllWith 46 = .ok (.return_, 1) := by decide +kernel
theorem dX7_removeUntil_0 : decode cX7_removeUntil 0 = .ok (.iconst 1, 1) := by decide +kernel
theorem dX7_removeUntil_1 : decode cX7_removeUntil 1 = .ok (.istore_n 2, 1) := by decide +kernel
theorem dX7_removeUntil_2 : decode cX7_removeUntil 2 = .ok (.iload_n 2, 1) := by decide +kernel
theorem dX7_removeUntil_3 : decode cX7_removeUntil 3 = .ok (.bipush 99, 2) := by decide +kernel
theorem dX7_removeUntil_5 : decode cX7_removeUntil 5 = .ok (.if_icmp .gt 39, 3) := by decide +kernel
theorem dX7_removeUntil_8 : decode cX7_removeUntil 8 = .ok (.aload_n 0, 1) := by decide +kernel
theorem dX7_removeUntil_9 : decode cX7_removeUntil 9 = .ok (.getfield 14, 3) := by decide +kernel
theorem dX7_removeUntil_12 : decode cX7_removeUntil 12 = .ok (.iload_n 2, 1) := by decide +kernel
theorem dX7_removeUntil_13 : decode cX7_removeUntil 13 = .ok (.invokevirtual 35, 3) := by decide +kernel
theorem dX7_removeUntil_16 : decode cX7_removeUntil 16 = .ok (.bipush (-4), 2) := by decide +kernel
theorem dX7_removeUntil_18 : decode cX7_removeUntil 18 = .ok (.if_icmp .eq 20, 3) := by decide +kernel
theorem dX7_removeUntil_21 : decode cX7_removeUntil 21 = .ok (.aload_n 0, 1) := by decide +kernel
theorem dX7_removeUntil_22 : decode cX7_removeUntil 22 = .ok (.getfield 20, 3) := by decide +kernel
theorem dX7_removeUntil_25 : decode cX7_removeUntil 25 = .ok (.iload_n 2, 1) := by decide +kernel
theorem dX7_removeUntil_26 : decode cX7_removeUntil 26 = .ok (.invokevirtual 35, 3) := by decide +kernel
theorem dX7_removeUntil_29 : decode cX7_removeUntil 29 = .ok (.iload_n 1, 1) := by decide +kernel
theorem dX7_removeUntil_30 : decode cX7_removeUntil 30 = .ok (.if_icmp .gt 8, 3) := by decide +kernel
theorem dX7_removeUntil_33 : decode cX7_removeUntil 33 = .ok (.aload_n 0, 1) := by decide +kernel
theorem dX7_removeUntil_34 : decode cX7_removeUntil 34 = .ok (.iload_n 2, 1) := by decide +kernel
theorem dX7_removeUntil_35 : decode cX7_removeUntil 35 = .ok (.invokevirtual 43, 3) := by decide +kernel
theorem dX7_removeUntil_38 : decode cX7_removeUntil 38 = .ok (.iinc 2 1, 3) := by decide +kernel
theorem dX7_removeUntil_41 : decode cX7_removeUntil 41 = .ok (.goto (-39), 3) := by decide +kernel
theorem dX7_removeUntil_44 : decode cX7_removeUntil 44 = .ok (.return_, 1) := by decide +kernel
theorem dX7_entriesWith_0 : decode cX7_entriesWith 0 = .ok (.iconst 0, 1) := by decide +kernel
theorem dX7_entriesWith_1 : decode cX7_entriesWith 1 = .ok (.istore_n 2, 1) := by decide +kernel
theorem dX7_entriesWith_2 : decode cX7_entriesWith 2 = .ok (.iconst 1, 1) := by decide +kernel
theorem dX7_entriesWith_3 : decode cX7_entriesWith 3 = .ok (.istore_n 3, 1) := by decide +kernel
theorem dX7_entriesWith_4 : decode cX7_entriesWith 4 = .ok (.iload_n 3, 1) := by decide +kernel
theorem dX7_entriesWith_5 : decode cX7_entriesWith 5 = .ok (.bipush 99, 2) := by decide +kernel
theorem dX7_entriesWith_7 : decode cX7_entriesWith 7 = .ok (.if_icmp .gt 24, 3) := by decide +kernel
theorem dX7_entriesWith_10 : decode cX7_entriesWith 10 = .ok (.aload_n 0, 1) := by decide +kernel
theorem dX7_entriesWith_11 : decode cX7_entriesWith 11 = .ok (.getfield 14, 3) := by decide +kernel
theorem dX7_entriesWith_14 : decode cX7_entriesWith 14 = .ok (.iload_n 3, 1) := by decide +kernel
theorem dX7_entriesWith_15 : decode cX7_entriesWith 15 = .ok (.invokevirtual 35, 3) := by decide +kernel
theorem dX7_entriesWith_18 : decode cX7_entriesWith 18 = .ok (.iload_n 1, 1) := by decide +kernel
theorem dX7_entriesWith_19 : decode cX7_entriesWith 19 = .ok (.if_icmp .ne 6, 3) := by decide +kernel
theorem dX7_entriesWith_22 : decode cX7_entriesWith 22 = .ok (.iinc 2 1, 3) := by decide +kernel
theorem dX7_entriesWith_25 : decode cX7_entriesWith 25 = .ok (.iinc 3 1, 3) := by decide +kernel
theorem dX7_entriesWith_28 : decode cX7_entriesWith 28 = .ok (.goto (-24), 3) := by decide +kernel
theorem dX7_entriesWith_31 : decode cX7_entriesWith 31 = .ok (.iload_n 2, 1) := by decide +kernel
theorem dX7_entriesWith_32 : decode cX7_entriesWith 32 = .ok (.ireturn, 1) := by decide +kernel
theorem dX7_addressOf_0 : decode cX7_addressOf 0 = .ok (.iconst 0, 1) := by decide +kernel
theorem dX7_addressOf_1 : decode cX7_addressOf 1 = .ok (.istore_n 2, 1) := by decide +kernel
theorem dX7_addressOf_2 : decode cX7_addressOf 2 = .ok (.iconst 1, 1) := by decide +kernel
theorem dX7_addressOf_3 : decode cX7_addressOf 3 = .ok (.istore_n 3, 1) := by decide +kernel
theorem dX7_addressOf_4 : decode cX7_addressOf 4 = .ok (.iload_n 3, 1) := by decide +kernel
theorem dX7_addressOf_5 : decode cX7_addressOf 5 = .ok (.bipush 99, 2) := by decide +kernel
theorem dX7_addressOf_7 : decode cX7_addressOf 7 = .ok (.if_icmp .gt 32, 3) := by decide +kernel
theorem dX7_addressOf_10 : decode cX7_addressOf 10 = .ok (.aload_n 0, 1) := by decide +kernel
theorem dX7_addressOf_11 : decode cX7_addressOf 11 = .ok (.getfield 14, 3) := by decide +kernel
theorem dX7_addressOf_14 : decode cX7_addressOf 14 = .ok (.iload_n 3, 1) := by decide +kernel
theorem dX7_addressOf_15 : decode cX7_addressOf 15 = .ok (.invokevirtual 35, 3) := by decide +kernel
theorem dX7_addressOf_18 : decode cX7_addressOf 18 = .ok (.bipush (-4), 2) := by decide +kernel
theorem dX7_addressOf_20 : decode cX7_addressOf 20 = .ok (.if_icmp .eq 13, 3) := by decide +kernel
theorem dX7_addressOf_23 : decode cX7_addressOf 23 = .ok (.iload_n 2, 1) := by decide +kernel
theorem dX7_addressOf_24 : decode cX7_addressOf 24 = .ok (.iload_n 1, 1) := by decide +kernel
theorem dX7_addressOf_25 : decode cX7_addressOf 25 = .ok (.if_icmp .ne 5, 3) := by decide +kernel
theorem dX7_addressOf_28 : decode cX7_addressOf 28 = .ok (.iload_n 3, 1) := by decide +kernel
theorem dX7_addressOf_29 : decode cX7_addressOf 29 = .ok (.ireturn, 1) := by decide +kernel
theorem dX7_addressOf_30 : decode cX7_addressOf 30 = .ok (.iinc 2 1, 3) := by decide +kernel
theorem dX7_addressOf_33 : decode cX7_addressOf 33 = .ok (.iinc 3 1, 3) := by decide +kernel
theorem dX7_addressOf_36 : decode cX7_addressOf 36 = .ok (.goto (-32), 3) := by decide +kernel
theorem dX7_addressOf_39 : decode cX7_addressOf 39 = .ok (.bipush (-4), 2) := by decide +kernel
theorem dX7_addressOf_41 : decode cX7_addressOf 41 = .ok (.ireturn, 1) := by decide +kernel
theorem dX8_init_0 : decode cX8_init 0 = .ok (.aload_n 0, 1) := by decide +kernel
theorem dX8_init_1 : decode cX8_init 1 = .ok (.invokespecial 3, 3) := by decide +kernel
theorem dX8_init_4 : decode cX8_init 4 = .ok (.aload_n 0, 1) := by decide +kernel
theorem dX8_init_5 : decode cX8_init 5 = .ok (.bipush 70, 2) := by decide +kernel
theorem dX8_init_7 : decode cX8_init 7 = .ok (.newarray .char, 2) := by decide +kernel
theorem dX8_init_9 : decode cX8_init 9 = .ok (.putfield 9, 3) := by decide +kernel
theorem dX8_init_12 : decode cX8_init 12 = .ok (.return_, 1) := by decide +kernel
theorem dX8_readInto_0 : decode cX8_readInto 0 = .ok (.aload_n 1, 1) := by decide +kernel
theorem dX8_readInto_1 : decode cX8_readInto 1 = .ok (.iconst 0, 1) := by decide +kernel
theorem dX8_readInto_2 : decode cX8_readInto 2 = .ok (.putfield 19, 3) := by decide +kernel
theorem dX8_readInto_5 : decode cX8_readInto 5 = .ok (.aload_n 0, 1) := by decide +kernel
theorem dX8_readInto_6 : decode cX8_readInto 6 = .ok (.iconst 0, 1) := by decide +kernel
theorem dX8_readInto_7 : decode cX8_readInto 7 = .ok (.putfield 24, 3) := by decide +kernel
theorem dX8_readInto_10 : decode cX8_readInto 10 = .ok (.iconst 0, 1) := by decide +kernel
theorem dX8_readInto_11 : decode cX8_readInto 11 = .ok (.istore_n 2, 1) := by decide +kernel
theorem dX8_readInto_12 : decode cX8_readInto 12 = .ok (.iload_n 2, 1) := by decide +kernel
theorem dX8_readInto_13 : decode cX8_readInto 13 = .ok (.aload_n 0, 1) := by decide +kernel
theorem dX8_readInto_14 : decode cX8_readInto 14 = .ok (.getfield 15, 3) := by decide +kernel
theorem dX8_readInto_17 : decode cX8_readInto 17 = .ok (.if_icmp .gt 49, 3) := by decide +kernel
theorem dX8_readInto_20 : decode cX8_readInto 20 = .ok (.aload_n 0, 1) := by decide +kernel
theorem dX8_readInto_21 : decode cX8_readInto 21 = .ok (.aload_n 1, 1) := by decide +kernel
theorem dX8_readInto_22 : decode cX8_readInto 22 = .ok (.invokevirtual 27, 3) := by decide +kernel
theorem dX8_readInto_25 : decode cX8_readInto 25 = .ok (.ifCond .ne 8, 3) := by decide +kernel
theorem dX8_readInto_28 : decode cX8_readInto 28 = .ok (.aload_n 0, 1) := by decide +kernel
theorem dX8_readInto_29 : decode cX8_readInto 29 = .ok (.getfield 24, 3) := by decide +kernel
theorem dX8_readInto_32 : decode cX8_readInto 32 = .ok (.ireturn, 1) := by decide +kernel
theorem dX8_readInto_33 : decode cX8_readInto 33 = .ok (.aload_n 0, 1) := by decide +kernel
theorem dX8_readInto_34 : decode cX8_readInto 34 = .ok (.getfield 24, 3) := by decide +kernel
theorem dX8_readInto_37 : decode cX8_readInto 37 = .ok (.aload_n 0, 1) := by decide +kernel
theorem dX8_readInto_38 : decode cX8_readInto 38 = .ok (.getfield 15, 3) := by decide +kernel
theorem dX8_readInto_41 : decode cX8_readInto 41 = .ok (.if_icmp .ne 5, 3) := by decide +kernel
theorem dX8_readInto_44 : decode cX8_readInto 44 = .ok (.iconst (-1), 1) := by decide +kernel
theorem dX8_readInto_45 : decode cX8_readInto 45 = .ok (.ireturn, 1) := by decide +kernel
theorem dX8_readInto_46 : decode cX8_readInto 46 = .ok (.aload_n 0, 1) := by decide +kernel
theorem dX8_readInto_47 : decode cX8_readInto 47 = .ok (.bipush 59, 2) := by decide +kernel
theorem dX8_readInto_49 : decode cX8_readInto 49 = .ok (.invokevirtual 31, 3) := by decide +kernel
theorem dX8_readInto_52 : decode cX8_readInto 52 = .ok (.ifCond .ne 8, 3) := by decide +kernel
theorem dX8_readInto_55 : decode cX8_readInto 55 = .ok (.aload_n 0, 1) := by decide +kernel
theorem dX8_readInto_56 : decode cX8_readInto 56 = .ok (.getfield 24, 3) := by decide +kernel
theorem dX8_readInto_59 : decode cX8_readInto 59 = .ok (.ireturn, 1) := by decide +kernel
theorem dX8_readInto_60 : decode cX8_readInto 60 = .ok (.iinc 2 1, 3) := by decide +kernel
theorem dX8_readInto_63 : decode cX8_readInto 63 = .ok (.goto (-51), 3) := by decide +kernel
theorem dX8_readInto_66 : decode cX8_readInto 66 = .ok (.aload_n 0, 1) := by decide +kernel
theorem dX8_readInto_67 : decode cX8_readInto 67 = .ok (.getfield 24, 3) := by decide +kernel
theorem dX8_readInto_70 : decode cX8_readInto 70 = .ok (.ireturn, 1) := by decide +kernel
theorem dX8_readFrame_0 : decode cX8_readFrame 0 = .ok (.aload_n 0, 1) := by decide +kernel
theorem dX8_readFrame_1 : decode cX8_readFrame 1 = .ok (.invokevirtual 35, 3) := by decide +kernel
theorem dX8_readFrame_4 : decode cX8_readFrame 4 = .ok (.istore_n 2, 1) := by decide +kernel
theorem dX8_readFrame_5 : decode cX8_readFrame 5 = .ok (.iload_n 2, 1) := by decide +kernel
theorem dX8_readFrame_6 : decode cX8_readFrame 6 = .ok (.bipush (-4), 2) := by decide +kernel
theorem dX8_readFrame_8 : decode cX8_readFrame 8 = .ok (.if_icmp .eq 12, 3) := by decide +kernel
theorem dX8_readFrame_11 : decode cX8_readFrame 11 = .ok (.aload_n 0, 1) := by decide +kernel
theorem dX8_readFrame_12 : decode cX8_readFrame 12 = .ok (.bipush 62, 2) := by decide +kernel
theorem dX8_readFrame_14 : decode cX8_readFrame 14 = .ok (.invokevirtual 31, 3) := by decide +kernel
theorem dX8_readFrame_17 : decode cX8_readFrame 17 = .ok (.ifCond .ne 5, 3) := by decide +kernel
theorem dX8_readFrame_20 : decode cX8_readFrame 20 = .ok (.iconst 0, 1) := by decide +kernel
theorem dX8_readFrame_21 : decode cX8_readFrame 21 = .ok (.ireturn, 1) := by decide +kernel
theorem dX8_readFrame_22 : decode cX8_readFrame 22 = .ok (.aload_n 0, 1) := by decide +kernel
theorem dX8_readFrame_23 : decode cX8_readFrame 23 = .ok (.bipush 42, 2) := by decide +kernel
theorem dX8_readFrame_25 : decode cX8_readFrame 25 = .ok (.invokevirtual 31, 3) := by decide +kernel
theorem dX8_readFrame_28 : decode cX8_readFrame 28 = .ok (.ifCond .eq 7, 3) := by decide +kernel
theorem dX8_readFrame_31 : decode cX8_readFrame 31 = .ok (.iconst 0, 1) := by decide +kernel
theorem dX8_readFrame_32 : decode cX8_readFrame 32 = .ok (.goto 7, 3) := by decide +kernel
theorem dX8_readFrame_35 : decode cX8_readFrame 35 = .ok (.aload_n 0, 1) := by decide +kernel
theorem dX8_readFrame_36 : decode cX8_readFrame 36 = .ok (.invokevirtual 35, 3) := by decide +kernel
theorem dX8_readFrame_39 : decode cX8_readFrame 39 = .ok (.istore_n 3, 1) := by decide +kernel
theorem dX8_readFrame_40 : decode cX8_readFrame 40 = .ok (.iload_n 3, 1) := by decide +kernel
theorem dX8_readFrame_41 : decode cX8_readFrame 41 = .ok (.bipush (-4), 2) := by decide +kernel
theorem dX8_readFrame_43 : decode cX8_readFrame 43 = .ok (.if_icmp .ne 5, 3) := by decide +kernel
theorem dX8_readFrame_46 : decode cX8_readFrame 46 = .ok (.iconst 0, 1) := by decide +kernel
theorem dX8_readFrame_47 : decode cX8_readFrame 47 = .ok (.ireturn, 1) := by decide +kernel
theorem dX8_readFrame_48 : decode cX8_readFrame 48 = .ok (.aload_n 0, 1) := by decide +kernel
theorem dX8_readFrame_49 : decode cX8_readFrame 49 = .ok (.bipush 33, 2) := by decide +kernel
theorem dX8_readFrame_51 : decode cX8_readFrame 51 = .ok (.invokevirtual 31, 3) := by decide +kernel
theorem dX8_readFrame_54 : decode cX8_readFrame 54 = .ok (.ifCond .eq 12, 3) := by decide +kernel
theorem dX8_readFrame_57 : decode cX8_readFrame 57 = .ok (.aload_n 0, 1) := by decide +kernel
theorem dX8_readFrame_58 : decode cX8_readFrame 58 = .ok (.iconst 0, 1) := by decide +kernel
theorem dX8_readFrame_59 : decode cX8_readFrame 59 = .ok (.iconst 3, 1) := by decide +kernel
theorem dX8_readFrame_60 : decode cX8_readFrame 60 = .ok (.invokevirtual 39, 3) := by decide +kernel
theorem dX8_readFrame_63 : decode cX8_readFrame 63 = .ok (.goto 4, 3) := by decide +kernel
theorem dX8_readFrame_66 : decode cX8_readFrame 66 = .ok (.iconst 0, 1) := by decide +kernel
theorem dX8_readFrame_67 : decode cX8_readFrame 67 = .ok (.istore 4, 2) := by decide +kernel
theorem dX8_readFrame_69 : decode cX8_readFrame 69 = .ok (.iload 4, 2) := by decide +kernel
theorem dX8_readFrame_71 : decode cX8_readFrame 71 = .ok (.bipush (-4), 2) := by decide +kernel
theorem dX8_readFrame_73 : decode cX8_readFrame 73 = .ok (.if_icmp .eq 12, 3) := by decide +kernel
theorem dX8_readFrame_76 : decode cX8_readFrame 76 = .ok (.aload_n 0, 1) := by decide +kernel
theorem dX8_readFrame_77 : decode cX8_readFrame 77 = .ok (.bipush 64, 2) := by decide +kernel
theorem dX8_readFrame_79 : decode cX8_readFrame 79 = .ok (.invokevirtual 31, 3) := by decide +kernel
theorem dX8_readFrame_82 : decode cX8_readFrame 82 = .ok (.ifCond .ne 5, 3) := by decide +kernel
theorem dX8_readFrame_85 : decode cX8_readFrame 85 = .ok (.iconst 0, 1) := by decide +kernel
theorem dX8_readFrame_86 : decode cX8_readFrame 86 = .ok (.ireturn, 1) := by decide +kernel
theorem dX8_readFrame_87 : decode cX8_readFrame 87 = .ok (.aload_n 0, 1) := by decide +kernel
theorem dX8_readFrame_88 : decode cX8_readFrame 88 = .ok (.iconst 0, 1) := by decide +kernel
theorem dX8_readFrame_89 : decode cX8_readFrame 89 = .ok (.bipush 7, 2) := by decide +kernel
theorem dX8_readFrame_91 : decode cX8_readFrame 91 = .ok (.invokevirtual 39, 3) := by decide +kernel
theorem dX8_readFrame_94 : decode cX8_readFrame 94 = .ok (.istore 5, 2) := by decide +kernel
theorem dX8_readFrame_96 : decode cX8_readFrame 96 = .ok (.iload 5, 2) := by decide +kernel
theorem dX8_readFrame_98 : decode cX8_readFrame 98 = .ok (.bipush (-4), 2) := by decide +kernel
theorem dX8_readFrame_100 : decode cX8_readFrame 100 = .ok (.if_icmp .ne 5, 3) := by decide +kernel
theorem dX8_readFrame_103 : decode cX8_readFrame 103 = .ok (.iconst 0, 1) := by decide +kernel
theorem dX8_readFrame_104 : decode cX8_readFrame 104 = .ok (.ireturn, 1) := by decide +kernel
theorem dX8_readFrame_105 : decode cX8_readFrame 105 = .ok (.aload_n 1, 1) := by decide +kernel
theorem dX8_readFrame_106 : decode cX8_readFrame 106 = .ok (.iload 5, 2) := by decide +kernel
theorem dX8_readFrame_108 : decode cX8_readFrame 108 = .ok (.iload_n 2, 1) := by decide +kernel
theorem dX8_readFrame_109 : decode cX8_readFrame 109 = .ok (.iload_n 3, 1) := by decide +kernel
theorem dX8_readFrame_110 : decode cX8_readFrame 110 = .ok (.iload 4, 2) := by decide +kernel
theorem dX8_readFrame_112 : decode cX8_readFrame 112 = .ok (.invokevirtual 43, 3) := by decide +kernel
theorem dX8_readFrame_115 : decode cX8_readFrame 115 = .ok (.iconst 1, 1) := by decide +kernel
theorem dX8_readFrame_116 : decode cX8_readFrame 116 = .ok (.ireturn, 1) := by decide +kernel
theorem dX8_readAddress_0 : decode cX8_readAddress 0 = .ok (.aload_n 0, 1) := by decide +kernel
theorem dX8_readAddress_1 : decode cX8_readAddress 1 = .ok (.iconst 1, 1) := by decide +kernel
theorem dX8_readAddress_2 : decode cX8_readAddress 2 = .ok (.bipush 9, 2) := by decide +kernel
theorem dX8_readAddress_4 : decode cX8_readAddress 4 = .ok (.invokevirtual 39, 3) := by decide +kernel
theorem dX8_readAddress_7 : decode cX8_readAddress 7 = .ok (.istore_n 1, 1) := by decide +kernel
theorem dX8_readAddress_8 : decode cX8_readAddress 8 = .ok (.iload_n 1, 1) := by decide +kernel
theorem dX8_readAddress_9 : decode cX8_readAddress 9 = .ok (.bipush (-4), 2) := by decide +kernel
theorem dX8_readAddress_11 : decode cX8_readAddress 11 = .ok (.if_icmp .ne 6, 3) := by decide +kernel
theorem dX8_readAddress_14 : decode cX8_readAddress 14 = .ok (.bipush (-4), 2) := by decide +kernel
theorem dX8_readAddress_16 : decode cX8_readAddress 16 = .ok (.ireturn, 1) := by decide +kernel
theorem dX8_readAddress_17 : decode cX8_readAddress 17 = .ok (.aload_n 0, 1) := by decide +kernel
theorem dX8_readAddress_18 : decode cX8_readAddress 18 = .ok (.iconst 0, 1) := by decide +kernel
theorem dX8_readAddress_19 : decode cX8_readAddress 19 = .ok (.bipush 9, 2) := by decide +kernel
theorem dX8_readAddress_21 : decode cX8_readAddress 21 = .ok (.invokevirtual 39, 3) := by decide +kernel
theorem dX8_readAddress_24 : decode cX8_readAddress 24 = .ok (.istore_n 2, 1) := by decide +kernel
theorem dX8_readAddress_25 : decode cX8_readAddress 25 = .ok (.iload_n 2, 1) := by decide +kernel
theorem dX8_readAddress_26 : decode cX8_readAddress 26 = .ok (.bipush (-4), 2) := by decide +kernel
theorem dX8_readAddress_28 : decode cX8_readAddress 28 = .ok (.if_icmp .ne 7, 3) := by decide +kernel
theorem dX8_readAddress_31 : decode cX8_readAddress 31 = .ok (.iload_n 1, 1) := by decide +kernel
theorem dX8_readAddress_32 : decode cX8_readAddress 32 = .ok (.goto 9, 3) := by decide +kernel
theorem dX8_readAddress_35 : decode cX8_readAddress 35 = .ok (.iload_n 1, 1) := by decide +kernel
theorem dX8_readAddress_36 : decode cX8_readAddress 36 = .ok (.bipush 10, 2) := by decide +kernel
theorem dX8_readAddress_38 : decode cX8_readAddress 38 = .ok (.imul, 1) := by decide +kernel
theorem dX8_readAddress_39 : decode cX8_readAddress 39 = .ok (.iload_n 2, 1) := by decide +kernel
theorem dX8_readAddress_40 : decode cX8_readAddress 40 = .ok (.iadd, 1) := by decide +kernel
theorem dX8_readAddress_41 : decode cX8_readAddress 41 = .ok (.ireturn, 1) := by decide +kernel
theorem dX8_readDigit_0 : decode cX8_readDigit 0 = .ok (.aload_n 0, 1) := by decide +kernel
theorem dX8_readDigit_1 : decode cX8_readDigit 1 = .ok (.aload_n 0, 1) := by decide +kernel
theorem dX8_readDigit_2 : decode cX8_readDigit 2 = .ok (.getfield 24, 3) := by decide +kernel
theorem dX8_readDigit_5 : decode cX8_readDigit 5 = .ok (.invokevirtual 47, 3) := by decide +kernel
theorem dX8_readDigit_8 : decode cX8_readDigit 8 = .ok (.bipush 48, 2) := by decide +kernel
theorem dX8_readDigit_10 : decode cX8_readDigit 10 = .ok (.isub, 1) := by decide +kernel
theorem dX8_readDigit_11 : decode cX8_readDigit 11 = .ok (.istore_n 3, 1) := by decide +kernel
theorem dX8_readDigit_12 : decode cX8_readDigit 12 = .ok (.iload_n 3, 1) := by decide +kernel
theorem dX8_readDigit_13 : decode cX8_readDigit 13 = .ok (.iload_n 1, 1) := by decide +kernel
theorem dX8_readDigit_14 : decode cX8_readDigit 14 = .ok (.if_icmp .lt 8, 3) := by decide +kernel
theorem dX8_readDigit_17 : decode cX8_readDigit 17 = .ok (.iload_n 3, 1) := by decide +kernel
theorem dX8_readDigit_18 : decode cX8_readDigit 18 = .ok (.iload_n 2, 1) := by decide +kernel
theorem dX8_readDigit_19 : decode cX8_readDigit 19 = .ok (.if_icmp .le 6, 3) := by decide +kernel
theorem dX8_readDigit_22 : decode cX8_readDigit 22 = .ok (.bipush (-4), 2) := by decide +kernel
theorem dX8_readDigit_24 : decode cX8_readDigit 24 = .ok (.ireturn, 1) := by decide +kernel
theorem dX8_readDigit_25 : decode cX8_readDigit 25 = .ok (.aload_n 0, 1) := by decide +kernel
theorem dX8_readDigit_26 : decode cX8_readDigit 26 = .ok (.dup, 1) := by decide +kernel
theorem dX8_readDigit_27 : decode cX8_readDigit 27 = .ok (.getfield 24, 3) := by decide +kernel
theorem dX8_readDigit_30 : decode cX8_readDigit 30 = .ok (.iconst 1, 1) := by decide +kernel
theorem dX8_readDigit_31 : decode cX8_readDigit 31 = .ok (.iadd, 1) := by decide +kernel
theorem dX8_readDigit_32 : decode cX8_readDigit 32 = .ok (.putfield 24, 3) := by decide +kernel
theorem dX8_readDigit_35 : decode cX8_readDigit 35 = .ok (.iload_n 3, 1) := by decide +kernel
theorem dX8_readDigit_36 : decode cX8_readDigit 36 = .ok (.ireturn, 1) := by decide +kernel
theorem dX8_skip_0 : decode cX8_skip 0 = .ok (.aload_n 0, 1) := by decide +kernel
theorem dX8_skip_1 : decode cX8_skip 1 = .ok (.aload_n 0, 1) := by decide +kernel
theorem dX8_skip_2 : decode cX8_skip 2 = .ok (.getfield 24, 3) := by decide +kernel
theorem dX8_skip_5 : decode cX8_skip 5 = .ok (.invokevirtual 47, 3) := by decide +kernel
theorem dX8_skip_8 : decode cX8_skip 8 = .ok (.iload_n 1, 1) := by decide +kernel
theorem dX8_skip_9 : decode cX8_skip 9 = .ok (.if_icmp .eq 5, 3) := by decide +kernel
theorem dX8_skip_12 : decode cX8_skip 12 = .ok (.iconst 0, 1) := by decide +kernel
theorem dX8_skip_13 : decode cX8_skip 13 = .ok (.ireturn, 1) := by decide +kernel
theorem dX8_skip_14 : decode cX8_skip 14 = .ok (.aload_n 0, 1) := by decide +kernel
theorem dX8_skip_15 : decode cX8_skip 15 = .ok (.dup, 1) := by decide +kernel
theorem dX8_skip_16 : decode cX8_skip 16 = .ok (.getfield 24, 3) := by decide +kernel
theorem dX8_skip_19 : decode cX8_skip 19 = .ok (.iconst 1, 1) := by decide +kernel
theorem dX8_skip_20 : decode cX8_skip 20 = .ok (.iadd, 1) := by decide +kernel
theorem dX8_skip_21 : decode cX8_skip 21 = .ok (.putfield 24, 3) := by decide +kernel
theorem dX8_skip_24 : decode cX8_skip 24 = .ok (.iconst 1, 1) := by decide +kernel
theorem dX8_skip_25 : decode cX8_skip 25 = .ok (.ireturn, 1) := by decide +kernel
theorem dX8_signAt_0 : decode cX8_signAt 0 = .ok (.iload_n 1, 1) := by decide +kernel
theorem dX8_signAt_1 : decode cX8_signAt 1 = .ok (.ifCond .lt 29, 3) := by decide +kernel
theorem dX8_signAt_4 : decode cX8_signAt 4 = .ok (.iload_n 1, 1) := by decide +kernel
theorem dX8_signAt_5 : decode cX8_signAt 5 = .ok (.aload_n 0, 1) := by decide +kernel
theorem dX8_signAt_6 : decode cX8_signAt 6 = .ok (.getfield 15, 3) := by decide +kernel
theorem dX8_signAt_9 : decode cX8_signAt 9 = .ok (.if_icmp .ge 21, 3) := by decide +kernel
theorem dX8_signAt_12 : decode cX8_signAt 12 = .ok (.iload_n 1, 1) := by decide +kernel
theorem dX8_signAt_13 : decode cX8_signAt 13 = .ok (.aload_n 0, 1) := by decide +kernel
theorem dX8_signAt_14 : decode cX8_signAt 14 = .ok (.getfield 9, 3) := by decide +kernel
theorem dX8_signAt_17 : decode cX8_signAt 17 = .ok (.arraylength, 1) := by decide +kernel
theorem dX8_signAt_18 : decode cX8_signAt 18 = .ok (.if_icmp .ge 12, 3) := by decide +kernel
theorem dX8_signAt_21 : decode cX8_signAt 21 = .ok (.aload_n 0, 1) := by decide +kernel
theorem dX8_signAt_22 : decode cX8_signAt 22 = .ok (.getfield 9, 3) := by decide +kernel
theorem dX8_signAt_25 : decode cX8_signAt 25 = .ok (.iload_n 1, 1) := by decide +kernel
theorem dX8_signAt_26 : decode cX8_signAt 26 = .ok (.caload, 1) := by decide +kernel
theorem dX8_signAt_27 : decode cX8_signAt 27 = .ok (.goto 4, 3) := by decide +kernel
theorem dX8_signAt_30 : decode cX8_signAt 30 = .ok (.iconst (-1), 1) := by decide +kernel
theorem dX8_signAt_31 : decode cX8_signAt 31 = .ok (.ireturn, 1) := by decide +kernel
theorem dX9_init_0 : decode cX9_init 0 = .ok (.aload_n 0, 1) := by decide +kernel
theorem dX9_init_1 : decode cX9_init 1 = .ok (.invokespecial 1, 3) := by decide +kernel
theorem dX9_init_4 : decode cX9_init 4 = .ok (.aload_n 0, 1) := by decide +kernel
theorem dX9_init_5 : decode cX9_init 5 = .ok (.new 7, 3) := by decide +kernel
theorem dX9_init_8 : decode cX9_init 8 = .ok (.dup, 1) := by decide +kernel
theorem dX9_init_9 : decode cX9_init 9 = .ok (.invokespecial 9, 3) := by decide +kernel
theorem dX9_init_12 : decode cX9_init 12 = .ok (.putfield 10, 3) := by decide +kernel
theorem dX9_init_15 : decode cX9_init 15 = .ok (.aload_n 0, 1) := by decide +kernel
theorem dX9_init_16 : decode cX9_init 16 = .ok (.new 7, 3) := by decide +kernel
theorem dX9_init_19 : decode cX9_init 19 = .ok (.dup, 1) := by decide +kernel
theorem dX9_init_20 : decode cX9_init 20 = .ok (.invokespecial 9, 3) := by decide +kernel
theorem dX9_init_23 : decode cX9_init 23 = .ok (.putfield 16, 3) := by decide +kernel
theorem dX9_init_26 : decode cX9_init 26 = .ok (.aload_n 0, 1) := by decide +kernel
theorem dX9_init_27 : decode cX9_init 27 = .ok (.new 7, 3) := by decide +kernel
theorem dX9_init_30 : decode cX9_init 30 = .ok (.dup, 1) := by decide +kernel
theorem dX9_init_31 : decode cX9_init 31 = .ok (.invokespecial 9, 3) := by decide +kernel
theorem dX9_init_34 : decode cX9_init 34 = .ok (.putfield 19, 3) := by decide +kernel
theorem dX9_init_37 : decode cX9_init 37 = .ok (.aload_n 0, 1) := by decide +kernel
theorem dX9_init_38 : decode cX9_init 38 = .ok (.new 22, 3) := by decide +kernel
theorem dX9_init_41 : decode cX9_init 41 = .ok (.dup, 1) := by decide +kernel
theorem dX9_init_42 : decode cX9_init 42 = .ok (.invokespecial 24, 3) := by decide +kernel
theorem dX9_init_45 : decode cX9_init 45 = .ok (.putfield 25, 3) := by decide +kernel
theorem dX9_init_48 : decode cX9_init 48 = .ok (.aload_n 0, 1) := by decide +kernel
theorem dX9_init_49 : decode cX9_init 49 = .ok (.new 29, 3) := by decide +kernel
theorem dX9_init_52 : decode cX9_init 52 = .ok (.dup, 1) := by decide +kernel
theorem dX9_init_53 : decode cX9_init 53 = .ok (.invokespecial 31, 3) := by decide +kernel
theorem dX9_init_56 : decode cX9_init 56 = .ok (.putfield 32, 3) := by decide +kernel
theorem dX9_init_59 : decode cX9_init 59 = .ok (.aload_n 0, 1) := by decide +kernel
theorem dX9_init_60 : decode cX9_init 60 = .ok (.new 36, 3) := by decide +kernel
theorem dX9_init_63 : decode cX9_init 63 = .ok (.dup, 1) := by decide +kernel
theorem dX9_init_64 : decode cX9_init 64 = .ok (.invokespecial 38, 3) := by decide +kernel
theorem dX9_init_67 : decode cX9_init 67 = .ok (.putfield 39, 3) := by decide +kernel
theorem dX9_init_70 : decode cX9_init 70 = .ok (.return_, 1) := by decide +kernel
theorem dX9_setPort_0 : decode cX9_setPort 0 = .ok (.iload_n 1, 1) := by decide +kernel
theorem dX9_setPort_1 : decode cX9_setPort 1 = .ok (.invokestatic 43, 3) := by decide +kernel
theorem dX9_setPort_4 : decode cX9_setPort 4 = .ok (.ifCond .ne 5, 3) := by decide +kernel
theorem dX9_setPort_7 : decode cX9_setPort 7 = .ok (.iconst (-1), 1) := by decide +kernel
theorem dX9_setPort_8 : decode cX9_setPort 8 = .ok (.ireturn, 1) := by decide +kernel
theorem dX9_setPort_9 : decode cX9_setPort 9 = .ok (.aload_n 0, 1) := by decide +kernel
theorem dX9_setPort_10 : decode cX9_setPort 10 = .ok (.getfield 10, 3) := by decide +kernel
theorem dX9_setPort_13 : decode cX9_setPort 13 = .ok (.getfield 47, 3) := by decide +kernel
theorem dX9_setPort_16 : decode cX9_setPort 16 = .ok (.iload_n 1, 1) := by decide +kernel
theorem dX9_setPort_17 : decode cX9_setPort 17 = .ok (.invokevirtual 51, 3) := by decide +kernel
theorem dX9_setPort_20 : decode cX9_setPort 20 = .ok (.iload_n 2, 1) := by decide +kernel
theorem dX9_setPort_21 : decode cX9_setPort 21 = .ok (.if_icmp .ne 6, 3) := by decide +kernel
theorem dX9_setPort_24 : decode cX9_setPort 24 = .ok (.bipush (-4), 2) := by decide +kernel
theorem dX9_setPort_26 : decode cX9_setPort 26 = .ok (.ireturn, 1) := by decide +kernel
theorem dX9_setPort_27 : decode cX9_setPort 27 = .ok (.aload_n 0, 1) := by decide +kernel
theorem dX9_setPort_28 : decode cX9_setPort 28 = .ok (.getfield 25, 3) := by decide +kernel
theorem dX9_setPort_31 : decode cX9_setPort 31 = .ok (.aload_n 0, 1) := by decide +kernel
theorem dX9_setPort_32 : decode cX9_setPort 32 = .ok (.getfield 10, 3) := by decide +kernel
theorem dX9_setPort_35 : decode cX9_setPort 35 = .ok (.invokevirtual 56, 3) := by decide +kernel
theorem dX9_setPort_38 : decode cX9_setPort 38 = .ok (.aload_n 0, 1) := by decide +kernel
theorem dX9_setPort_39 : decode cX9_setPort 39 = .ok (.getfield 10, 3) := by decide +kernel
theorem dX9_setPort_42 : decode cX9_setPort 42 = .ok (.getfield 47, 3) := by decide +kernel
theorem dX9_setPort_45 : decode cX9_setPort 45 = .ok (.iload_n 1, 1) := by decide +kernel
theorem dX9_setPort_46 : decode cX9_setPort 46 = .ok (.iload_n 2, 1) := by decide +kernel
theorem dX9_setPort_47 : decode cX9_setPort 47 = .ok (.invokevirtual 60, 3) := by decide +kernel
theorem dX9_setPort_50 : decode cX9_setPort 50 = .ok (.iload_n 2, 1) := by decide +kernel
theorem dX9_setPort_51 : decode cX9_setPort 51 = .ok (.ifCond .ne 11, 3) := by decide +kernel
theorem dX9_setPort_54 : decode cX9_setPort 54 = .ok (.aload_n 0, 1) := by decide +kernel
theorem dX9_setPort_55 : decode cX9_setPort 55 = .ok (.getfield 10, 3) := by decide +kernel
theorem dX9_setPort_58 : decode cX9_setPort 58 = .ok (.iload_n 1, 1) := by decide +kernel
theorem dX9_setPort_59 : decode cX9_setPort 59 = .ok (.invokevirtual 64, 3) := by decide +kernel
theorem dX9_setPort_62 : decode cX9_setPort 62 = .ok (.aload_n 0, 1) := by decide +kernel
theorem dX9_setPort_63 : decode cX9_setPort 63 = .ok (.getfield 10, 3) := by decide +kernel
theorem dX9_setPort_66 : decode cX9_setPort 66 = .ok (.getfield 47, 3) := by decide +kernel
theorem dX9_setPort_69 : decode cX9_setPort 69 = .ok (.invokevirtual 68, 3) := by decide +kernel
theorem dX9_setPort_72 : decode cX9_setPort 72 = .ok (.invokestatic 72, 3) := by decide +kernel
theorem dX9_setPort_75 : decode cX9_setPort 75 = .ok (.ireturn, 1) := by decide +kernel
theorem dX9_join_0 : decode cX9_join 0 = .ok (.iload_n 1, 1) := by decide +kernel
theorem dX9_join_1 : decode cX9_join 1 = .ok (.invokestatic 43, 3) := by decide +kernel
theorem dX9_join_4 : decode cX9_join 4 = .ok (.ifCond .eq 10, 3) := by decide +kernel
theorem dX9_join_7 : decode cX9_join 7 = .ok (.iload_n 2, 1) := by decide +kernel
theorem dX9_join_8 : decode cX9_join 8 = .ok (.invokestatic 43, 3) := by decide +kernel
theorem dX9_join_11 : decode cX9_join 11 = .ok (.ifCond .ne 5, 3) := by decide +kernel
theorem dX9_join_14 : decode cX9_join 14 = .ok (.iconst (-1), 1) := by decide +kernel
theorem dX9_join_15 : decode cX9_join 15 = .ok (.ireturn, 1) := by decide +kernel
theorem dX9_join_16 : decode cX9_join 16 = .ok (.iload_n 1, 1) := by decide +kernel
theorem dX9_join_17 : decode cX9_join 17 = .ok (.iload_n 2, 1) := by decide +kernel
theorem dX9_join_18 : decode cX9_join 18 = .ok (.if_icmp .ne 6, 3) := by decide +kernel
theorem dX9_join_21 : decode cX9_join 21 = .ok (.bipush (-2), 2) := by decide +kernel
theorem dX9_join_23 : decode cX9_join 23 = .ok (.ireturn, 1) := by decide +kernel
theorem dX9_join_24 : decode cX9_join 24 = .ok (.aload_n 0, 1) := by decide +kernel
theorem dX9_join_25 : decode cX9_join 25 = .ok (.getfield 10, 3) := by decide +kernel
theorem dX9_join_28 : decode cX9_join 28 = .ok (.getfield 47, 3) := by decide +kernel
theorem dX9_join_31 : decode cX9_join 31 = .ok (.iload_n 1, 1) := by decide +kernel
theorem dX9_join_32 : decode cX9_join 32 = .ok (.invokevirtual 78, 3) := by decide +kernel
theorem dX9_join_35 : decode cX9_join 35 = .ok (.bipush (-4), 2) := by decide +kernel
theorem dX9_join_37 : decode cX9_join 37 = .ok (.if_icmp .ne 19, 3) := by decide +kernel
theorem dX9_join_40 : decode cX9_join 40 = .ok (.aload_n 0, 1) := by decide +kernel
theorem dX9_join_41 : decode cX9_join 41 = .ok (.getfield 10, 3) := by decide +kernel
theorem dX9_join_44 : decode cX9_join 44 = .ok (.getfield 47, 3) := by decide +kernel
theorem dX9_join_47 : decode cX9_join 47 = .ok (.iload_n 2, 1) := by decide +kernel
theorem dX9_join_48 : decode cX9_join 48 = .ok (.invokevirtual 78, 3) := by decide +kernel
theorem dX9_join_51 : decode cX9_join 51 = .ok (.bipush (-4), 2) := by decide +kernel
theorem dX9_join_53 : decode cX9_join 53 = .ok (.if_icmp .eq 6, 3) := by decide +kernel
theorem dX9_join_56 : decode cX9_join 56 = .ok (.bipush (-3), 2) := by decide +kernel
theorem dX9_join_58 : decode cX9_join 58 = .ok (.ireturn, 1) := by decide +kernel
theorem dX9_join_59 : decode cX9_join 59 = .ok (.aload_n 0, 1) := by decide +kernel
theorem dX9_join_60 : decode cX9_join 60 = .ok (.getfield 25, 3) := by decide +kernel
theorem dX9_join_63 : decode cX9_join 63 = .ok (.aload_n 0, 1) := by decide +kernel
theorem dX9_join_64 : decode cX9_join 64 = .ok (.getfield 10, 3) := by decide +kernel
theorem dX9_join_67 : decode cX9_join 67 = .ok (.invokevirtual 56, 3) := by decide +kernel
theorem dX9_join_70 : decode cX9_join 70 = .ok (.aload_n 0, 1) := by decide +kernel
theorem dX9_join_71 : decode cX9_join 71 = .ok (.getfield 10, 3) := by decide +kernel
theorem dX9_join_74 : decode cX9_join 74 = .ok (.getfield 47, 3) := by decide +kernel
theorem dX9_join_77 : decode cX9_join 77 = .ok (.iload_n 1, 1) := by decide +kernel
theorem dX9_join_78 : decode cX9_join 78 = .ok (.iload_n 2, 1) := by decide +kernel
theorem dX9_join_79 : decode cX9_join 79 = .ok (.invokevirtual 81, 3) := by decide +kernel
theorem dX9_join_82 : decode cX9_join 82 = .ok (.aload_n 0, 1) := by decide +kernel
theorem dX9_join_83 : decode cX9_join 83 = .ok (.getfield 10, 3) := by decide +kernel
theorem dX9_join_86 : decode cX9_join 86 = .ok (.getfield 47, 3) := by decide +kernel
theorem dX9_join_89 : decode cX9_join 89 = .ok (.invokevirtual 85, 3) := by decide +kernel
theorem dX9_join_92 : decode cX9_join 92 = .ok (.ireturn, 1) := by decide +kernel
theorem dX9_part_0 : decode cX9_part 0 = .ok (.iload_n 1, 1) := by decide +kernel
theorem dX9_part_1 : decode cX9_part 1 = .ok (.invokestatic 43, 3) := by decide +kernel
theorem dX9_part_4 : decode cX9_part 4 = .ok (.ifCond .ne 5, 3) := by decide +kernel
theorem dX9_part_7 : decode cX9_part 7 = .ok (.iconst (-1), 1) := by decide +kernel
theorem dX9_part_8 : decode cX9_part 8 = .ok (.ireturn, 1) := by decide +kernel
theorem dX9_part_9 : decode cX9_part 9 = .ok (.aload_n 0, 1) := by decide +kernel
