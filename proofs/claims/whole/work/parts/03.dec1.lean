theorem dX9_join_53 : decode cX9_join 53 = .ok (.if_icmp .eq 6, 3) := by decide +kernel
theorem dX9_join_56 : decode cX9_join 56 = .ok (.bipush (-3), 2) := by decide +kernel
theorem dX9_join_58 : decode cX9_join 58 = .ok (.ireturn, 1) := by decide +kernel
theorem dX9_join_59 : decode cX9_join 59 = .ok (.aload_n 0, 1) := by decide +kernel
theorem dX9_join_60 : decode cX9_join 60 = .ok (.getfield 25, 3) := by decide +kernel
theorem dX9_join_63 : decode cX9_join 63 = .ok (.aload_n 0, 1) := by decide +kernel
theorem dX9_join_64 : decode cX9_join 64 = .ok (.getfield 10, 3) := by decide +kernel
theorem dX9_join_67 : decode cX9_join 67 = .ok (.invokevirtual 56, 3) := by decide +kernel
theorem dX9_join_70 : decode cX9_join 70 = .ok (.aload_n 0, 1) := by decide +kernel
theorem dX9_join_71 : decode cX9_join 71 = .ok (.getfield 10, 3) := by decide +kernel
theorem dX9_join_74 : decode cX9_join 74 = .ok (.getfield 47, 3) := by decide +kernel
theorem dX9_join_77 : decode cX9_join 77 = .ok (.iload_n 1, 1) := by decide +kernel
theorem dX9_join_78 : decode cX9_join 78 = .ok (.iload_n 2, 1) := by decide +kernel
theorem dX9_join_79 : decode cX9_join 79 = .ok (.invokevirtual 81, 3) := by decide +kernel
theorem dX9_join_82 : decode cX9_join 82 = .ok (.aload_n 0, 1) := by decide +kernel
theorem dX9_join_83 : decode cX9_join 83 = .ok (.getfield 10, 3) := by decide +kernel
theorem dX9_join_86 : decode cX9_join 86 = .ok (.getfield 47, 3) := by decide +kernel
theorem dX9_join_89 : decode cX9_join 89 = .ok (.invokevirtual 85, 3) := by decide +kernel
theorem dX9_join_92 : decode cX9_join 92 = .ok (.ireturn, 1) := by decide +kernel
theorem dX9_part_0 : decode cX9_part 0 = .ok (.iload_n 1, 1) := by decide +kernel
theorem dX9_part_1 : decode cX9_part 1 = .ok (.invokestatic 43, 3) := by decide +kernel
theorem dX9_part_4 : decode cX9_part 4 = .ok (.ifCond .ne 5, 3) := by decide +kernel
theorem dX9_part_7 : decode cX9_part 7 = .ok (.iconst (-1), 1) := by decide +kernel
theorem dX9_part_8 : decode cX9_part 8 = .ok (.ireturn, 1) := by decide +kernel
theorem dX9_part_9 : decode cX9_part 9 = .ok (.aload_n 0, 1) := by decide +kernel
theorem dX9_part_10 : decode cX9_part 10 = .ok (.getfield 10, 3) := by decide +kernel
theorem dX9_part_13 : decode cX9_part 13 = .ok (.getfield 47, 3) := by decide +kernel
theorem dX9_part_16 : decode cX9_part 16 = .ok (.iload_n 1, 1) := by decide +kernel
theorem dX9_part_17 : decode cX9_part 17 = .ok (.invokevirtual 78, 3) := by decide +kernel
theorem dX9_part_20 : decode cX9_part 20 = .ok (.istore_n 2, 1) := by decide +kernel
theorem dX9_part_21 : decode cX9_part 21 = .ok (.iload_n 2, 1) := by decide +kernel
theorem dX9_part_22 : decode cX9_part 22 = .ok (.bipush (-4), 2) := by decide +kernel
theorem dX9_part_24 : decode cX9_part 24 = .ok (.if_icmp .ne 6, 3) := by decide +kernel
theorem dX9_part_27 : decode cX9_part 27 = .ok (.bipush (-4), 2) := by decide +kernel
theorem dX9_part_29 : decode cX9_part 29 = .ok (.ireturn, 1) := by decide +kernel
theorem dX9_part_30 : decode cX9_part 30 = .ok (.aload_n 0, 1) := by decide +kernel
theorem dX9_part_31 : decode cX9_part 31 = .ok (.getfield 25, 3) := by decide +kernel
theorem dX9_part_34 : decode cX9_part 34 = .ok (.aload_n 0, 1) := by decide +kernel
theorem dX9_part_35 : decode cX9_part 35 = .ok (.getfield 10, 3) := by decide +kernel
theorem dX9_part_38 : decode cX9_part 38 = .ok (.invokevirtual 56, 3) := by decide +kernel
theorem dX9_part_41 : decode cX9_part 41 = .ok (.aload_n 0, 1) := by decide +kernel
theorem dX9_part_42 : decode cX9_part 42 = .ok (.getfield 10, 3) := by decide +kernel
theorem dX9_part_45 : decode cX9_part 45 = .ok (.getfield 47, 3) := by decide +kernel
theorem dX9_part_48 : decode cX9_part 48 = .ok (.iload_n 1, 1) := by decide +kernel
theorem dX9_part_49 : decode cX9_part 49 = .ok (.iload_n 2, 1) := by decide +kernel
theorem dX9_part_50 : decode cX9_part 50 = .ok (.invokevirtual 88, 3) := by decide +kernel
theorem dX9_part_53 : decode cX9_part 53 = .ok (.iload_n 2, 1) := by decide +kernel
theorem dX9_part_54 : decode cX9_part 54 = .ok (.ireturn, 1) := by decide +kernel
theorem dX9_release_0 : decode cX9_release 0 = .ok (.iload_n 1, 1) := by decide +kernel
theorem dX9_release_1 : decode cX9_release 1 = .ok (.invokestatic 43, 3) := by decide +kernel
theorem dX9_release_4 : decode cX9_release 4 = .ok (.ifCond .ne 5, 3) := by decide +kernel
theorem dX9_release_7 : decode cX9_release 7 = .ok (.iconst (-1), 1) := by decide +kernel
theorem dX9_release_8 : decode cX9_release 8 = .ok (.ireturn, 1) := by decide +kernel
theorem dX9_release_9 : decode cX9_release 9 = .ok (.aload_n 0, 1) := by decide +kernel
theorem dX9_release_10 : decode cX9_release 10 = .ok (.getfield 10, 3) := by decide +kernel
theorem dX9_release_13 : decode cX9_release 13 = .ok (.getfield 47, 3) := by decide +kernel
theorem dX9_release_16 : decode cX9_release 16 = .ok (.iload_n 1, 1) := by decide +kernel
theorem dX9_release_17 : decode cX9_release 17 = .ok (.invokevirtual 91, 3) := by decide +kernel
theorem dX9_release_20 : decode cX9_release 20 = .ok (.istore_n 2, 1) := by decide +kernel
theorem dX9_release_21 : decode cX9_release 21 = .ok (.iload_n 2, 1) := by decide +kernel
theorem dX9_release_22 : decode cX9_release 22 = .ok (.ifCond .ne 6, 3) := by decide +kernel
theorem dX9_release_25 : decode cX9_release 25 = .ok (.bipush (-4), 2) := by decide +kernel
theorem dX9_release_27 : decode cX9_release 27 = .ok (.ireturn, 1) := by decide +kernel
theorem dX9_release_28 : decode cX9_release 28 = .ok (.aload_n 0, 1) := by decide +kernel
theorem dX9_release_29 : decode cX9_release 29 = .ok (.getfield 25, 3) := by decide +kernel
theorem dX9_release_32 : decode cX9_release 32 = .ok (.aload_n 0, 1) := by decide +kernel
theorem dX9_release_33 : decode cX9_release 33 = .ok (.getfield 10, 3) := by decide +kernel
theorem dX9_release_36 : decode cX9_release 36 = .ok (.invokevirtual 56, 3) := by decide +kernel
theorem dX9_release_39 : decode cX9_release 39 = .ok (.aload_n 0, 1) := by decide +kernel
theorem dX9_release_40 : decode cX9_release 40 = .ok (.getfield 10, 3) := by decide +kernel
theorem dX9_release_43 : decode cX9_release 43 = .ok (.getfield 47, 3) := by decide +kernel
theorem dX9_release_46 : decode cX9_release 46 = .ok (.iload_n 1, 1) := by decide +kernel
theorem dX9_release_47 : decode cX9_release 47 = .ok (.invokevirtual 94, 3) := by decide +kernel
theorem dX9_release_50 : decode cX9_release 50 = .ok (.iload_n 2, 1) := by decide +kernel
theorem dX9_release_51 : decode cX9_release 51 = .ok (.ireturn, 1) := by decide +kernel
theorem dX9_set_0 : decode cX9_set 0 = .ok (.iload_n 1, 1) := by decide +kernel
theorem dX9_set_1 : decode cX9_set 1 = .ok (.invokestatic 97, 3) := by decide +kernel
theorem dX9_set_4 : decode cX9_set 4 = .ok (.ifCond .eq 17, 3) := by decide +kernel
theorem dX9_set_7 : decode cX9_set 7 = .ok (.iload_n 2, 1) := by decide +kernel
theorem dX9_set_8 : decode cX9_set 8 = .ok (.iconst 1, 1) := by decide +kernel
theorem dX9_set_9 : decode cX9_set 9 = .ok (.if_icmp .lt 12, 3) := by decide +kernel
theorem dX9_set_12 : decode cX9_set 12 = .ok (.iload_n 2, 1) := by decide +kernel
theorem dX9_set_13 : decode cX9_set 13 = .ok (.getstatic 100, 3) := by decide +kernel
theorem dX9_set_16 : decode cX9_set 16 = .ok (.iload_n 1, 1) := by decide +kernel
theorem dX9_set_17 : decode cX9_set 17 = .ok (.iaload, 1) := by decide +kernel
theorem dX9_set_18 : decode cX9_set 18 = .ok (.if_icmp .le 6, 3) := by decide +kernel
theorem dX9_set_21 : decode cX9_set 21 = .ok (.bipush (-2), 2) := by decide +kernel
theorem dX9_set_23 : decode cX9_set 23 = .ok (.ireturn, 1) := by decide +kernel
theorem dX9_set_24 : decode cX9_set 24 = .ok (.aload_n 0, 1) := by decide +kernel
theorem dX9_set_25 : decode cX9_set 25 = .ok (.getfield 10, 3) := by decide +kernel
theorem dX9_set_28 : decode cX9_set 28 = .ok (.getfield 104, 3) := by decide +kernel
theorem dX9_set_31 : decode cX9_set 31 = .ok (.iload_n 1, 1) := by decide +kernel
theorem dX9_set_32 : decode cX9_set 32 = .ok (.invokevirtual 108, 3) := by decide +kernel
theorem dX9_set_35 : decode cX9_set 35 = .ok (.istore_n 3, 1) := by decide +kernel
theorem dX9_set_36 : decode cX9_set 36 = .ok (.iload_n 3, 1) := by decide +kernel
theorem dX9_set_37 : decode cX9_set 37 = .ok (.iload_n 2, 1) := by decide +kernel
theorem dX9_set_38 : decode cX9_set 38 = .ok (.if_icmp .ne 6, 3) := by decide +kernel
theorem dX9_set_41 : decode cX9_set 41 = .ok (.bipush (-4), 2) := by decide +kernel
theorem dX9_set_43 : decode cX9_set 43 = .ok (.ireturn, 1) := by decide +kernel
theorem dX9_set_44 : decode cX9_set 44 = .ok (.aload_n 0, 1) := by decide +kernel
theorem dX9_set_45 : decode cX9_set 45 = .ok (.getfield 25, 3) := by decide +kernel
theorem dX9_set_48 : decode cX9_set 48 = .ok (.aload_n 0, 1) := by decide +kernel
theorem dX9_set_49 : decode cX9_set 49 = .ok (.getfield 10, 3) := by decide +kernel
theorem dX9_set_52 : decode cX9_set 52 = .ok (.invokevirtual 56, 3) := by decide +kernel
theorem dX9_set_55 : decode cX9_set 55 = .ok (.aload_n 0, 1) := by decide +kernel
theorem dX9_set_56 : decode cX9_set 56 = .ok (.getfield 10, 3) := by decide +kernel
theorem dX9_set_59 : decode cX9_set 59 = .ok (.getfield 104, 3) := by decide +kernel
theorem dX9_set_62 : decode cX9_set 62 = .ok (.iload_n 1, 1) := by decide +kernel
theorem dX9_set_63 : decode cX9_set 63 = .ok (.iload_n 2, 1) := by decide +kernel
theorem dX9_set_64 : decode cX9_set 64 = .ok (.invokevirtual 113, 3) := by decide +kernel
theorem dX9_set_67 : decode cX9_set 67 = .ok (.iload_n 3, 1) := by decide +kernel
theorem dX9_set_68 : decode cX9_set 68 = .ok (.ireturn, 1) := by decide +kernel
theorem dX9_frame_0 : decode cX9_frame 0 = .ok (.iload_n 1, 1) := by decide +kernel
theorem dX9_frame_1 : decode cX9_frame 1 = .ok (.invokestatic 43, 3) := by decide +kernel
theorem dX9_frame_4 : decode cX9_frame 4 = .ok (.ifCond .ne 5, 3) := by decide +kernel
theorem dX9_frame_7 : decode cX9_frame 7 = .ok (.iconst (-1), 1) := by decide +kernel
theorem dX9_frame_8 : decode cX9_frame 8 = .ok (.ireturn, 1) := by decide +kernel
theorem dX9_frame_9 : decode cX9_frame 9 = .ok (.iload_n 2, 1) := by decide +kernel
theorem dX9_frame_10 : decode cX9_frame 10 = .ok (.invokestatic 116, 3) := by decide +kernel
theorem dX9_frame_13 : decode cX9_frame 13 = .ok (.ifCond .eq 21, 3) := by decide +kernel
theorem dX9_frame_16 : decode cX9_frame 16 = .ok (.iload_n 3, 1) := by decide +kernel
theorem dX9_frame_17 : decode cX9_frame 17 = .ok (.invokestatic 119, 3) := by decide +kernel
theorem dX9_frame_20 : decode cX9_frame 20 = .ok (.ifCond .eq 14, 3) := by decide +kernel
theorem dX9_frame_23 : decode cX9_frame 23 = .ok (.iload 4, 2) := by decide +kernel
theorem dX9_frame_25 : decode cX9_frame 25 = .ok (.ifCond .lt 9, 3) := by decide +kernel
theorem dX9_frame_28 : decode cX9_frame 28 = .ok (.iload 4, 2) := by decide +kernel
theorem dX9_frame_30 : decode cX9_frame 30 = .ok (.iconst 3, 1) := by decide +kernel
theorem dX9_frame_31 : decode cX9_frame 31 = .ok (.if_icmp .le 6, 3) := by decide +kernel
theorem dX9_frame_34 : decode cX9_frame 34 = .ok (.bipush (-2), 2) := by decide +kernel
theorem dX9_frame_36 : decode cX9_frame 36 = .ok (.ireturn, 1) := by decide +kernel
theorem dX9_frame_37 : decode cX9_frame 37 = .ok (.aload_n 0, 1) := by decide +kernel
theorem dX9_frame_38 : decode cX9_frame 38 = .ok (.getfield 25, 3) := by decide +kernel
theorem dX9_frame_41 : decode cX9_frame 41 = .ok (.aload_n 0, 1) := by decide +kernel
theorem dX9_frame_42 : decode cX9_frame 42 = .ok (.getfield 10, 3) := by decide +kernel
theorem dX9_frame_45 : decode cX9_frame 45 = .ok (.invokevirtual 56, 3) := by decide +kernel
theorem dX9_frame_48 : decode cX9_frame 48 = .ok (.aload_n 0, 1) := by decide +kernel
theorem dX9_frame_49 : decode cX9_frame 49 = .ok (.getfield 10, 3) := by decide +kernel
theorem dX9_frame_52 : decode cX9_frame 52 = .ok (.iload_n 1, 1) := by decide +kernel
theorem dX9_frame_53 : decode cX9_frame 53 = .ok (.iload_n 2, 1) := by decide +kernel
theorem dX9_frame_54 : decode cX9_frame 54 = .ok (.iload_n 3, 1) := by decide +kernel
theorem dX9_frame_55 : decode cX9_frame 55 = .ok (.iload 4, 2) := by decide +kernel
theorem dX9_frame_57 : decode cX9_frame 57 = .ok (.invokevirtual 122, 3) := by decide +kernel
theorem dX9_frame_60 : decode cX9_frame 60 = .ok (.ireturn, 1) := by decide +kernel
theorem dX9_forget_0 : decode cX9_forget 0 = .ok (.iload_n 1, 1) := by decide +kernel
theorem dX9_forget_1 : decode cX9_forget 1 = .ok (.invokestatic 116, 3) := by decide +kernel
theorem dX9_forget_4 : decode cX9_forget 4 = .ok (.ifCond .ne 6, 3) := by decide +kernel
theorem dX9_forget_7 : decode cX9_forget 7 = .ok (.bipush (-2), 2) := by decide +kernel
theorem dX9_forget_9 : decode cX9_forget 9 = .ok (.ireturn, 1) := by decide +kernel
theorem dX9_forget_10 : decode cX9_forget 10 = .ok (.aload_n 0, 1) := by decide +kernel
theorem dX9_forget_11 : decode cX9_forget 11 = .ok (.getfield 10, 3) := by decide +kernel
theorem dX9_forget_14 : decode cX9_forget 14 = .ok (.getfield 126, 3) := by decide +kernel
theorem dX9_forget_17 : decode cX9_forget 17 = .ok (.iload_n 1, 1) := by decide +kernel
theorem dX9_forget_18 : decode cX9_forget 18 = .ok (.invokevirtual 130, 3) := by decide +kernel
theorem dX9_forget_21 : decode cX9_forget 21 = .ok (.istore_n 2, 1) := by decide +kernel
theorem dX9_forget_22 : decode cX9_forget 22 = .ok (.iload_n 2, 1) := by decide +kernel
theorem dX9_forget_23 : decode cX9_forget 23 = .ok (.bipush (-4), 2) := by decide +kernel
theorem dX9_forget_25 : decode cX9_forget 25 = .ok (.if_icmp .ne 6, 3) := by decide +kernel
theorem dX9_forget_28 : decode cX9_forget 28 = .ok (.bipush (-4), 2) := by decide +kernel
theorem dX9_forget_30 : decode cX9_forget 30 = .ok (.ireturn, 1) := by decide +kernel
theorem dX9_forget_31 : decode cX9_forget 31 = .ok (.aload_n 0, 1) := by decide +kernel
theorem dX9_forget_32 : decode cX9_forget 32 = .ok (.getfield 25, 3) := by decide +kernel
theorem dX9_forget_35 : decode cX9_forget 35 = .ok (.aload_n 0, 1) := by decide +kernel
theorem dX9_forget_36 : decode cX9_forget 36 = .ok (.getfield 10, 3) := by decide +kernel
theorem dX9_forget_39 : decode cX9_forget 39 = .ok (.invokevirtual 56, 3) := by decide +kernel
theorem dX9_forget_42 : decode cX9_forget 42 = .ok (.aload_n 0, 1) := by decide +kernel
theorem dX9_forget_43 : decode cX9_forget 43 = .ok (.getfield 10, 3) := by decide +kernel
theorem dX9_forget_46 : decode cX9_forget 46 = .ok (.getfield 126, 3) := by decide +kernel
theorem dX9_forget_49 : decode cX9_forget 49 = .ok (.iload_n 1, 1) := by decide +kernel
theorem dX9_forget_50 : decode cX9_forget 50 = .ok (.invokevirtual 135, 3) := by decide +kernel
theorem dX9_forget_53 : decode cX9_forget 53 = .ok (.iload_n 2, 1) := by decide +kernel
theorem dX9_forget_54 : decode cX9_forget 54 = .ok (.ireturn, 1) := by decide +kernel
theorem dX9_pass_0 : decode cX9_pass 0 = .ok (.iload_n 1, 1) := by decide +kernel
theorem dX9_pass_1 : decode cX9_pass 1 = .ok (.iconst 1, 1) := by decide +kernel
theorem dX9_pass_2 : decode cX9_pass 2 = .ok (.if_icmp .lt 9, 3) := by decide +kernel
theorem dX9_pass_5 : decode cX9_pass 5 = .ok (.iload_n 1, 1) := by decide +kernel
theorem dX9_pass_6 : decode cX9_pass 6 = .ok (.bipush 10, 2) := by decide +kernel
theorem dX9_pass_8 : decode cX9_pass 8 = .ok (.if_icmp .le 6, 3) := by decide +kernel
theorem dX9_pass_11 : decode cX9_pass 11 = .ok (.bipush (-2), 2) := by decide +kernel
theorem dX9_pass_13 : decode cX9_pass 13 = .ok (.ireturn, 1) := by decide +kernel
theorem dX9_pass_14 : decode cX9_pass 14 = .ok (.aload_n 0, 1) := by decide +kernel
theorem dX9_pass_15 : decode cX9_pass 15 = .ok (.getfield 25, 3) := by decide +kernel
theorem dX9_pass_18 : decode cX9_pass 18 = .ok (.aload_n 0, 1) := by decide +kernel
theorem dX9_pass_19 : decode cX9_pass 19 = .ok (.getfield 10, 3) := by decide +kernel
theorem dX9_pass_22 : decode cX9_pass 22 = .ok (.invokevirtual 56, 3) := by decide +kernel
theorem dX9_pass_25 : decode cX9_pass 25 = .ok (.iconst 0, 1) := by decide +kernel
theorem dX9_pass_26 : decode cX9_pass 26 = .ok (.istore_n 2, 1) := by decide +kernel
theorem dX9_pass_27 : decode cX9_pass 27 = .ok (.iconst 0, 1) := by decide +kernel
theorem dX9_pass_28 : decode cX9_pass 28 = .ok (.istore_n 3, 1) := by decide +kernel
theorem dX9_pass_29 : decode cX9_pass 29 = .ok (.iload_n 3, 1) := by decide +kernel
theorem dX9_pass_30 : decode cX9_pass 30 = .ok (.iload_n 1, 1) := by decide +kernel
theorem dX9_pass_31 : decode cX9_pass 31 = .ok (.if_icmp .ge 42, 3) := by decide +kernel
theorem dX9_pass_34 : decode cX9_pass 34 = .ok (.iload_n 2, 1) := by decide +kernel
theorem dX9_pass_35 : decode cX9_pass 35 = .ok (.aload_n 0, 1) := by decide +kernel
theorem dX9_pass_36 : decode cX9_pass 36 = .ok (.getfield 10, 3) := by decide +kernel
theorem dX9_pass_39 : decode cX9_pass 39 = .ok (.aload_n 0, 1) := by decide +kernel
theorem dX9_pass_40 : decode cX9_pass 40 = .ok (.getfield 39, 3) := by decide +kernel
theorem dX9_pass_43 : decode cX9_pass 43 = .ok (.invokevirtual 138, 3) := by decide +kernel
theorem dX9_pass_46 : decode cX9_pass 46 = .ok (.iadd, 1) := by decide +kernel
theorem dX9_pass_47 : decode cX9_pass 47 = .ok (.istore_n 2, 1) := by decide +kernel
theorem dX9_pass_48 : decode cX9_pass 48 = .ok (.aload_n 0, 1) := by decide +kernel
theorem dX9_pass_49 : decode cX9_pass 49 = .ok (.getfield 10, 3) := by decide +kernel
theorem dX9_pass_52 : decode cX9_pass 52 = .ok (.aload_n 0, 1) := by decide +kernel
theorem dX9_pass_53 : decode cX9_pass 53 = .ok (.getfield 39, 3) := by decide +kernel
theorem dX9_pass_56 : decode cX9_pass 56 = .ok (.invokevirtual 142, 3) := by decide +kernel
theorem dX9_pass_59 : decode cX9_pass 59 = .ok (.pop, 1) := by decide +kernel
theorem dX9_pass_60 : decode cX9_pass 60 = .ok (.aload_n 0, 1) := by decide +kernel
theorem dX9_pass_61 : decode cX9_pass 61 = .ok (.getfield 10, 3) := by decide +kernel
theorem dX9_pass_64 : decode cX9_pass 64 = .ok (.invokevirtual 145, 3) := by decide +kernel
theorem dX9_pass_67 : decode cX9_pass 67 = .ok (.iinc 3 1, 3) := by decide +kernel
theorem dX9_pass_70 : decode cX9_pass 70 = .ok (.goto (-41), 3) := by decide +kernel
theorem dX9_pass_73 : decode cX9_pass 73 = .ok (.iload_n 2, 1) := by decide +kernel
theorem dX9_pass_74 : decode cX9_pass 74 = .ok (.ireturn, 1) := by decide +kernel
theorem dX9_type_0 : decode cX9_type 0 = .ok (.aload_n 0, 1) := by decide +kernel
theorem dX9_type_1 : decode cX9_type 1 = .ok (.getfield 32, 3) := by decide +kernel
theorem dX9_type_4 : decode cX9_type 4 = .ok (.iload_n 1, 1) := by decide +kernel
theorem dX9_type_5 : decode cX9_type 5 = .ok (.invokevirtual 148, 3) := by decide +kernel
theorem dX9_type_8 : decode cX9_type 8 = .ok (.ifCond .eq 13, 3) := by decide +kernel
theorem dX9_type_11 : decode cX9_type 11 = .ok (.aload_n 0, 1) := by decide +kernel
theorem dX9_type_12 : decode cX9_type 12 = .ok (.getfield 32, 3) := by decide +kernel
theorem dX9_type_15 : decode cX9_type 15 = .ok (.getfield 152, 3) := by decide +kernel
theorem dX9_type_18 : decode cX9_type 18 = .ok (.goto 5, 3) := by decide +kernel
theorem dX9_type_21 : decode cX9_type 21 = .ok (.bipush (-3), 2) := by decide +kernel
theorem dX9_type_23 : decode cX9_type 23 = .ok (.ireturn, 1) := by decide +kernel
theorem dX9_clearText_0 : decode cX9_clearText 0 = .ok (.aload_n 0, 1) := by decide +kernel
theorem dX9_clearText_1 : decode cX9_clearText 1 = .ok (.getfield 32, 3) := by decide +kernel
theorem dX9_clearText_4 : decode cX9_clearText 4 = .ok (.getfield 152, 3) := by decide +kernel
theorem dX9_clearText_7 : decode cX9_clearText 7 = .ok (.istore_n 1, 1) := by decide +kernel
theorem dX9_clearText_8 : decode cX9_clearText 8 = .ok (.aload_n 0, 1) := by decide +kernel
theorem dX9_clearText_9 : decode cX9_clearText 9 = .ok (.getfield 32, 3) := by decide +kernel
theorem dX9_clearText_12 : decode cX9_clearText 12 = .ok (.iconst 0, 1) := by decide +kernel
theorem dX9_clearText_13 : decode cX9_clearText 13 = .ok (.putfield 152, 3) := by decide +kernel
theorem dX9_clearText_16 : decode cX9_clearText 16 = .ok (.iload_n 1, 1) := by decide +kernel
theorem dX9_clearText_17 : decode cX9_clearText 17 = .ok (.ireturn, 1) := by decide +kernel
theorem dX9_readFrames_0 : decode cX9_readFrames 0 = .ok (.aload_n 0, 1) := by decide +kernel
theorem dX9_readFrames_1 : decode cX9_readFrames 1 = .ok (.getfield 32, 3) := by decide +kernel
theorem dX9_readFrames_4 : decode cX9_readFrames 4 = .ok (.aload_n 0, 1) := by decide +kernel
theorem dX9_readFrames_5 : decode cX9_readFrames 5 = .ok (.getfield 39, 3) := by decide +kernel
theorem dX9_readFrames_8 : decode cX9_readFrames 8 = .ok (.invokevirtual 156, 3) := by decide +kernel
theorem dX9_readFrames_11 : decode cX9_readFrames 11 = .ok (.istore_n 1, 1) := by decide +kernel
theorem dX9_readFrames_12 : decode cX9_readFrames 12 = .ok (.iload_n 1, 1) := by decide +kernel
theorem dX9_readFrames_13 : decode cX9_readFrames 13 = .ok (.iconst (-1), 1) := by decide +kernel
theorem dX9_readFrames_14 : decode cX9_readFrames 14 = .ok (.if_icmp .eq 8, 3) := by decide +kernel
theorem dX9_readFrames_17 : decode cX9_readFrames 17 = .ok (.bipush (-100), 2) := by decide +kernel
theorem dX9_readFrames_19 : decode cX9_readFrames 19 = .ok (.iload_n 1, 1) := by decide +kernel
theorem dX9_readFrames_20 : decode cX9_readFrames 20 = .ok (.isub, 1) := by decide +kernel
theorem dX9_readFrames_21 : decode cX9_readFrames 21 = .ok (.ireturn, 1) := by decide +kernel
theorem dX9_readFrames_22 : decode cX9_readFrames 22 = .ok (.aload_n 0, 1) := by decide +kernel
theorem dX9_readFrames_23 : decode cX9_readFrames 23 = .ok (.getfield 25, 3) := by decide +kernel
theorem dX9_readFrames_26 : decode cX9_readFrames 26 = .ok (.aload_n 0, 1) := by decide +kernel
theorem dX9_readFrames_27 : decode cX9_readFrames 27 = .ok (.getfield 10, 3) := by decide +kernel
theorem dX9_readFrames_30 : decode cX9_readFrames 30 = .ok (.invokevirtual 56, 3) := by decide +kernel
theorem dX9_readFrames_33 : decode cX9_readFrames 33 = .ok (.aload_n 0, 1) := by decide +kernel
theorem dX9_readFrames_34 : decode cX9_readFrames 34 = .ok (.getfield 10, 3) := by decide +kernel
theorem dX9_readFrames_37 : decode cX9_readFrames 37 = .ok (.aload_n 0, 1) := by decide +kernel
theorem dX9_readFrames_38 : decode cX9_readFrames 38 = .ok (.getfield 39, 3) := by decide +kernel
theorem dX9_readFrames_41 : decode cX9_readFrames 41 = .ok (.invokevirtual 142, 3) := by decide +kernel
theorem dX9_readFrames_44 : decode cX9_readFrames 44 = .ok (.ireturn, 1) := by decide +kernel
theorem dX9_undo_0 : decode cX9_undo 0 = .ok (.aload_n 0, 1) := by decide +kernel
theorem dX9_undo_1 : decode cX9_undo 1 = .ok (.getfield 25, 3) := by decide +kernel
theorem dX9_undo_4 : decode cX9_undo 4 = .ok (.aload_n 0, 1) := by decide +kernel
theorem dX9_undo_5 : decode cX9_undo 5 = .ok (.getfield 10, 3) := by decide +kernel
theorem dX9_undo_8 : decode cX9_undo 8 = .ok (.invokevirtual 159, 3) := by decide +kernel
theorem dX9_undo_11 : decode cX9_undo 11 = .ok (.ifCond .eq 13, 3) := by decide +kernel
theorem dX9_undo_14 : decode cX9_undo 14 = .ok (.aload_n 0, 1) := by decide +kernel
theorem dX9_undo_15 : decode cX9_undo 15 = .ok (.getfield 25, 3) := by decide +kernel
theorem dX9_undo_18 : decode cX9_undo 18 = .ok (.getfield 163, 3) := by decide +kernel
theorem dX9_undo_21 : decode cX9_undo 21 = .ok (.goto 5, 3) := by decide +kernel
theorem dX9_undo_24 : decode cX9_undo 24 = .ok (.bipush (-4), 2) := by decide +kernel
theorem dX9_undo_26 : decode cX9_undo 26 = .ok (.ireturn, 1) := by decide +kernel
theorem dX9_keep_0 : decode cX9_keep 0 = .ok (.aload_n 0, 1) := by decide +kernel
theorem dX9_keep_1 : decode cX9_keep 1 = .ok (.getfield 16, 3) := by decide +kernel
theorem dX9_keep_4 : decode cX9_keep 4 = .ok (.aload_n 0, 1) := by decide +kernel
theorem dX9_keep_5 : decode cX9_keep 5 = .ok (.getfield 10, 3) := by decide +kernel
theorem dX9_keep_8 : decode cX9_keep 8 = .ok (.invokevirtual 166, 3) := by decide +kernel
theorem dX9_keep_11 : decode cX9_keep 11 = .ok (.aload_n 0, 1) := by decide +kernel
theorem dX9_keep_12 : decode cX9_keep 12 = .ok (.iconst 1, 1) := by decide +kernel
theorem dX9_keep_13 : decode cX9_keep 13 = .ok (.putfield 169, 3) := by decide +kernel
theorem dX9_keep_16 : decode cX9_keep 16 = .ok (.aload_n 0, 1) := by decide +kernel
theorem dX9_keep_17 : decode cX9_keep 17 = .ok (.getfield 10, 3) := by decide +kernel
theorem dX9_keep_20 : decode cX9_keep 20 = .ok (.getfield 173, 3) := by decide +kernel
theorem dX9_keep_23 : decode cX9_keep 23 = .ok (.ireturn, 1) := by decide +kernel
theorem dX9_restore_0 : decode cX9_restore 0 = .ok (.aload_n 0, 1) := by decide +kernel
theorem dX9_restore_1 : decode cX9_restore 1 = .ok (.getfield 169, 3) := by decide +kernel
theorem dX9_restore_4 : decode cX9_restore 4 = .ok (.ifCond .ne 6, 3) := by decide +kernel
theorem dX9_restore_7 : decode cX9_restore 7 = .ok (.bipush (-4), 2) := by decide +kernel
theorem dX9_restore_9 : decode cX9_restore 9 = .ok (.ireturn, 1) := by decide +kernel
theorem dX9_restore_10 : decode cX9_restore 10 = .ok (.aload_n 0, 1) := by decide +kernel
theorem dX9_restore_11 : decode cX9_restore 11 = .ok (.getfield 25, 3) := by decide +kernel
theorem dX9_restore_14 : decode cX9_restore 14 = .ok (.aload_n 0, 1) := by decide +kernel
theorem dX9_restore_15 : decode cX9_restore 15 = .ok (.getfield 10, 3) := by decide +kernel
theorem dX9_restore_18 : decode cX9_restore 18 = .ok (.invokevirtual 56, 3) := by decide +kernel
theorem dX9_restore_21 : decode cX9_restore 21 = .ok (.aload_n 0, 1) := by decide +kernel
theorem dX9_restore_22 : decode cX9_restore 22 = .ok (.getfield 10, 3) := by decide +kernel
theorem dX9_restore_25 : decode cX9_restore 25 = .ok (.aload_n 0, 1) := by decide +kernel
theorem dX9_restore_26 : decode cX9_restore 26 = .ok (.getfield 16, 3) := by decide +kernel
theorem dX9_restore_29 : decode cX9_restore 29 = .ok (.invokevirtual 166, 3) := by decide +kernel
theorem dX9_restore_32 : decode cX9_restore 32 = .ok (.aload_n 0, 1) := by decide +kernel
theorem dX9_restore_33 : decode cX9_restore 33 = .ok (.getfield 10, 3) := by decide +kernel
theorem dX9_restore_36 : decode cX9_restore 36 = .ok (.getfield 173, 3) := by decide +kernel
theorem dX9_restore_39 : decode cX9_restore 39 = .ok (.ireturn, 1) := by decide +kernel
theorem dX9_port_0 : decode cX9_port 0 = .ok (.iload_n 1, 1) := by decide +kernel
theorem dX9_port_1 : decode cX9_port 1 = .ok (.invokestatic 43, 3) := by decide +kernel
theorem dX9_port_4 : decode cX9_port 4 = .ok (.ifCond .ne 5, 3) := by decide +kernel
theorem dX9_port_7 : decode cX9_port 7 = .ok (.iconst (-1), 1) := by decide +kernel
theorem dX9_port_8 : decode cX9_port 8 = .ok (.ireturn, 1) := by decide +kernel
theorem dX9_port_9 : decode cX9_port 9 = .ok (.iload_n 2, 1) := by decide +kernel
theorem dX9_port_10 : decode cX9_port 10 = .ok (.tableswitch 167 0 7 #[46, 66, 86, 98, 113, 125, 140, 152], 46) := by decide +kernel
theorem dX9_port_56 : decode cX9_port 56 = .ok (.aload_n 0, 1) := by decide +kernel
theorem dX9_port_57 : decode cX9_port 57 = .ok (.getfield 10, 3) := by decide +kernel
theorem dX9_port_60 : decode cX9_port 60 = .ok (.getfield 47, 3) := by decide +kernel
theorem dX9_port_63 : decode cX9_port 63 = .ok (.iload_n 1, 1) := by decide +kernel
theorem dX9_port_64 : decode cX9_port 64 = .ok (.invokevirtual 51, 3) := by decide +kernel
theorem dX9_port_67 : decode cX9_port 67 = .ok (.ifCond .eq 7, 3) := by decide +kernel
theorem dX9_port_70 : decode cX9_port 70 = .ok (.iconst 1, 1) := by decide +kernel
theorem dX9_port_71 : decode cX9_port 71 = .ok (.goto 4, 3) := by decide +kernel
theorem dX9_port_74 : decode cX9_port 74 = .ok (.iconst 0, 1) := by decide +kernel
theorem dX9_port_75 : decode cX9_port 75 = .ok (.ireturn, 1) := by decide +kernel
theorem dX9_port_76 : decode cX9_port 76 = .ok (.aload_n 0, 1) := by decide +kernel
theorem dX9_port_77 : decode cX9_port 77 = .ok (.getfield 10, 3) := by decide +kernel
theorem dX9_port_80 : decode cX9_port 80 = .ok (.getfield 47, 3) := by decide +kernel
theorem dX9_port_83 : decode cX9_port 83 = .ok (.iload_n 1, 1) := by decide +kernel
theorem dX9_port_84 : decode cX9_port 84 = .ok (.invokevirtual 176, 3) := by decide +kernel
theorem dX9_port_87 : decode cX9_port 87 = .ok (.ifCond .eq 7, 3) := by decide +kernel
theorem dX9_port_90 : decode cX9_port 90 = .ok (.iconst 1, 1) := by decide +kernel
theorem dX9_port_91 : decode cX9_port 91 = .ok (.goto 4, 3) := by decide +kernel
theorem dX9_port_94 : decode cX9_port 94 = .ok (.iconst 0, 1) := by decide +kernel
theorem dX9_port_95 : decode cX9_port 95 = .ok (.ireturn, 1) := by decide +kernel
theorem dX9_port_96 : decode cX9_port 96 = .ok (.aload_n 0, 1) := by decide +kernel
theorem dX9_port_97 : decode cX9_port 97 = .ok (.getfield 10, 3) := by decide +kernel
theorem dX9_port_100 : decode cX9_port 100 = .ok (.getfield 47, 3) := by decide +kernel
theorem dX9_port_103 : decode cX9_port 103 = .ok (.iload_n 1, 1) := by decide +kernel
theorem dX9_port_104 : decode cX9_port 104 = .ok (.invokevirtual 91, 3) := by decide +kernel
theorem dX9_port_107 : decode cX9_port 107 = .ok (.ireturn, 1) := by decide +kernel
theorem dX9_port_108 : decode cX9_port 108 = .ok (.aload_n 0, 1) := by decide +kernel
theorem dX9_port_109 : decode cX9_port 109 = .ok (.getfield 10, 3) := by decide +kernel
theorem dX9_port_112 : decode cX9_port 112 = .ok (.getfield 47, 3) := by decide +kernel
theorem dX9_port_115 : decode cX9_port 115 = .ok (.getfield 179, 3) := by decide +kernel
theorem dX9_port_118 : decode cX9_port 118 = .ok (.iload_n 1, 1) := by decide +kernel
theorem dX9_port_119 : decode cX9_port 119 = .ok (.invokevirtual 108, 3) := by decide +kernel
theorem dX9_port_122 : decode cX9_port 122 = .ok (.ireturn, 1) := by decide +kernel
theorem dX9_port_123 : decode cX9_port 123 = .ok (.aload_n 0, 1) := by decide +kernel
theorem dX9_port_124 : decode cX9_port 124 = .ok (.getfield 10, 3) := by decide +kernel
theorem dX9_port_127 : decode cX9_port 127 = .ok (.getfield 47, 3) := by decide +kernel
theorem dX9_port_130 : decode cX9_port 130 = .ok (.iload_n 1, 1) := by decide +kernel
theorem dX9_port_131 : decode cX9_port 131 = .ok (.invokevirtual 78, 3) := by decide +kernel
theorem dX9_port_134 : decode cX9_port 134 = .ok (.ireturn, 1) := by decide +kernel
theorem dX9_port_135 : decode cX9_port 135 = .ok (.aload_n 0, 1) := by decide +kernel
theorem dX9_port_136 : decode cX9_port 136 = .ok (.getfield 10, 3) := by decide +kernel
theorem dX9_port_139 : decode cX9_port 139 = .ok (.getfield 182, 3) := by decide +kernel
theorem dX9_port_142 : decode cX9_port 142 = .ok (.getfield 186, 3) := by decide +kernel
theorem dX9_port_145 : decode cX9_port 145 = .ok (.iload_n 1, 1) := by decide +kernel
theorem dX9_port_146 : decode cX9_port 146 = .ok (.invokevirtual 108, 3) := by decide +kernel
theorem dX9_port_149 : decode cX9_port 149 = .ok (.ireturn, 1) := by decide +kernel
theorem dX9_port_150 : decode cX9_port 150 = .ok (.aload_n 0, 1) := by decide +kernel
theorem dX9_port_151 : decode cX9_port 151 = .ok (.getfield 10, 3) := by decide +kernel
theorem dX9_port_154 : decode cX9_port 154 = .ok (.getfield 126, 3) := by decide +kernel
theorem dX9_port_157 : decode cX9_port 157 = .ok (.iload_n 1, 1) := by decide +kernel
theorem dX9_port_158 : decode cX9_port 158 = .ok (.invokevirtual 191, 3) := by decide +kernel
theorem dX9_port_161 : decode cX9_port 161 = .ok (.ireturn, 1) := by decide +kernel
theorem dX9_port_162 : decode cX9_port 162 = .ok (.aload_n 0, 1) := by decide +kernel
theorem dX9_port_163 : decode cX9_port 163 = .ok (.getfield 10, 3) := by decide +kernel
theorem dX9_port_166 : decode cX9_port 166 = .ok (.getfield 47, 3) := by decide +kernel
theorem dX9_port_169 : decode cX9_port 169 = .ok (.getfield 194, 3) := by decide +kernel
theorem dX9_port_172 : decode cX9_port 172 = .ok (.iload_n 1, 1) := by decide +kernel
theorem dX9_port_173 : decode cX9_port 173 = .ok (.invokevirtual 108, 3) := by decide +kernel
theorem dX9_port_176 : decode cX9_port 176 = .ok (.ireturn, 1) := by decide +kernel
theorem dX9_port_177 : decode cX9_port 177 = .ok (.bipush (-2), 2) := by decide +kernel
theorem dX9_port_179 : decode cX9_port 179 = .ok (.ireturn, 1) := by decide +kernel
theorem dX9_account_0 : decode cX9_account 0 = .ok (.iload_n 1, 1) := by decide +kernel
theorem dX9_account_1 : decode cX9_account 1 = .ok (.invokestatic 43, 3) := by decide +kernel
theorem dX9_account_4 : decode cX9_account 4 = .ok (.ifCond .ne 5, 3) := by decide +kernel
theorem dX9_account_7 : decode cX9_account 7 = .ok (.iconst (-1), 1) := by decide +kernel
theorem dX9_account_8 : decode cX9_account 8 = .ok (.ireturn, 1) := by decide +kernel
theorem dX9_account_9 : decode cX9_account 9 = .ok (.iload_n 2, 1) := by decide +kernel
theorem dX9_account_10 : decode cX9_account 10 = .ok (.ifCond .lt 9, 3) := by decide +kernel
theorem dX9_account_13 : decode cX9_account 13 = .ok (.iload_n 2, 1) := by decide +kernel
theorem dX9_account_14 : decode cX9_account 14 = .ok (.bipush 11, 2) := by decide +kernel
theorem dX9_account_16 : decode cX9_account 16 = .ok (.if_icmp .lt 6, 3) := by decide +kernel
theorem dX9_account_19 : decode cX9_account 19 = .ok (.bipush (-2), 2) := by decide +kernel
theorem dX9_account_21 : decode cX9_account 21 = .ok (.ireturn, 1) := by decide +kernel
theorem dX9_account_22 : decode cX9_account 22 = .ok (.aload_n 0, 1) := by decide +kernel
theorem dX9_account_23 : decode cX9_account 23 = .ok (.getfield 10, 3) := by decide +kernel
theorem dX9_account_26 : decode cX9_account 26 = .ok (.getfield 47, 3) := by decide +kernel
theorem dX9_account_29 : decode cX9_account 29 = .ok (.iload_n 1, 1) := by decide +kernel
theorem dX9_account_30 : decode cX9_account 30 = .ok (.iload_n 2, 1) := by decide +kernel
theorem dX9_account_31 : decode cX9_account 31 = .ok (.invokevirtual 197, 3) := by decide +kernel
theorem dX9_account_34 : decode cX9_account 34 = .ok (.ireturn, 1) := by decide +kernel
theorem dX9_entry_0 : decode cX9_entry 0 = .ok (.iload_n 1, 1) := by decide +kernel
theorem dX9_entry_1 : decode cX9_entry 1 = .ok (.ifCond .lt 12, 3) := by decide +kernel
theorem dX9_entry_4 : decode cX9_entry 4 = .ok (.iload_n 2, 1) := by decide +kernel
theorem dX9_entry_5 : decode cX9_entry 5 = .ok (.ifCond .lt 8, 3) := by decide +kernel
theorem dX9_entry_8 : decode cX9_entry 8 = .ok (.iload_n 2, 1) := by decide +kernel
theorem dX9_entry_9 : decode cX9_entry 9 = .ok (.iconst 3, 1) := by decide +kernel
theorem dX9_entry_10 : decode cX9_entry 10 = .ok (.if_icmp .le 6, 3) := by decide +kernel
theorem dX9_entry_13 : decode cX9_entry 13 = .ok (.bipush (-2), 2) := by decide +kernel
theorem dX9_entry_15 : decode cX9_entry 15 = .ok (.ireturn, 1) := by decide +kernel
theorem dX9_entry_16 : decode cX9_entry 16 = .ok (.iload_n 1, 1) := by decide +kernel
theorem dX9_entry_17 : decode cX9_entry 17 = .ok (.aload_n 0, 1) := by decide +kernel
theorem dX9_entry_18 : decode cX9_entry 18 = .ok (.getfield 10, 3) := by decide +kernel
theorem dX9_entry_21 : decode cX9_entry 21 = .ok (.getfield 126, 3) := by decide +kernel
theorem dX9_entry_24 : decode cX9_entry 24 = .ok (.getfield 201, 3) := by decide +kernel
theorem dX9_entry_27 : decode cX9_entry 27 = .ok (.if_icmp .lt 6, 3) := by decide +kernel
theorem dX9_entry_30 : decode cX9_entry 30 = .ok (.bipush (-4), 2) := by decide +kernel
theorem dX9_entry_32 : decode cX9_entry 32 = .ok (.ireturn, 1) := by decide +kernel
theorem dX9_entry_33 : decode cX9_entry 33 = .ok (.aload_n 0, 1) := by decide +kernel
theorem dX9_entry_34 : decode cX9_entry 34 = .ok (.getfield 10, 3) := by decide +kernel
theorem dX9_entry_37 : decode cX9_entry 37 = .ok (.getfield 126, 3) := by decide +kernel
theorem dX9_entry_40 : decode cX9_entry 40 = .ok (.iload_n 1, 1) := by decide +kernel
theorem dX9_entry_41 : decode cX9_entry 41 = .ok (.invokevirtual 202, 3) := by decide +kernel
theorem dX9_entry_44 : decode cX9_entry 44 = .ok (.istore_n 3, 1) := by decide +kernel
theorem dX9_entry_45 : decode cX9_entry 45 = .ok (.iload_n 2, 1) := by decide +kernel
theorem dX9_entry_46 : decode cX9_entry 46 = .ok (.tableswitch 63 0 2 #[26, 28, 40], 26) := by decide +kernel
theorem dX9_entry_72 : decode cX9_entry 72 = .ok (.iload_n 3, 1) := by decide +kernel
theorem dX9_entry_73 : decode cX9_entry 73 = .ok (.ireturn, 1) := by decide +kernel
theorem dX9_entry_74 : decode cX9_entry 74 = .ok (.aload_n 0, 1) := by decide +kernel
theorem dX9_entry_75 : decode cX9_entry 75 = .ok (.getfield 10, 3) := by decide +kernel
theorem dX9_entry_78 : decode cX9_entry 78 = .ok (.getfield 126, 3) := by decide +kernel
theorem dX9_entry_81 : decode cX9_entry 81 = .ok (.iload_n 3, 1) := by decide +kernel
theorem dX9_entry_82 : decode cX9_entry 82 = .ok (.invokevirtual 130, 3) := by decide +kernel
theorem dX9_entry_85 : decode cX9_entry 85 = .ok (.ireturn, 1) := by decide +kernel
theorem dX9_entry_86 : decode cX9_entry 86 = .ok (.aload_n 0, 1) := by decide +kernel
theorem dX9_entry_87 : decode cX9_entry 87 = .ok (.getfield 10, 3) := by decide +kernel
theorem dX9_entry_90 : decode cX9_entry 90 = .ok (.getfield 173, 3) := by decide +kernel
theorem dX9_entry_93 : decode cX9_entry 93 = .ok (.aload_n 0, 1) := by decide +kernel
theorem dX9_entry_94 : decode cX9_entry 94 = .ok (.getfield 10, 3) := by decide +kernel
theorem dX9_entry_97 : decode cX9_entry 97 = .ok (.getfield 126, 3) := by decide +kernel
theorem dX9_entry_100 : decode cX9_entry 100 = .ok (.getfield 205, 3) := by decide +kernel
theorem dX9_entry_103 : decode cX9_entry 103 = .ok (.iload_n 3, 1) := by decide +kernel
theorem dX9_entry_104 : decode cX9_entry 104 = .ok (.invokevirtual 108, 3) := by decide +kernel
theorem dX9_entry_107 : decode cX9_entry 107 = .ok (.isub, 1) := by decide +kernel
theorem dX9_entry_108 : decode cX9_entry 108 = .ok (.ireturn, 1) := by decide +kernel
theorem dX9_entry_109 : decode cX9_entry 109 = .ok (.aload_n 0, 1) := by decide +kernel
theorem dX9_entry_110 : decode cX9_entry 110 = .ok (.getfield 10, 3) := by decide +kernel
theorem dX9_entry_113 : decode cX9_entry 113 = .ok (.getfield 208, 3) := by decide +kernel
theorem dX9_entry_116 : decode cX9_entry 116 = .ok (.iload_n 3, 1) := by decide +kernel
theorem dX9_entry_117 : decode cX9_entry 117 = .ok (.invokevirtual 212, 3) := by decide +kernel
theorem dX9_entry_120 : decode cX9_entry 120 = .ok (.ireturn, 1) := by decide +kernel
theorem dX9_where_0 : decode cX9_where 0 = .ok (.iload_n 1, 1) := by decide +kernel
theorem dX9_where_1 : decode cX9_where 1 = .ok (.invokestatic 116, 3) := by decide +kernel
theorem dX9_where_4 : decode cX9_where 4 = .ok (.ifCond .ne 6, 3) := by decide +kernel
theorem dX9_where_7 : decode cX9_where 7 = .ok (.bipush (-2), 2) := by decide +kernel
theorem dX9_where_9 : decode cX9_where 9 = .ok (.ireturn, 1) := by decide +kernel
theorem dX9_where_10 : decode cX9_where 10 = .ok (.aload_n 0, 1) := by decide +kernel
theorem dX9_where_11 : decode cX9_where 11 = .ok (.getfield 10, 3) := by decide +kernel
theorem dX9_where_14 : decode cX9_where 14 = .ok (.getfield 126, 3) := by decide +kernel
theorem dX9_where_17 : decode cX9_where 17 = .ok (.iload_n 1, 1) := by decide +kernel
theorem dX9_where_18 : decode cX9_where 18 = .ok (.invokevirtual 130, 3) := by decide +kernel
theorem dX9_where_21 : decode cX9_where 21 = .ok (.ireturn, 1) := by decide +kernel
theorem dX9_queued_0 : decode cX9_queued 0 = .ok (.iload_n 1, 1) := by decide +kernel
theorem dX9_queued_1 : decode cX9_queued 1 = .ok (.invokestatic 43, 3) := by decide +kernel
theorem dX9_queued_4 : decode cX9_queued 4 = .ok (.ifCond .ne 5, 3) := by decide +kernel
theorem dX9_queued_7 : decode cX9_queued 7 = .ok (.iconst (-1), 1) := by decide +kernel
theorem dX9_queued_8 : decode cX9_queued 8 = .ok (.ireturn, 1) := by decide +kernel
theorem dX9_queued_9 : decode cX9_queued 9 = .ok (.iload_n 2, 1) := by decide +kernel
theorem dX9_queued_10 : decode cX9_queued 10 = .ok (.ifCond .lt 12, 3) := by decide +kernel
theorem dX9_queued_13 : decode cX9_queued 13 = .ok (.iload_n 3, 1) := by decide +kernel
theorem dX9_queued_14 : decode cX9_queued 14 = .ok (.ifCond .lt 8, 3) := by decide +kernel
theorem dX9_queued_17 : decode cX9_queued 17 = .ok (.iload_n 3, 1) := by decide +kernel
theorem dX9_queued_18 : decode cX9_queued 18 = .ok (.iconst 4, 1) := by decide +kernel
theorem dX9_queued_19 : decode cX9_queued 19 = .ok (.if_icmp .lt 6, 3) := by decide +kernel
theorem dX9_queued_22 : decode cX9_queued 22 = .ok (.bipush (-2), 2) := by decide +kernel
theorem dX9_queued_24 : decode cX9_queued 24 = .ok (.ireturn, 1) := by decide +kernel
theorem dX9_queued_25 : decode cX9_queued 25 = .ok (.iload_n 2, 1) := by decide +kernel
theorem dX9_queued_26 : decode cX9_queued 26 = .ok (.aload_n 0, 1) := by decide +kernel
theorem dX9_queued_27 : decode cX9_queued 27 = .ok (.getfield 10, 3) := by decide +kernel
theorem dX9_queued_30 : decode cX9_queued 30 = .ok (.getfield 182, 3) := by decide +kernel
theorem dX9_queued_33 : decode cX9_queued 33 = .ok (.getfield 186, 3) := by decide +kernel
theorem dX9_queued_36 : decode cX9_queued 36 = .ok (.iload_n 1, 1) := by decide +kernel
theorem dX9_queued_37 : decode cX9_queued 37 = .ok (.invokevirtual 108, 3) := by decide +kernel
theorem dX9_queued_40 : decode cX9_queued 40 = .ok (.if_icmp .lt 6, 3) := by decide +kernel
theorem dX9_queued_43 : decode cX9_queued 43 = .ok (.bipush (-4), 2) := by decide +kernel
theorem dX9_queued_45 : decode cX9_queued 45 = .ok (.ireturn, 1) := by decide +kernel
theorem dX9_queued_46 : decode cX9_queued 46 = .ok (.aload_n 0, 1) := by decide +kernel
theorem dX9_queued_47 : decode cX9_queued 47 = .ok (.getfield 10, 3) := by decide +kernel
theorem dX9_queued_50 : decode cX9_queued 50 = .ok (.getfield 182, 3) := by decide +kernel
theorem dX9_queued_53 : decode cX9_queued 53 = .ok (.iload_n 1, 1) := by decide +kernel
theorem dX9_queued_54 : decode cX9_queued 54 = .ok (.iload_n 2, 1) := by decide +kernel
theorem dX9_queued_55 : decode cX9_queued 55 = .ok (.iload_n 3, 1) := by decide +kernel
theorem dX9_queued_56 : decode cX9_queued 56 = .ok (.invokevirtual 217, 3) := by decide +kernel
theorem dX9_queued_59 : decode cX9_queued 59 = .ok (.ireturn, 1) := by decide +kernel
theorem dX9_wouldGo_0 : decode cX9_wouldGo 0 = .ok (.iload_n 1, 1) := by decide +kernel
theorem dX9_wouldGo_1 : decode cX9_wouldGo 1 = .ok (.invokestatic 43, 3) := by decide +kernel
theorem dX9_wouldGo_4 : decode cX9_wouldGo 4 = .ok (.ifCond .ne 5, 3) := by decide +kernel
theorem dX9_wouldGo_7 : decode cX9_wouldGo 7 = .ok (.iconst (-1), 1) := by decide +kernel
theorem dX9_wouldGo_8 : decode cX9_wouldGo 8 = .ok (.ireturn, 1) := by decide +kernel
theorem dX9_wouldGo_9 : decode cX9_wouldGo 9 = .ok (.iload_n 2, 1) := by decide +kernel
theorem dX9_wouldGo_10 : decode cX9_wouldGo 10 = .ok (.invokestatic 116, 3) := by decide +kernel
theorem dX9_wouldGo_13 : decode cX9_wouldGo 13 = .ok (.ifCond .eq 10, 3) := by decide +kernel
theorem dX9_wouldGo_16 : decode cX9_wouldGo 16 = .ok (.iload_n 3, 1) := by decide +kernel
theorem dX9_wouldGo_17 : decode cX9_wouldGo 17 = .ok (.invokestatic 119, 3) := by decide +kernel
theorem dX9_wouldGo_20 : decode cX9_wouldGo 20 = .ok (.ifCond .ne 6, 3) := by decide +kernel
theorem dX9_wouldGo_23 : decode cX9_wouldGo 23 = .ok (.bipush (-2), 2) := by decide +kernel
theorem dX9_wouldGo_25 : decode cX9_wouldGo 25 = .ok (.ireturn, 1) := by decide +kernel
theorem dX9_wouldGo_26 : decode cX9_wouldGo 26 = .ok (.aload_n 0, 1) := by decide +kernel
theorem dX9_wouldGo_27 : decode cX9_wouldGo 27 = .ok (.getfield 19, 3) := by decide +kernel
theorem dX9_wouldGo_30 : decode cX9_wouldGo 30 = .ok (.aload_n 0, 1) := by decide +kernel
theorem dX9_wouldGo_31 : decode cX9_wouldGo 31 = .ok (.getfield 10, 3) := by decide +kernel
theorem dX9_wouldGo_34 : decode cX9_wouldGo 34 = .ok (.invokevirtual 166, 3) := by decide +kernel
theorem dX9_wouldGo_37 : decode cX9_wouldGo 37 = .ok (.aload_n 0, 1) := by decide +kernel
theorem dX9_wouldGo_38 : decode cX9_wouldGo 38 = .ok (.getfield 19, 3) := by decide +kernel
theorem dX9_wouldGo_41 : decode cX9_wouldGo 41 = .ok (.iload_n 1, 1) := by decide +kernel
theorem dX9_wouldGo_42 : decode cX9_wouldGo 42 = .ok (.iload_n 2, 1) := by decide +kernel
theorem dX9_wouldGo_43 : decode cX9_wouldGo 43 = .ok (.iload_n 3, 1) := by decide +kernel
theorem dX9_wouldGo_44 : decode cX9_wouldGo 44 = .ok (.invokevirtual 221, 3) := by decide +kernel
theorem dX9_wouldGo_47 : decode cX9_wouldGo 47 = .ok (.istore 4, 2) := by decide +kernel
theorem dX9_wouldGo_49 : decode cX9_wouldGo 49 = .ok (.aload_n 0, 1) := by decide +kernel
theorem dX9_wouldGo_50 : decode cX9_wouldGo 50 = .ok (.getfield 19, 3) := by decide +kernel
theorem dX9_wouldGo_53 : decode cX9_wouldGo 53 = .ok (.iload 4, 2) := by decide +kernel
theorem dX9_wouldGo_55 : decode cX9_wouldGo 55 = .ok (.iload_n 1, 1) := by decide +kernel
theorem dX9_wouldGo_56 : decode cX9_wouldGo 56 = .ok (.iload_n 3, 1) := by decide +kernel
theorem dX9_wouldGo_57 : decode cX9_wouldGo 57 = .ok (.invokevirtual 224, 3) := by decide +kernel
theorem dX9_wouldGo_60 : decode cX9_wouldGo 60 = .ok (.ireturn, 1) := by decide +kernel
theorem dX9_loops_0 : decode cX9_loops 0 = .ok (.aload_n 0, 1) := by decide +kernel
theorem dX9_loops_1 : decode cX9_loops 1 = .ok (.getfield 10, 3) := by decide +kernel
theorem dX9_loops_4 : decode cX9_loops 4 = .ok (.getfield 47, 3) := by decide +kernel
theorem dX9_loops_7 : decode cX9_loops 7 = .ok (.invokevirtual 68, 3) := by decide +kernel
theorem dX9_loops_10 : decode cX9_loops 10 = .ok (.istore_n 1, 1) := by decide +kernel
theorem dX9_loops_11 : decode cX9_loops 11 = .ok (.iconst 0, 1) := by decide +kernel
theorem dX9_loops_12 : decode cX9_loops 12 = .ok (.istore_n 2, 1) := by decide +kernel
theorem dX9_loops_13 : decode cX9_loops 13 = .ok (.iconst 0, 1) := by decide +kernel
theorem dX9_loops_14 : decode cX9_loops 14 = .ok (.istore_n 3, 1) := by decide +kernel
theorem dX9_loops_15 : decode cX9_loops 15 = .ok (.iload_n 3, 1) := by decide +kernel
theorem dX9_loops_16 : decode cX9_loops 16 = .ok (.bipush 8, 2) := by decide +kernel
theorem dX9_loops_18 : decode cX9_loops 18 = .ok (.if_icmp .ge 54, 3) := by decide +kernel
theorem dX9_loops_21 : decode cX9_loops 21 = .ok (.aload_n 0, 1) := by decide +kernel
theorem dX9_loops_22 : decode cX9_loops 22 = .ok (.getfield 10, 3) := by decide +kernel
theorem dX9_loops_25 : decode cX9_loops 25 = .ok (.getfield 47, 3) := by decide +kernel
theorem dX9_loops_28 : decode cX9_loops 28 = .ok (.iload_n 3, 1) := by decide +kernel
theorem dX9_loops_29 : decode cX9_loops 29 = .ok (.invokevirtual 78, 3) := by decide +kernel
theorem dX9_loops_32 : decode cX9_loops 32 = .ok (.istore 4, 2) := by decide +kernel
theorem dX9_loops_34 : decode cX9_loops 34 = .ok (.iload 4, 2) := by decide +kernel
theorem dX9_loops_36 : decode cX9_loops 36 = .ok (.bipush (-4), 2) := by decide +kernel
theorem dX9_loops_38 : decode cX9_loops 38 = .ok (.if_icmp .eq 28, 3) := by decide +kernel
theorem dX9_loops_41 : decode cX9_loops 41 = .ok (.iload_n 1, 1) := by decide +kernel
theorem dX9_loops_42 : decode cX9_loops 42 = .ok (.iload_n 3, 1) := by decide +kernel
theorem dX9_loops_43 : decode cX9_loops 43 = .ok (.ishr, 1) := by decide +kernel
theorem dX9_loops_44 : decode cX9_loops 44 = .ok (.iconst 1, 1) := by decide +kernel
theorem dX9_loops_45 : decode cX9_loops 45 = .ok (.iand, 1) := by decide +kernel
theorem dX9_loops_46 : decode cX9_loops 46 = .ok (.iconst 1, 1) := by decide +kernel
theorem dX9_loops_47 : decode cX9_loops 47 = .ok (.if_icmp .ne 19, 3) := by decide +kernel
theorem dX9_loops_50 : decode cX9_loops 50 = .ok (.iload_n 1, 1) := by decide +kernel
theorem dX9_loops_51 : decode cX9_loops 51 = .ok (.iload 4, 2) := by decide +kernel
theorem dX9_loops_53 : decode cX9_loops 53 = .ok (.ishr, 1) := by decide +kernel
theorem dX9_loops_54 : decode cX9_loops 54 = .ok (.iconst 1, 1) := by decide +kernel
theorem dX9_loops_55 : decode cX9_loops 55 = .ok (.iand, 1) := by decide +kernel
theorem dX9_loops_56 : decode cX9_loops 56 = .ok (.iconst 1, 1) := by decide +kernel
theorem dX9_loops_57 : decode cX9_loops 57 = .ok (.if_icmp .ne 9, 3) := by decide +kernel
theorem dX9_loops_60 : decode cX9_loops 60 = .ok (.iload_n 2, 1) := by decide +kernel
theorem dX9_loops_61 : decode cX9_loops 61 = .ok (.iconst 1, 1) := by decide +kernel
theorem dX9_loops_62 : decode cX9_loops 62 = .ok (.iload_n 3, 1) := by decide +kernel
theorem dX9_loops_63 : decode cX9_loops 63 = .ok (.ishl, 1) := by decide +kernel
theorem dX9_loops_64 : decode cX9_loops 64 = .ok (.ior, 1) := by decide +kernel
theorem dX9_loops_65 : decode cX9_loops 65 = .ok (.istore_n 2, 1) := by decide +kernel
theorem dX9_loops_66 : decode cX9_loops 66 = .ok (.iinc 3 1, 3) := by decide +kernel
theorem dX9_loops_69 : decode cX9_loops 69 = .ok (.goto (-54), 3) := by decide +kernel
theorem dX9_loops_72 : decode cX9_loops 72 = .ok (.iload_n 2, 1) := by decide +kernel
theorem dX9_loops_73 : decode cX9_loops 73 = .ok (.ireturn, 1) := by decide +kernel
theorem dX9_count_0 : decode cX9_count 0 = .ok (.iload_n 1, 1) := by decide +kernel
theorem dX9_count_1 : decode cX9_count 1 = .ok (.tableswitch 199 0 14 #[75, 75, 75, 75, 87, 95, 106, 120, 131, 142, 156, 167, 175, 183, 191], 75) := by decide +kernel
theorem dX9_count_76 : decode cX9_count 76 = .ok (.aload_n 0, 1) := by decide +kernel
theorem dX9_count_77 : decode cX9_count 77 = .ok (.getfield 10, 3) := by decide +kernel
theorem dX9_count_80 : decode cX9_count 80 = .ok (.getfield 104, 3) := by decide +kernel
theorem dX9_count_83 : decode cX9_count 83 = .ok (.iload_n 1, 1) := by decide +kernel
theorem dX9_count_84 : decode cX9_count 84 = .ok (.invokevirtual 108, 3) := by decide +kernel
theorem dX9_count_87 : decode cX9_count 87 = .ok (.ireturn, 1) := by decide +kernel
theorem dX9_count_88 : decode cX9_count 88 = .ok (.aload_n 0, 1) := by decide +kernel
theorem dX9_count_89 : decode cX9_count 89 = .ok (.getfield 10, 3) := by decide +kernel
theorem dX9_count_92 : decode cX9_count 92 = .ok (.getfield 173, 3) := by decide +kernel
theorem dX9_count_95 : decode cX9_count 95 = .ok (.ireturn, 1) := by decide +kernel
theorem dX9_count_96 : decode cX9_count 96 = .ok (.aload_n 0, 1) := by decide +kernel
theorem dX9_count_97 : decode cX9_count 97 = .ok (.getfield 10, 3) := by decide +kernel
theorem dX9_count_100 : decode cX9_count 100 = .ok (.getfield 126, 3) := by decide +kernel
theorem dX9_count_103 : decode cX9_count 103 = .ok (.getfield 201, 3) := by decide +kernel
theorem dX9_count_106 : decode cX9_count 106 = .ok (.ireturn, 1) := by decide +kernel
theorem dX9_count_107 : decode cX9_count 107 = .ok (.aload_n 0, 1) := by decide +kernel
theorem dX9_count_108 : decode cX9_count 108 = .ok (.getfield 10, 3) := by decide +kernel
theorem dX9_count_111 : decode cX9_count 111 = .ok (.getfield 47, 3) := by decide +kernel
theorem dX9_count_114 : decode cX9_count 114 = .ok (.invokevirtual 68, 3) := by decide +kernel
theorem dX9_count_117 : decode cX9_count 117 = .ok (.invokestatic 72, 3) := by decide +kernel
theorem dX9_count_120 : decode cX9_count 120 = .ok (.ireturn, 1) := by decide +kernel
theorem dX9_count_121 : decode cX9_count 121 = .ok (.aload_n 0, 1) := by decide +kernel
theorem dX9_count_122 : decode cX9_count 122 = .ok (.getfield 10, 3) := by decide +kernel
theorem dX9_count_125 : decode cX9_count 125 = .ok (.getfield 47, 3) := by decide +kernel
theorem dX9_count_128 : decode cX9_count 128 = .ok (.invokevirtual 227, 3) := by decide +kernel
theorem dX9_count_131 : decode cX9_count 131 = .ok (.ireturn, 1) := by decide +kernel
theorem dX9_count_132 : decode cX9_count 132 = .ok (.aload_n 0, 1) := by decide +kernel
theorem dX9_count_133 : decode cX9_count 133 = .ok (.getfield 10, 3) := by decide +kernel
theorem dX9_count_136 : decode cX9_count 136 = .ok (.getfield 47, 3) := by decide +kernel
theorem dX9_count_139 : decode cX9_count 139 = .ok (.invokevirtual 85, 3) := by decide +kernel
theorem dX9_count_142 : decode cX9_count 142 = .ok (.ireturn, 1) := by decide +kernel
theorem dX9_count_143 : decode cX9_count 143 = .ok (.aload_n 0, 1) := by decide +kernel
theorem dX9_count_144 : decode cX9_count 144 = .ok (.getfield 10, 3) := by decide +kernel
theorem dX9_count_147 : decode cX9_count 147 = .ok (.getfield 182, 3) := by decide +kernel
theorem dX9_count_150 : decode cX9_count 150 = .ok (.getfield 186, 3) := by decide +kernel
theorem dX9_count_153 : decode cX9_count 153 = .ok (.invokevirtual 230, 3) := by decide +kernel
theorem dX9_count_156 : decode cX9_count 156 = .ok (.ireturn, 1) := by decide +kernel
theorem dX9_count_157 : decode cX9_count 157 = .ok (.aload_n 0, 1) := by decide +kernel
theorem dX9_count_158 : decode cX9_count 158 = .ok (.getfield 10, 3) := by decide +kernel
theorem dX9_count_161 : decode cX9_count 161 = .ok (.getfield 47, 3) := by decide +kernel
theorem dX9_count_164 : decode cX9_count 164 = .ok (.invokevirtual 233, 3) := by decide +kernel
theorem dX9_count_167 : decode cX9_count 167 = .ok (.ireturn, 1) := by decide +kernel
theorem dX9_count_168 : decode cX9_count 168 = .ok (.aload_n 0, 1) := by decide +kernel
theorem dX9_count_169 : decode cX9_count 169 = .ok (.getfield 10, 3) := by decide +kernel
theorem dX9_count_172 : decode cX9_count 172 = .ok (.getfield 236, 3) := by decide +kernel
theorem dX9_count_175 : decode cX9_count 175 = .ok (.ireturn, 1) := by decide +kernel
theorem dX9_count_176 : decode cX9_count 176 = .ok (.aload_n 0, 1) := by decide +kernel
theorem dX9_count_177 : decode cX9_count 177 = .ok (.getfield 10, 3) := by decide +kernel
theorem dX9_count_180 : decode cX9_count 180 = .ok (.getfield 239, 3) := by decide +kernel
theorem dX9_count_183 : decode cX9_count 183 = .ok (.ireturn, 1) := by decide +kernel
theorem dX9_count_184 : decode cX9_count 184 = .ok (.aload_n 0, 1) := by decide +kernel
theorem dX9_count_185 : decode cX9_count 185 = .ok (.getfield 25, 3) := by decide +kernel
theorem dX9_count_188 : decode cX9_count 188 = .ok (.getfield 163, 3) := by decide +kernel
theorem dX9_count_191 : decode cX9_count 191 = .ok (.ireturn, 1) := by decide +kernel
theorem dX9_count_192 : decode cX9_count 192 = .ok (.aload_n 0, 1) := by decide +kernel
theorem dX9_count_193 : decode cX9_count 193 = .ok (.getfield 32, 3) := by decide +kernel
theorem dX9_count_196 : decode cX9_count 196 = .ok (.getfield 152, 3) := by decide +kernel
theorem dX9_count_199 : decode cX9_count 199 = .ok (.ireturn, 1) := by decide +kernel
theorem dX9_count_200 : decode cX9_count 200 = .ok (.bipush (-2), 2) := by decide +kernel
theorem dX9_count_202 : decode cX9_count 202 = .ok (.ireturn, 1) := by decide +kernel
theorem dX9_isPort_0 : decode cX9_isPort 0 = .ok (.iload_n 0, 1) := by decide +kernel
theorem dX9_isPort_1 : decode cX9_isPort 1 = .ok (.ifCond .lt 13, 3) := by decide +kernel
theorem dX9_isPort_4 : decode cX9_isPort 4 = .ok (.iload_n 0, 1) := by decide +kernel
theorem dX9_isPort_5 : decode cX9_isPort 5 = .ok (.bipush 8, 2) := by decide +kernel
theorem dX9_isPort_7 : decode cX9_isPort 7 = .ok (.if_icmp .ge 7, 3) := by decide +kernel
theorem dX9_isPort_10 : decode cX9_isPort 10 = .ok (.iconst 1, 1) := by decide +kernel
theorem dX9_isPort_11 : decode cX9_isPort 11 = .ok (.goto 4, 3) := by decide +kernel
theorem dX9_isPort_14 : decode cX9_isPort 14 = .ok (.iconst 0, 1) := by decide +kernel
theorem dX9_isPort_15 : decode cX9_isPort 15 = .ok (.ireturn, 1) := by decide +kernel
theorem dX9_isAddress_0 : decode cX9_isAddress 0 = .ok (.iload_n 0, 1) := by decide +kernel
theorem dX9_isAddress_1 : decode cX9_isAddress 1 = .ok (.iconst 1, 1) := by decide +kernel
theorem dX9_isAddress_2 : decode cX9_isAddress 2 = .ok (.if_icmp .lt 13, 3) := by decide +kernel
theorem dX9_isAddress_5 : decode cX9_isAddress 5 = .ok (.iload_n 0, 1) := by decide +kernel
theorem dX9_isAddress_6 : decode cX9_isAddress 6 = .ok (.bipush 99, 2) := by decide +kernel
theorem dX9_isAddress_8 : decode cX9_isAddress 8 = .ok (.if_icmp .gt 7, 3) := by decide +kernel
theorem dX9_isAddress_11 : decode cX9_isAddress 11 = .ok (.iconst 1, 1) := by decide +kernel
theorem dX9_isAddress_12 : decode cX9_isAddress 12 = .ok (.goto 4, 3) := by decide +kernel
theorem dX9_isAddress_15 : decode cX9_isAddress 15 = .ok (.iconst 0, 1) := by decide +kernel
theorem dX9_isAddress_16 : decode cX9_isAddress 16 = .ok (.ireturn, 1) := by decide +kernel
theorem dX9_isDestination_0 : decode cX9_isDestination 0 = .ok (.iload_n 0, 1) := by decide +kernel
theorem dX9_isDestination_1 : decode cX9_isDestination 1 = .ok (.ifCond .eq 10, 3) := by decide +kernel
theorem dX9_isDestination_4 : decode cX9_isDestination 4 = .ok (.iload_n 0, 1) := by decide +kernel
theorem dX9_isDestination_5 : decode cX9_isDestination 5 = .ok (.invokestatic 116, 3) := by decide +kernel
theorem dX9_isDestination_8 : decode cX9_isDestination 8 = .ok (.ifCond .eq 7, 3) := by decide +kernel
theorem dX9_isDestination_11 : decode cX9_isDestination 11 = .ok (.iconst 1, 1) := by decide +kernel
theorem dX9_isDestination_12 : decode cX9_isDestination 12 = .ok (.goto 4, 3) := by decide +kernel
theorem dX9_isDestination_15 : decode cX9_isDestination 15 = .ok (.iconst 0, 1) := by decide +kernel
theorem dX9_isDestination_16 : decode cX9_isDestination 16 = .ok (.ireturn, 1) := by decide +kernel
theorem dX9_isSetting_0 : decode cX9_isSetting 0 = .ok (.iload_n 0, 1) := by decide +kernel
theorem dX9_isSetting_1 : decode cX9_isSetting 1 = .ok (.ifCond .lt 15, 3) := by decide +kernel
theorem dX9_isSetting_4 : decode cX9_isSetting 4 = .ok (.iload_n 0, 1) := by decide +kernel
theorem dX9_isSetting_5 : decode cX9_isSetting 5 = .ok (.getstatic 100, 3) := by decide +kernel
theorem dX9_isSetting_8 : decode cX9_isSetting 8 = .ok (.arraylength, 1) := by decide +kernel
theorem dX9_isSetting_9 : decode cX9_isSetting 9 = .ok (.if_icmp .ge 7, 3) := by decide +kernel
theorem dX9_isSetting_12 : decode cX9_isSetting 12 = .ok (.iconst 1, 1) := by decide +kernel
theorem dX9_isSetting_13 : decode cX9_isSetting 13 = .ok (.goto 4, 3) := by decide +kernel
theorem dX9_isSetting_16 : decode cX9_isSetting 16 = .ok (.iconst 0, 1) := by decide +kernel
theorem dX9_isSetting_17 : decode cX9_isSetting 17 = .ok (.ireturn, 1) := by decide +kernel
theorem dX10_init_0 : decode cX10_init 0 = .ok (.aload_n 0, 1) := by decide +kernel
theorem dX10_init_1 : decode cX10_init 1 = .ok (.invokespecial 1, 3) := by decide +kernel
theorem dX10_init_4 : decode cX10_init 4 = .ok (.aload_n 0, 1) := by decide +kernel
theorem dX10_init_5 : decode cX10_init 5 = .ok (.sipush 1752, 3) := by decide +kernel
theorem dX10_init_8 : decode cX10_init 8 = .ok (.newarray .int, 2) := by decide +kernel
theorem dX10_init_10 : decode cX10_init 10 = .ok (.putfield 7, 3) := by decide +kernel
theorem dX10_init_13 : decode cX10_init 13 = .ok (.aload_n 0, 1) := by decide +kernel
theorem dX10_init_14 : decode cX10_init 14 = .ok (.sipush 7008, 3) := by decide +kernel
theorem dX10_init_17 : decode cX10_init 17 = .ok (.newarray .int, 2) := by decide +kernel
theorem dX10_init_19 : decode cX10_init 19 = .ok (.putfield 13, 3) := by decide +kernel
theorem dX10_init_22 : decode cX10_init 22 = .ok (.aload_n 0, 1) := by decide +kernel
theorem dX10_init_23 : decode cX10_init 23 = .ok (.sipush 1752, 3) := by decide +kernel
theorem dX10_init_26 : decode cX10_init 26 = .ok (.newarray .int, 2) := by decide +kernel
theorem dX10_init_28 : decode cX10_init 28 = .ok (.putfield 16, 3) := by decide +kernel
theorem dX10_init_31 : decode cX10_init 31 = .ok (.aload_n 0, 1) := by decide +kernel
theorem dX10_init_32 : decode cX10_init 32 = .ok (.sipush 1752, 3) := by decide +kernel
theorem dX10_init_35 : decode cX10_init 35 = .ok (.newarray .int, 2) := by decide +kernel
theorem dX10_init_37 : decode cX10_init 37 = .ok (.putfield 19, 3) := by decide +kernel
theorem dX10_init_40 : decode cX10_init 40 = .ok (.aload_n 0, 1) := by decide +kernel
theorem dX10_init_41 : decode cX10_init 41 = .ok (.sipush 320, 3) := by decide +kernel
theorem dX10_init_44 : decode cX10_init 44 = .ok (.newarray .int, 2) := by decide +kernel
theorem dX10_init_46 : decode cX10_init 46 = .ok (.putfield 22, 3) := by decide +kernel
theorem dX10_init_49 : decode cX10_init 49 = .ok (.aload_n 0, 1) := by decide +kernel
theorem dX10_init_50 : decode cX10_init 50 = .ok (.bipush 70, 2) := by decide +kernel
theorem dX10_init_52 : decode cX10_init 52 = .ok (.newarray .char, 2) := by decide +kernel
theorem dX10_init_54 : decode cX10_init 54 = .ok (.putfield 25, 3) := by decide +kernel
theorem dX10_init_57 : decode cX10_init 57 = .ok (.aload_n 0, 1) := by decide +kernel
theorem dX10_init_58 : decode cX10_init 58 = .ok (.bipush 56, 2) := by decide +kernel
theorem dX10_init_60 : decode cX10_init 60 = .ok (.newarray .int, 2) := by decide +kernel
theorem dX10_init_62 : decode cX10_init 62 = .ok (.putfield 29, 3) := by decide +kernel
theorem dX10_init_65 : decode cX10_init 65 = .ok (.aload_n 0, 1) := by decide +kernel
theorem dX10_init_66 : decode cX10_init 66 = .ok (.getfield 7, 3) := by decide +kernel
theorem dX10_init_69 : decode cX10_init 69 = .ok (.iconst 0, 1) := by decide +kernel
theorem dX10_init_70 : decode cX10_init 70 = .ok (.bipush 60, 2) := by decide +kernel
theorem dX10_init_72 : decode cX10_init 72 = .ok (.iastore, 1) := by decide +kernel
theorem dX10_init_73 : decode cX10_init 73 = .ok (.aload_n 0, 1) := by decide +kernel
theorem dX10_init_74 : decode cX10_init 74 = .ok (.getfield 7, 3) := by decide +kernel
theorem dX10_init_77 : decode cX10_init 77 = .ok (.iconst 1, 1) := by decide +kernel
theorem dX10_init_78 : decode cX10_init 78 = .ok (.bipush 30, 2) := by decide +kernel
theorem dX10_init_80 : decode cX10_init 80 = .ok (.iastore, 1) := by decide +kernel
theorem dX10_init_81 : decode cX10_init 81 = .ok (.aload_n 0, 1) := by decide +kernel
theorem dX10_init_82 : decode cX10_init 82 = .ok (.getfield 7, 3) := by decide +kernel
theorem dX10_init_85 : decode cX10_init 85 = .ok (.iconst 2, 1) := by decide +kernel
theorem dX10_init_86 : decode cX10_init 86 = .ok (.bipush 10, 2) := by decide +kernel
theorem dX10_init_88 : decode cX10_init 88 = .ok (.iastore, 1) := by decide +kernel
theorem dX10_init_89 : decode cX10_init 89 = .ok (.aload_n 0, 1) := by decide +kernel
theorem dX10_init_90 : decode cX10_init 90 = .ok (.getfield 7, 3) := by decide +kernel
theorem dX10_init_93 : decode cX10_init 93 = .ok (.iconst 3, 1) := by decide +kernel
theorem dX10_init_94 : decode cX10_init 94 = .ok (.iconst 4, 1) := by decide +kernel
theorem dX10_init_95 : decode cX10_init 95 = .ok (.iastore, 1) := by decide +kernel
theorem dX10_init_96 : decode cX10_init 96 = .ok (.iconst 0, 1) := by decide +kernel
theorem dX10_init_97 : decode cX10_init 97 = .ok (.istore_n 1, 1) := by decide +kernel
theorem dX10_init_98 : decode cX10_init 98 = .ok (.iload_n 1, 1) := by decide +kernel
theorem dX10_init_99 : decode cX10_init 99 = .ok (.bipush 8, 2) := by decide +kernel
theorem dX10_init_101 : decode cX10_init 101 = .ok (.if_icmp .ge 16, 3) := by decide +kernel
theorem dX10_init_104 : decode cX10_init 104 = .ok (.aload_n 0, 1) := by decide +kernel
theorem dX10_init_105 : decode cX10_init 105 = .ok (.iload_n 1, 1) := by decide +kernel
theorem dX10_init_106 : decode cX10_init 106 = .ok (.iconst 0, 1) := by decide +kernel
theorem dX10_init_107 : decode cX10_init 107 = .ok (.iconst 1, 1) := by decide +kernel
theorem dX10_init_108 : decode cX10_init 108 = .ok (.invokevirtual 32, 3) := by decide +kernel
theorem dX10_init_111 : decode cX10_init 111 = .ok (.iinc 1 1, 3) := by decide +kernel
theorem dX10_init_114 : decode cX10_init 114 = .ok (.goto (-16), 3) := by decide +kernel
theorem dX10_init_117 : decode cX10_init 117 = .ok (.return_, 1) := by decide +kernel
theorem dX10_in_0 : decode cX10_in 0 = .ok (.iload_n 0, 1) := by decide +kernel
theorem dX10_in_1 : decode cX10_in 1 = .ok (.iload_n 1, 1) := by decide +kernel
theorem dX10_in_2 : decode cX10_in 2 = .ok (.if_icmp .lt 12, 3) := by decide +kernel
theorem dX10_in_5 : decode cX10_in 5 = .ok (.iload_n 0, 1) := by decide +kernel
theorem dX10_in_6 : decode cX10_in 6 = .ok (.iload_n 2, 1) := by decide +kernel
theorem dX10_in_7 : decode cX10_in 7 = .ok (.if_icmp .gt 7, 3) := by decide +kernel
theorem dX10_in_10 : decode cX10_in 10 = .ok (.iconst 1, 1) := by decide +kernel
theorem dX10_in_11 : decode cX10_in 11 = .ok (.goto 4, 3) := by decide +kernel
theorem dX10_in_14 : decode cX10_in 14 = .ok (.iconst 0, 1) := by decide +kernel
theorem dX10_in_15 : decode cX10_in 15 = .ok (.ireturn, 1) := by decide +kernel
theorem dX10_noPort_0 : decode cX10_noPort 0 = .ok (.iload_n 0, 1) := by decide +kernel
theorem dX10_noPort_1 : decode cX10_noPort 1 = .ok (.iconst 0, 1) := by decide +kernel
theorem dX10_noPort_2 : decode cX10_noPort 2 = .ok (.bipush 7, 2) := by decide +kernel
theorem dX10_noPort_4 : decode cX10_noPort 4 = .ok (.invokestatic 36, 3) := by decide +kernel
theorem dX10_noPort_7 : decode cX10_noPort 7 = .ok (.ifCond .ne 7, 3) := by decide +kernel
theorem dX10_noPort_10 : decode cX10_noPort 10 = .ok (.iconst 1, 1) := by decide +kernel
theorem dX10_noPort_11 : decode cX10_noPort 11 = .ok (.goto 4, 3) := by decide +kernel
theorem dX10_noPort_14 : decode cX10_noPort 14 = .ok (.iconst 0, 1) := by decide +kernel
theorem dX10_noPort_15 : decode cX10_noPort 15 = .ok (.ireturn, 1) := by decide +kernel
theorem dX10_noAddress_0 : decode cX10_noAddress 0 = .ok (.iload_n 0, 1) := by decide +kernel
theorem dX10_noAddress_1 : decode cX10_noAddress 1 = .ok (.iconst 1, 1) := by decide +kernel
theorem dX10_noAddress_2 : decode cX10_noAddress 2 = .ok (.bipush 99, 2) := by decide +kernel
theorem dX10_noAddress_4 : decode cX10_noAddress 4 = .ok (.invokestatic 36, 3) := by decide +kernel
theorem dX10_noAddress_7 : decode cX10_noAddress 7 = .ok (.ifCond .ne 7, 3) := by decide +kernel
theorem dX10_noAddress_10 : decode cX10_noAddress 10 = .ok (.iconst 1, 1) := by decide +kernel
theorem dX10_noAddress_11 : decode cX10_noAddress 11 = .ok (.goto 4, 3) := by decide +kernel
theorem dX10_noAddress_14 : decode cX10_noAddress 14 = .ok (.iconst 0, 1) := by decide +kernel
theorem dX10_noAddress_15 : decode cX10_noAddress 15 = .ok (.ireturn, 1) := by decide +kernel
theorem dX10_of_0 : decode cX10_of 0 = .ok (.aload_n 0, 1) := by decide +kernel
theorem dX10_of_1 : decode cX10_of 1 = .ok (.getfield 7, 3) := by decide +kernel
theorem dX10_of_4 : decode cX10_of 4 = .ok (.bipush 8, 2) := by decide +kernel
theorem dX10_of_6 : decode cX10_of 6 = .ok (.bipush 20, 2) := by decide +kernel
theorem dX10_of_8 : decode cX10_of 8 = .ok (.iload_n 1, 1) := by decide +kernel
theorem dX10_of_9 : decode cX10_of 9 = .ok (.imul, 1) := by decide +kernel
theorem dX10_of_10 : decode cX10_of 10 = .ok (.iadd, 1) := by decide +kernel
theorem dX10_of_11 : decode cX10_of 11 = .ok (.iload_n 2, 1) := by decide +kernel
theorem dX10_of_12 : decode cX10_of 12 = .ok (.iadd, 1) := by decide +kernel
theorem dX10_of_13 : decode cX10_of 13 = .ok (.iaload, 1) := by decide +kernel
theorem dX10_of_14 : decode cX10_of 14 = .ok (.ireturn, 1) := by decide +kernel
theorem dX10_to_0 : decode cX10_to 0 = .ok (.aload_n 0, 1) := by decide +kernel
theorem dX10_to_1 : decode cX10_to 1 = .ok (.getfield 7, 3) := by decide +kernel
theorem dX10_to_4 : decode cX10_to 4 = .ok (.bipush 8, 2) := by decide +kernel
theorem dX10_to_6 : decode cX10_to 6 = .ok (.bipush 20, 2) := by decide +kernel
theorem dX10_to_8 : decode cX10_to 8 = .ok (.iload_n 1, 1) := by decide +kernel
theorem dX10_to_9 : decode cX10_to 9 = .ok (.imul, 1) := by decide +kernel
theorem dX10_to_10 : decode cX10_to 10 = .ok (.iadd, 1) := by decide +kernel
theorem dX10_to_11 : decode cX10_to 11 = .ok (.iload_n 2, 1) := by decide +kernel
theorem dX10_to_12 : decode cX10_to 12 = .ok (.iadd, 1) := by decide +kernel
theorem dX10_to_13 : decode cX10_to 13 = .ok (.iload_n 3, 1) := by decide +kernel
theorem dX10_to_14 : decode cX10_to 14 = .ok (.iastore, 1) := by decide +kernel
theorem dX10_to_15 : decode cX10_to 15 = .ok (.return_, 1) := by decide +kernel
theorem dX10_more_0 : decode cX10_more 0 = .ok (.aload_n 0, 1) := by decide +kernel
theorem dX10_more_1 : decode cX10_more 1 = .ok (.getfield 7, 3) := by decide +kernel
theorem dX10_more_4 : decode cX10_more 4 = .ok (.bipush 8, 2) := by decide +kernel
theorem dX10_more_6 : decode cX10_more 6 = .ok (.bipush 20, 2) := by decide +kernel
theorem dX10_more_8 : decode cX10_more 8 = .ok (.iload_n 1, 1) := by decide +kernel
theorem dX10_more_9 : decode cX10_more 9 = .ok (.imul, 1) := by decide +kernel
theorem dX10_more_10 : decode cX10_more 10 = .ok (.iadd, 1) := by decide +kernel
theorem dX10_more_11 : decode cX10_more 11 = .ok (.bipush 6, 2) := by decide +kernel
theorem dX10_more_13 : decode cX10_more 13 = .ok (.iadd, 1) := by decide +kernel
theorem dX10_more_14 : decode cX10_more 14 = .ok (.iload_n 2, 1) := by decide +kernel
theorem dX10_more_15 : decode cX10_more 15 = .ok (.iadd, 1) := by decide +kernel
theorem dX10_more_16 : decode cX10_more 16 = .ok (.dup2, 1) := by decide +kernel
theorem dX10_more_17 : decode cX10_more 17 = .ok (.iaload, 1) := by decide +kernel
theorem dX10_more_18 : decode cX10_more 18 = .ok (.iconst 1, 1) := by decide +kernel
theorem dX10_more_19 : decode cX10_more 19 = .ok (.iadd, 1) := by decide +kernel
theorem dX10_more_20 : decode cX10_more 20 = .ok (.iastore, 1) := by decide +kernel
theorem dX10_more_21 : decode cX10_more 21 = .ok (.return_, 1) := by decide +kernel
theorem dX10_record_0 : decode cX10_record 0 = .ok (.aload_n 0, 1) := by decide +kernel
theorem dX10_record_1 : decode cX10_record 1 = .ok (.getfield 40, 3) := by decide +kernel
theorem dX10_record_4 : decode cX10_record 4 = .ok (.iconst 4, 1) := by decide +kernel
theorem dX10_record_5 : decode cX10_record 5 = .ok (.if_icmp .ne 44, 3) := by decide +kernel
theorem dX10_record_8 : decode cX10_record 8 = .ok (.iconst 0, 1) := by decide +kernel
theorem dX10_record_9 : decode cX10_record 9 = .ok (.istore_n 1, 1) := by decide +kernel
theorem dX10_record_10 : decode cX10_record 10 = .ok (.iload_n 1, 1) := by decide +kernel
theorem dX10_record_11 : decode cX10_record 11 = .ok (.sipush 5256, 3) := by decide +kernel
theorem dX10_record_14 : decode cX10_record 14 = .ok (.if_icmp .ge 25, 3) := by decide +kernel
theorem dX10_record_17 : decode cX10_record 17 = .ok (.aload_n 0, 1) := by decide +kernel
theorem dX10_record_18 : decode cX10_record 18 = .ok (.getfield 13, 3) := by decide +kernel
theorem dX10_record_21 : decode cX10_record 21 = .ok (.iload_n 1, 1) := by decide +kernel
theorem dX10_record_22 : decode cX10_record 22 = .ok (.aload_n 0, 1) := by decide +kernel
theorem dX10_record_23 : decode cX10_record 23 = .ok (.getfield 13, 3) := by decide +kernel
theorem dX10_record_26 : decode cX10_record 26 = .ok (.iload_n 1, 1) := by decide +kernel
theorem dX10_record_27 : decode cX10_record 27 = .ok (.sipush 1752, 3) := by decide +kernel
theorem dX10_record_30 : decode cX10_record 30 = .ok (.iadd, 1) := by decide +kernel
theorem dX10_record_31 : decode cX10_record 31 = .ok (.iaload, 1) := by decide +kernel
theorem dX10_record_32 : decode cX10_record 32 = .ok (.iastore, 1) := by decide +kernel
theorem dX10_record_33 : decode cX10_record 33 = .ok (.iinc 1 1, 3) := by decide +kernel
theorem dX10_record_36 : decode cX10_record 36 = .ok (.goto (-26), 3) := by decide +kernel
theorem dX10_record_39 : decode cX10_record 39 = .ok (.aload_n 0, 1) := by decide +kernel
theorem dX10_record_40 : decode cX10_record 40 = .ok (.dup, 1) := by decide +kernel
theorem dX10_record_41 : decode cX10_record 41 = .ok (.getfield 40, 3) := by decide +kernel
theorem dX10_record_44 : decode cX10_record 44 = .ok (.iconst 1, 1) := by decide +kernel
theorem dX10_record_45 : decode cX10_record 45 = .ok (.isub, 1) := by decide +kernel
theorem dX10_record_46 : decode cX10_record 46 = .ok (.putfield 40, 3) := by decide +kernel
theorem dX10_record_49 : decode cX10_record 49 = .ok (.iconst 0, 1) := by decide +kernel
theorem dX10_record_50 : decode cX10_record 50 = .ok (.istore_n 1, 1) := by decide +kernel
theorem dX10_record_51 : decode cX10_record 51 = .ok (.iload_n 1, 1) := by decide +kernel
theorem dX10_record_52 : decode cX10_record 52 = .ok (.sipush 1752, 3) := by decide +kernel
theorem dX10_record_55 : decode cX10_record 55 = .ok (.if_icmp .ge 30, 3) := by decide +kernel
theorem dX10_record_58 : decode cX10_record 58 = .ok (.aload_n 0, 1) := by decide +kernel
theorem dX10_record_59 : decode cX10_record 59 = .ok (.getfield 13, 3) := by decide +kernel
theorem dX10_record_62 : decode cX10_record 62 = .ok (.sipush 1752, 3) := by decide +kernel
theorem dX10_record_65 : decode cX10_record 65 = .ok (.aload_n 0, 1) := by decide +kernel
theorem dX10_record_66 : decode cX10_record 66 = .ok (.getfield 40, 3) := by decide +kernel
theorem dX10_record_69 : decode cX10_record 69 = .ok (.imul, 1) := by decide +kernel
theorem dX10_record_70 : decode cX10_record 70 = .ok (.iload_n 1, 1) := by decide +kernel
theorem dX10_record_71 : decode cX10_record 71 = .ok (.iadd, 1) := by decide +kernel
theorem dX10_record_72 : decode cX10_record 72 = .ok (.aload_n 0, 1) := by decide +kernel
theorem dX10_record_73 : decode cX10_record 73 = .ok (.getfield 7, 3) := by decide +kernel
theorem dX10_record_76 : decode cX10_record 76 = .ok (.iload_n 1, 1) := by decide +kernel
theorem dX10_record_77 : decode cX10_record 77 = .ok (.iaload, 1) := by decide +kernel
theorem dX10_record_78 : decode cX10_record 78 = .ok (.iastore, 1) := by decide +kernel
theorem dX10_record_79 : decode cX10_record 79 = .ok (.iinc 1 1, 3) := by decide +kernel
theorem dX10_record_82 : decode cX10_record 82 = .ok (.goto (-31), 3) := by decide +kernel
theorem dX10_record_85 : decode cX10_record 85 = .ok (.aload_n 0, 1) := by decide +kernel
theorem dX10_record_86 : decode cX10_record 86 = .ok (.dup, 1) := by decide +kernel
theorem dX10_record_87 : decode cX10_record 87 = .ok (.getfield 40, 3) := by decide +kernel
theorem dX10_record_90 : decode cX10_record 90 = .ok (.iconst 1, 1) := by decide +kernel
theorem dX10_record_91 : decode cX10_record 91 = .ok (.iadd, 1) := by decide +kernel
theorem dX10_record_92 : decode cX10_record 92 = .ok (.putfield 40, 3) := by decide +kernel
theorem dX10_record_95 : decode cX10_record 95 = .ok (.return_, 1) := by decide +kernel
theorem dX10_isOpen_0 : decode cX10_isOpen 0 = .ok (.aload_n 0, 1) := by decide +kernel
theorem dX10_isOpen_1 : decode cX10_isOpen 1 = .ok (.iload_n 1, 1) := by decide +kernel
theorem dX10_isOpen_2 : decode cX10_isOpen 2 = .ok (.iconst 0, 1) := by decide +kernel
theorem dX10_isOpen_3 : decode cX10_isOpen 3 = .ok (.invokevirtual 44, 3) := by decide +kernel
theorem dX10_isOpen_6 : decode cX10_isOpen 6 = .ok (.iconst 1, 1) := by decide +kernel
theorem dX10_isOpen_7 : decode cX10_isOpen 7 = .ok (.if_icmp .ne 16, 3) := by decide +kernel
theorem dX10_isOpen_10 : decode cX10_isOpen 10 = .ok (.aload_n 0, 1) := by decide +kernel
theorem dX10_isOpen_11 : decode cX10_isOpen 11 = .ok (.iload_n 1, 1) := by decide +kernel
theorem dX10_isOpen_12 : decode cX10_isOpen 12 = .ok (.iconst 1, 1) := by decide +kernel
theorem dX10_isOpen_13 : decode cX10_isOpen 13 = .ok (.invokevirtual 44, 3) := by decide +kernel
theorem dX10_isOpen_16 : decode cX10_isOpen 16 = .ok (.ifCond .ne 7, 3) := by decide +kernel
theorem dX10_isOpen_19 : decode cX10_isOpen 19 = .ok (.iconst 1, 1) := by decide +kernel
theorem dX10_isOpen_20 : decode cX10_isOpen 20 = .ok (.goto 4, 3) := by decide +kernel
theorem dX10_isOpen_23 : decode cX10_isOpen 23 = .ok (.iconst 0, 1) := by decide +kernel
theorem dX10_isOpen_24 : decode cX10_isOpen 24 = .ok (.ireturn, 1) := by decide +kernel
theorem dX10_openPorts_0 : decode cX10_openPorts 0 = .ok (.iconst 0, 1) := by decide +kernel
theorem dX10_openPorts_1 : decode cX10_openPorts 1 = .ok (.istore_n 1, 1) := by decide +kernel
theorem dX10_openPorts_2 : decode cX10_openPorts 2 = .ok (.iconst 0, 1) := by decide +kernel
theorem dX10_openPorts_3 : decode cX10_openPorts 3 = .ok (.istore_n 2, 1) := by decide +kernel
theorem dX10_openPorts_4 : decode cX10_openPorts 4 = .ok (.iload_n 2, 1) := by decide +kernel
theorem dX10_openPorts_5 : decode cX10_openPorts 5 = .ok (.bipush 8, 2) := by decide +kernel
theorem dX10_openPorts_7 : decode cX10_openPorts 7 = .ok (.if_icmp .ge 25, 3) := by decide +kernel
theorem dX10_openPorts_10 : decode cX10_openPorts 10 = .ok (.iload_n 1, 1) := by decide +kernel
theorem dX10_openPorts_11 : decode cX10_openPorts 11 = .ok (.aload_n 0, 1) := by decide +kernel
theorem dX10_openPorts_12 : decode cX10_openPorts 12 = .ok (.iload_n 2, 1) := by decide +kernel
theorem dX10_openPorts_13 : decode cX10_openPorts 13 = .ok (.invokevirtual 48, 3) := by decide +kernel
theorem dX10_openPorts_16 : decode cX10_openPorts 16 = .ok (.ifCond .eq 7, 3) := by decide +kernel
theorem dX10_openPorts_19 : decode cX10_openPorts 19 = .ok (.iconst 1, 1) := by decide +kernel
theorem dX10_openPorts_20 : decode cX10_openPorts 20 = .ok (.goto 4, 3) := by decide +kernel
theorem dX10_openPorts_23 : decode cX10_openPorts 23 = .ok (.iconst 0, 1) := by decide +kernel
theorem dX10_openPorts_24 : decode cX10_openPorts 24 = .ok (.iadd, 1) := by decide +kernel
theorem dX10_openPorts_25 : decode cX10_openPorts 25 = .ok (.istore_n 1, 1) := by decide +kernel
theorem dX10_openPorts_26 : decode cX10_openPorts 26 = .ok (.iinc 2 1, 3) := by decide +kernel
theorem dX10_openPorts_29 : decode cX10_openPorts 29 = .ok (.goto (-25), 3) := by decide +kernel
theorem dX10_openPorts_32 : decode cX10_openPorts 32 = .ok (.iload_n 1, 1) := by decide +kernel
theorem dX10_openPorts_33 : decode cX10_openPorts 33 = .ok (.ireturn, 1) := by decide +kernel
theorem dX10_removeEntries_0 : decode cX10_removeEntries 0 = .ok (.iconst 1, 1) := by decide +kernel
theorem dX10_removeEntries_1 : decode cX10_removeEntries 1 = .ok (.istore_n 2, 1) := by decide +kernel
theorem dX10_removeEntries_2 : decode cX10_removeEntries 2 = .ok (.iload_n 2, 1) := by decide +kernel
theorem dX10_removeEntries_3 : decode cX10_removeEntries 3 = .ok (.bipush 100, 2) := by decide +kernel
theorem dX10_removeEntries_5 : decode cX10_removeEntries 5 = .ok (.if_icmp .ge 36, 3) := by decide +kernel
theorem dX10_removeEntries_8 : decode cX10_removeEntries 8 = .ok (.aload_n 0, 1) := by decide +kernel
theorem dX10_removeEntries_9 : decode cX10_removeEntries 9 = .ok (.getfield 7, 3) := by decide +kernel
theorem dX10_removeEntries_12 : decode cX10_removeEntries 12 = .ok (.sipush 552, 3) := by decide +kernel
theorem dX10_removeEntries_15 : decode cX10_removeEntries 15 = .ok (.iload_n 2, 1) := by decide +kernel
theorem dX10_removeEntries_16 : decode cX10_removeEntries 16 = .ok (.iadd, 1) := by decide +kernel
theorem dX10_removeEntries_17 : decode cX10_removeEntries 17 = .ok (.iaload, 1) := by decide +kernel
theorem dX10_removeEntries_18 : decode cX10_removeEntries 18 = .ok (.iload_n 1, 1) := by decide +kernel
theorem dX10_removeEntries_19 : decode cX10_removeEntries 19 = .ok (.iconst 1, 1) := by decide +kernel
theorem dX10_removeEntries_20 : decode cX10_removeEntries 20 = .ok (.iadd, 1) := by decide +kernel
theorem dX10_removeEntries_21 : decode cX10_removeEntries 21 = .ok (.if_icmp .ne 14, 3) := by decide +kernel
theorem dX10_removeEntries_24 : decode cX10_removeEntries 24 = .ok (.aload_n 0, 1) := by decide +kernel
theorem dX10_removeEntries_25 : decode cX10_removeEntries 25 = .ok (.getfield 7, 3) := by decide +kernel
theorem dX10_removeEntries_28 : decode cX10_removeEntries 28 = .ok (.sipush 552, 3) := by decide +kernel
theorem dX10_removeEntries_31 : decode cX10_removeEntries 31 = .ok (.iload_n 2, 1) := by decide +kernel
theorem dX10_removeEntries_32 : decode cX10_removeEntries 32 = .ok (.iadd, 1) := by decide +kernel
theorem dX10_removeEntries_33 : decode cX10_removeEntries 33 = .ok (.iconst 0, 1) := by decide +kernel
theorem dX10_removeEntries_34 : decode cX10_removeEntries 34 = .ok (.iastore, 1) := by decide +kernel
theorem dX10_removeEntries_35 : decode cX10_removeEntries 35 = .ok (.iinc 2 1, 3) := by decide +kernel
theorem dX10_removeEntries_38 : decode cX10_removeEntries 38 = .ok (.goto (-36), 3) := by decide +kernel
theorem dX10_removeEntries_41 : decode cX10_removeEntries 41 = .ok (.return_, 1) := by decide +kernel
theorem dX10_setPort_0 : decode cX10_setPort 0 = .ok (.iload_n 1, 1) := by decide +kernel
theorem dX10_setPort_1 : decode cX10_setPort 1 = .ok (.invokestatic 52, 3) := by decide +kernel
theorem dX10_setPort_4 : decode cX10_setPort 4 = .ok (.ifCond .eq 5, 3) := by decide +kernel
theorem dX10_setPort_7 : decode cX10_setPort 7 = .ok (.iconst (-1), 1) := by decide +kernel
theorem dX10_setPort_8 : decode cX10_setPort 8 = .ok (.ireturn, 1) := by decide +kernel
theorem dX10_setPort_9 : decode cX10_setPort 9 = .ok (.aload_n 0, 1) := by decide +kernel
theorem dX10_setPort_10 : decode cX10_setPort 10 = .ok (.iload_n 1, 1) := by decide +kernel
theorem dX10_setPort_11 : decode cX10_setPort 11 = .ok (.iconst 0, 1) := by decide +kernel
theorem dX10_setPort_12 : decode cX10_setPort 12 = .ok (.invokevirtual 44, 3) := by decide +kernel
theorem dX10_setPort_15 : decode cX10_setPort 15 = .ok (.iload_n 2, 1) := by decide +kernel
theorem dX10_setPort_16 : decode cX10_setPort 16 = .ok (.ifCond .eq 7, 3) := by decide +kernel
theorem dX10_setPort_19 : decode cX10_setPort 19 = .ok (.iconst 1, 1) := by decide +kernel
theorem dX10_setPort_20 : decode cX10_setPort 20 = .ok (.goto 4, 3) := by decide +kernel
theorem dX10_setPort_23 : decode cX10_setPort 23 = .ok (.iconst 0, 1) := by decide +kernel
theorem dX10_setPort_24 : decode cX10_setPort 24 = .ok (.if_icmp .ne 6, 3) := by decide +kernel
theorem dX10_setPort_27 : decode cX10_setPort 27 = .ok (.bipush (-4), 2) := by decide +kernel
theorem dX10_setPort_29 : decode cX10_setPort 29 = .ok (.ireturn, 1) := by decide +kernel
theorem dX10_setPort_30 : decode cX10_setPort 30 = .ok (.aload_n 0, 1) := by decide +kernel
theorem dX10_setPort_31 : decode cX10_setPort 31 = .ok (.invokevirtual 55, 3) := by decide +kernel
theorem dX10_setPort_34 : decode cX10_setPort 34 = .ok (.aload_n 0, 1) := by decide +kernel
theorem dX10_setPort_35 : decode cX10_setPort 35 = .ok (.iload_n 1, 1) := by decide +kernel
theorem dX10_setPort_36 : decode cX10_setPort 36 = .ok (.iconst 0, 1) := by decide +kernel
theorem dX10_setPort_37 : decode cX10_setPort 37 = .ok (.iload_n 2, 1) := by decide +kernel
theorem dX10_setPort_38 : decode cX10_setPort 38 = .ok (.ifCond .eq 7, 3) := by decide +kernel
theorem dX10_setPort_41 : decode cX10_setPort 41 = .ok (.iconst 1, 1) := by decide +kernel
theorem dX10_setPort_42 : decode cX10_setPort 42 = .ok (.goto 4, 3) := by decide +kernel
theorem dX10_setPort_45 : decode cX10_setPort 45 = .ok (.iconst 0, 1) := by decide +kernel
theorem dX10_setPort_46 : decode cX10_setPort 46 = .ok (.invokevirtual 32, 3) := by decide +kernel
theorem dX10_setPort_49 : decode cX10_setPort 49 = .ok (.iload_n 2, 1) := by decide +kernel
theorem dX10_setPort_50 : decode cX10_setPort 50 = .ok (.ifCond .ne 37, 3) := by decide +kernel
theorem dX10_setPort_53 : decode cX10_setPort 53 = .ok (.aload_n 0, 1) := by decide +kernel
theorem dX10_setPort_54 : decode cX10_setPort 54 = .ok (.getfield 7, 3) := by decide +kernel
theorem dX10_setPort_57 : decode cX10_setPort 57 = .ok (.bipush 8, 2) := by decide +kernel
theorem dX10_setPort_59 : decode cX10_setPort 59 = .ok (.bipush 20, 2) := by decide +kernel
theorem dX10_setPort_61 : decode cX10_setPort 61 = .ok (.iload_n 1, 1) := by decide +kernel
theorem dX10_setPort_62 : decode cX10_setPort 62 = .ok (.imul, 1) := by decide +kernel
theorem dX10_setPort_63 : decode cX10_setPort 63 = .ok (.iadd, 1) := by decide +kernel
theorem dX10_setPort_64 : decode cX10_setPort 64 = .ok (.bipush 6, 2) := by decide +kernel
theorem dX10_setPort_66 : decode cX10_setPort 66 = .ok (.iadd, 1) := by decide +kernel
theorem dX10_setPort_67 : decode cX10_setPort 67 = .ok (.bipush 8, 2) := by decide +kernel
theorem dX10_setPort_69 : decode cX10_setPort 69 = .ok (.iadd, 1) := by decide +kernel
theorem dX10_setPort_70 : decode cX10_setPort 70 = .ok (.dup2, 1) := by decide +kernel
theorem dX10_setPort_71 : decode cX10_setPort 71 = .ok (.iaload, 1) := by decide +kernel
theorem dX10_setPort_72 : decode cX10_setPort 72 = .ok (.aload_n 0, 1) := by decide +kernel
theorem dX10_setPort_73 : decode cX10_setPort 73 = .ok (.iload_n 1, 1) := by decide +kernel
theorem dX10_setPort_74 : decode cX10_setPort 74 = .ok (.iconst 5, 1) := by decide +kernel
theorem dX10_setPort_75 : decode cX10_setPort 75 = .ok (.invokevirtual 44, 3) := by decide +kernel
theorem dX10_setPort_78 : decode cX10_setPort 78 = .ok (.iadd, 1) := by decide +kernel
theorem dX10_setPort_79 : decode cX10_setPort 79 = .ok (.iastore, 1) := by decide +kernel
theorem dX10_setPort_80 : decode cX10_setPort 80 = .ok (.aload_n 0, 1) := by decide +kernel
theorem dX10_setPort_81 : decode cX10_setPort 81 = .ok (.iload_n 1, 1) := by decide +kernel
theorem dX10_setPort_82 : decode cX10_setPort 82 = .ok (.iconst 5, 1) := by decide +kernel
theorem dX10_setPort_83 : decode cX10_setPort 83 = .ok (.iconst 0, 1) := by decide +kernel
theorem dX10_setPort_84 : decode cX10_setPort 84 = .ok (.invokevirtual 32, 3) := by decide +kernel
theorem dX10_setPort_87 : decode cX10_setPort 87 = .ok (.aload_n 0, 1) := by decide +kernel
theorem dX10_setPort_88 : decode cX10_setPort 88 = .ok (.invokevirtual 58, 3) := by decide +kernel
theorem dX10_setPort_91 : decode cX10_setPort 91 = .ok (.ireturn, 1) := by decide +kernel
theorem dX10_cables_0 : decode cX10_cables 0 = .ok (.iconst 0, 1) := by decide +kernel
theorem dX10_cables_1 : decode cX10_cables 1 = .ok (.istore_n 1, 1) := by decide +kernel
theorem dX10_cables_2 : decode cX10_cables 2 = .ok (.iconst 0, 1) := by decide +kernel
theorem dX10_cables_3 : decode cX10_cables 3 = .ok (.istore_n 2, 1) := by decide +kernel
theorem dX10_cables_4 : decode cX10_cables 4 = .ok (.iload_n 2, 1) := by decide +kernel
theorem dX10_cables_5 : decode cX10_cables 5 = .ok (.bipush 8, 2) := by decide +kernel
theorem dX10_cables_7 : decode cX10_cables 7 = .ok (.if_icmp .ge 26, 3) := by decide +kernel
theorem dX10_cables_10 : decode cX10_cables 10 = .ok (.iload_n 1, 1) := by decide +kernel
theorem dX10_cables_11 : decode cX10_cables 11 = .ok (.aload_n 0, 1) := by decide +kernel
theorem dX10_cables_12 : decode cX10_cables 12 = .ok (.iload_n 2, 1) := by decide +kernel
theorem dX10_cables_13 : decode cX10_cables 13 = .ok (.iconst 3, 1) := by decide +kernel
theorem dX10_cables_14 : decode cX10_cables 14 = .ok (.invokevirtual 44, 3) := by decide +kernel
theorem dX10_cables_17 : decode cX10_cables 17 = .ok (.ifCond .le 7, 3) := by decide +kernel
theorem dX10_cables_20 : decode cX10_cables 20 = .ok (.iconst 1, 1) := by decide +kernel
theorem dX10_cables_21 : decode cX10_cables 21 = .ok (.goto 4, 3) := by decide +kernel
theorem dX10_cables_24 : decode cX10_cables 24 = .ok (.iconst 0, 1) := by decide +kernel
theorem dX10_cables_25 : decode cX10_cables 25 = .ok (.iadd, 1) := by decide +kernel
theorem dX10_cables_26 : decode cX10_cables 26 = .ok (.istore_n 1, 1) := by decide +kernel
theorem dX10_cables_27 : decode cX10_cables 27 = .ok (.iinc 2 1, 3) := by decide +kernel
theorem dX10_cables_30 : decode cX10_cables 30 = .ok (.goto (-26), 3) := by decide +kernel
theorem dX10_cables_33 : decode cX10_cables 33 = .ok (.iload_n 1, 1) := by decide +kernel
theorem dX10_cables_34 : decode cX10_cables 34 = .ok (.iconst 2, 1) := by decide +kernel
theorem dX10_cables_35 : decode cX10_cables 35 = .ok (.idiv, 1) := by decide +kernel
theorem dX10_cables_36 : decode cX10_cables 36 = .ok (.ireturn, 1) := by decide +kernel
theorem dX10_join_0 : decode cX10_join 0 = .ok (.iload_n 1, 1) := by decide +kernel
theorem dX10_join_1 : decode cX10_join 1 = .ok (.invokestatic 52, 3) := by decide +kernel
theorem dX10_join_4 : decode cX10_join 4 = .ok (.ifCond .ne 10, 3) := by decide +kernel
theorem dX10_join_7 : decode cX10_join 7 = .ok (.iload_n 2, 1) := by decide +kernel
theorem dX10_join_8 : decode cX10_join 8 = .ok (.invokestatic 52, 3) := by decide +kernel
theorem dX10_join_11 : decode cX10_join 11 = .ok (.ifCond .eq 5, 3) := by decide +kernel
theorem dX10_join_14 : decode cX10_join 14 = .ok (.iconst (-1), 1) := by decide +kernel
theorem dX10_join_15 : decode cX10_join 15 = .ok (.ireturn, 1) := by decide +kernel
theorem dX10_join_16 : decode cX10_join 16 = .ok (.iload_n 1, 1) := by decide +kernel
theorem dX10_join_17 : decode cX10_join 17 = .ok (.iload_n 2, 1) := by decide +kernel
theorem dX10_join_18 : decode cX10_join 18 = .ok (.if_icmp .ne 6, 3) := by decide +kernel
theorem dX10_join_21 : decode cX10_join 21 = .ok (.bipush (-2), 2) := by decide +kernel
theorem dX10_join_23 : decode cX10_join 23 = .ok (.ireturn, 1) := by decide +kernel
theorem dX10_join_24 : decode cX10_join 24 = .ok (.aload_n 0, 1) := by decide +kernel
theorem dX10_join_25 : decode cX10_join 25 = .ok (.iload_n 1, 1) := by decide +kernel
theorem dX10_join_26 : decode cX10_join 26 = .ok (.iconst 3, 1) := by decide +kernel
theorem dX10_join_27 : decode cX10_join 27 = .ok (.invokevirtual 44, 3) := by decide +kernel
theorem dX10_join_30 : decode cX10_join 30 = .ok (.ifCond .gt 12, 3) := by decide +kernel
theorem dX10_join_33 : decode cX10_join 33 = .ok (.aload_n 0, 1) := by decide +kernel
theorem dX10_join_34 : decode cX10_join 34 = .ok (.iload_n 2, 1) := by decide +kernel
theorem dX10_join_35 : decode cX10_join 35 = .ok (.iconst 3, 1) := by decide +kernel
theorem dX10_join_36 : decode cX10_join 36 = .ok (.invokevirtual 44, 3) := by decide +kernel
theorem dX10_join_39 : decode cX10_join 39 = .ok (.ifCond .le 6, 3) := by decide +kernel
theorem dX10_join_42 : decode cX10_join 42 = .ok (.bipush (-3), 2) := by decide +kernel
theorem dX10_join_44 : decode cX10_join 44 = .ok (.ireturn, 1) := by decide +kernel
theorem dX10_join_45 : decode cX10_join 45 = .ok (.aload_n 0, 1) := by decide +kernel
theorem dX10_join_46 : decode cX10_join 46 = .ok (.invokevirtual 55, 3) := by decide +kernel
theorem dX10_join_49 : decode cX10_join 49 = .ok (.aload_n 0, 1) := by decide +kernel
theorem dX10_join_50 : decode cX10_join 50 = .ok (.iload_n 1, 1) := by decide +kernel
theorem dX10_join_51 : decode cX10_join 51 = .ok (.iconst 3, 1) := by decide +kernel
theorem dX10_join_52 : decode cX10_join 52 = .ok (.iload_n 2, 1) := by decide +kernel
theorem dX10_join_53 : decode cX10_join 53 = .ok (.iconst 1, 1) := by decide +kernel
theorem dX10_join_54 : decode cX10_join 54 = .ok (.iadd, 1) := by decide +kernel
theorem dX10_join_55 : decode cX10_join 55 = .ok (.invokevirtual 32, 3) := by decide +kernel
theorem dX10_join_58 : decode cX10_join 58 = .ok (.aload_n 0, 1) := by decide +kernel
theorem dX10_join_59 : decode cX10_join 59 = .ok (.iload_n 2, 1) := by decide +kernel
theorem dX10_join_60 : decode cX10_join 60 = .ok (.iconst 3, 1) := by decide +kernel
theorem dX10_join_61 : decode cX10_join 61 = .ok (.iload_n 1, 1) := by decide +kernel
theorem dX10_join_62 : decode cX10_join 62 = .ok (.iconst 1, 1) := by decide +kernel
theorem dX10_join_63 : decode cX10_join 63 = .ok (.iadd, 1) := by decide +kernel
theorem dX10_join_64 : decode cX10_join 64 = .ok (.invokevirtual 32, 3) := by decide +kernel
theorem dX10_join_67 : decode cX10_join 67 = .ok (.aload_n 0, 1) := by decide +kernel
theorem dX10_join_68 : decode cX10_join 68 = .ok (.invokevirtual 62, 3) := by decide +kernel
theorem dX10_join_71 : decode cX10_join 71 = .ok (.ireturn, 1) := by decide +kernel
theorem dX10_part_0 : decode cX10_part 0 = .ok (.iload_n 1, 1) := by decide +kernel
theorem dX10_part_1 : decode cX10_part 1 = .ok (.invokestatic 52, 3) := by decide +kernel
theorem dX10_part_4 : decode cX10_part 4 = .ok (.ifCond .eq 5, 3) := by decide +kernel
theorem dX10_part_7 : decode cX10_part 7 = .ok (.iconst (-1), 1) := by decide +kernel
theorem dX10_part_8 : decode cX10_part 8 = .ok (.ireturn, 1) := by decide +kernel
theorem dX10_part_9 : decode cX10_part 9 = .ok (.aload_n 0, 1) := by decide +kernel
theorem dX10_part_10 : decode cX10_part 10 = .ok (.iload_n 1, 1) := by decide +kernel
theorem dX10_part_11 : decode cX10_part 11 = .ok (.iconst 3, 1) := by decide +kernel
theorem dX10_part_12 : decode cX10_part 12 = .ok (.invokevirtual 44, 3) := by decide +kernel
theorem dX10_part_15 : decode cX10_part 15 = .ok (.iconst 1, 1) := by decide +kernel
theorem dX10_part_16 : decode cX10_part 16 = .ok (.isub, 1) := by decide +kernel
theorem dX10_part_17 : decode cX10_part 17 = .ok (.istore_n 2, 1) := by decide +kernel
theorem dX10_part_18 : decode cX10_part 18 = .ok (.iload_n 2, 1) := by decide +kernel
theorem dX10_part_19 : decode cX10_part 19 = .ok (.ifCond .ge 6, 3) := by decide +kernel
theorem dX10_part_22 : decode cX10_part 22 = .ok (.bipush (-4), 2) := by decide +kernel
theorem dX10_part_24 : decode cX10_part 24 = .ok (.ireturn, 1) := by decide +kernel
theorem dX10_part_25 : decode cX10_part 25 = .ok (.aload_n 0, 1) := by decide +kernel
theorem dX10_part_26 : decode cX10_part 26 = .ok (.invokevirtual 55, 3) := by decide +kernel
theorem dX10_part_29 : decode cX10_part 29 = .ok (.aload_n 0, 1) := by decide +kernel
theorem dX10_part_30 : decode cX10_part 30 = .ok (.iload_n 1, 1) := by decide +kernel
theorem dX10_part_31 : decode cX10_part 31 = .ok (.iconst 3, 1) := by decide +kernel
theorem dX10_part_32 : decode cX10_part 32 = .ok (.iconst 0, 1) := by decide +kernel
theorem dX10_part_33 : decode cX10_part 33 = .ok (.invokevirtual 32, 3) := by decide +kernel
theorem dX10_part_36 : decode cX10_part 36 = .ok (.aload_n 0, 1) := by decide +kernel
theorem dX10_part_37 : decode cX10_part 37 = .ok (.iload_n 2, 1) := by decide +kernel
theorem dX10_part_38 : decode cX10_part 38 = .ok (.iconst 3, 1) := by decide +kernel
theorem dX10_part_39 : decode cX10_part 39 = .ok (.iconst 0, 1) := by decide +kernel
theorem dX10_part_40 : decode cX10_part 40 = .ok (.invokevirtual 32, 3) := by decide +kernel
theorem dX10_part_43 : decode cX10_part 43 = .ok (.iload_n 2, 1) := by decide +kernel
theorem dX10_part_44 : decode cX10_part 44 = .ok (.ireturn, 1) := by decide +kernel
theorem dX10_holdLeft_0 : decode cX10_holdLeft 0 = .ok (.aload_n 0, 1) := by decide +kernel
theorem dX10_holdLeft_1 : decode cX10_holdLeft 1 = .ok (.iload_n 1, 1) := by decide +kernel
theorem dX10_holdLeft_2 : decode cX10_holdLeft 2 = .ok (.iconst 1, 1) := by decide +kernel
theorem dX10_holdLeft_3 : decode cX10_holdLeft 3 = .ok (.invokevirtual 44, 3) := by decide +kernel
theorem dX10_holdLeft_6 : decode cX10_holdLeft 6 = .ok (.ifCond .ne 7, 3) := by decide +kernel
theorem dX10_holdLeft_9 : decode cX10_holdLeft 9 = .ok (.iconst 0, 1) := by decide +kernel
theorem dX10_holdLeft_10 : decode cX10_holdLeft 10 = .ok (.goto 16, 3) := by decide +kernel
theorem dX10_holdLeft_13 : decode cX10_holdLeft 13 = .ok (.aload_n 0, 1) := by decide +kernel
theorem dX10_holdLeft_14 : decode cX10_holdLeft 14 = .ok (.iload_n 1, 1) := by decide +kernel
theorem dX10_holdLeft_15 : decode cX10_holdLeft 15 = .ok (.iconst 1, 1) := by decide +kernel
theorem dX10_holdLeft_16 : decode cX10_holdLeft 16 = .ok (.invokevirtual 44, 3) := by decide +kernel
theorem dX10_holdLeft_19 : decode cX10_holdLeft 19 = .ok (.aload_n 0, 1) := by decide +kernel
theorem dX10_holdLeft_20 : decode cX10_holdLeft 20 = .ok (.getfield 7, 3) := by decide +kernel
theorem dX10_holdLeft_23 : decode cX10_holdLeft 23 = .ok (.iconst 4, 1) := by decide +kernel
theorem dX10_holdLeft_24 : decode cX10_holdLeft 24 = .ok (.iaload, 1) := by decide +kernel
theorem dX10_holdLeft_25 : decode cX10_holdLeft 25 = .ok (.isub, 1) := by decide +kernel
theorem dX10_holdLeft_26 : decode cX10_holdLeft 26 = .ok (.ireturn, 1) := by decide +kernel
theorem dX10_release_0 : decode cX10_release 0 = .ok (.iload_n 1, 1) := by decide +kernel
theorem dX10_release_1 : decode cX10_release 1 = .ok (.invokestatic 52, 3) := by decide +kernel
theorem dX10_release_4 : decode cX10_release 4 = .ok (.ifCond .eq 5, 3) := by decide +kernel
theorem dX10_release_7 : decode cX10_release 7 = .ok (.iconst (-1), 1) := by decide +kernel
theorem dX10_release_8 : decode cX10_release 8 = .ok (.ireturn, 1) := by decide +kernel
theorem dX10_release_9 : decode cX10_release 9 = .ok (.aload_n 0, 1) := by decide +kernel
theorem dX10_release_10 : decode cX10_release 10 = .ok (.iload_n 1, 1) := by decide +kernel
theorem dX10_release_11 : decode cX10_release 11 = .ok (.iconst 1, 1) := by decide +kernel
theorem dX10_release_12 : decode cX10_release 12 = .ok (.invokevirtual 44, 3) := by decide +kernel
theorem dX10_release_15 : decode cX10_release 15 = .ok (.ifCond .ne 6, 3) := by decide +kernel
theorem dX10_release_18 : decode cX10_release 18 = .ok (.bipush (-4), 2) := by decide +kernel
theorem dX10_release_20 : decode cX10_release 20 = .ok (.ireturn, 1) := by decide +kernel
theorem dX10_release_21 : decode cX10_release 21 = .ok (.aload_n 0, 1) := by decide +kernel
theorem dX10_release_22 : decode cX10_release 22 = .ok (.invokevirtual 55, 3) := by decide +kernel
theorem dX10_release_25 : decode cX10_release 25 = .ok (.aload_n 0, 1) := by decide +kernel
theorem dX10_release_26 : decode cX10_release 26 = .ok (.iload_n 1, 1) := by decide +kernel
theorem dX10_release_27 : decode cX10_release 27 = .ok (.invokevirtual 65, 3) := by decide +kernel
theorem dX10_release_30 : decode cX10_release 30 = .ok (.istore_n 2, 1) := by decide +kernel
theorem dX10_release_31 : decode cX10_release 31 = .ok (.aload_n 0, 1) := by decide +kernel
theorem dX10_release_32 : decode cX10_release 32 = .ok (.iload_n 1, 1) := by decide +kernel
theorem dX10_release_33 : decode cX10_release 33 = .ok (.iconst 1, 1) := by decide +kernel
theorem dX10_release_34 : decode cX10_release 34 = .ok (.iconst 0, 1) := by decide +kernel
theorem dX10_release_35 : decode cX10_release 35 = .ok (.invokevirtual 32, 3) := by decide +kernel
theorem dX10_release_38 : decode cX10_release 38 = .ok (.iload_n 2, 1) := by decide +kernel
theorem dX10_release_39 : decode cX10_release 39 = .ok (.ireturn, 1) := by decide +kernel
theorem dX10_mostOf_0 : decode cX10_mostOf 0 = .ok (.iload_n 0, 1) := by decide +kernel
theorem dX10_mostOf_1 : decode cX10_mostOf 1 = .ok (.ifCond .ne 9, 3) := by decide +kernel
theorem dX10_mostOf_4 : decode cX10_mostOf 4 = .ok (.sipush 1000, 3) := by decide +kernel
theorem dX10_mostOf_7 : decode cX10_mostOf 7 = .ok (.goto 26, 3) := by decide +kernel
theorem dX10_mostOf_10 : decode cX10_mostOf 10 = .ok (.iload_n 0, 1) := by decide +kernel
theorem dX10_mostOf_11 : decode cX10_mostOf 11 = .ok (.iconst 1, 1) := by decide +kernel
theorem dX10_mostOf_12 : decode cX10_mostOf 12 = .ok (.if_icmp .ne 9, 3) := by decide +kernel
theorem dX10_mostOf_15 : decode cX10_mostOf 15 = .ok (.sipush 600, 3) := by decide +kernel
theorem dX10_mostOf_18 : decode cX10_mostOf 18 = .ok (.goto 15, 3) := by decide +kernel
theorem dX10_mostOf_21 : decode cX10_mostOf 21 = .ok (.iload_n 0, 1) := by decide +kernel
theorem dX10_mostOf_22 : decode cX10_mostOf 22 = .ok (.iconst 2, 1) := by decide +kernel
theorem dX10_mostOf_23 : decode cX10_mostOf 23 = .ok (.if_icmp .ne 8, 3) := by decide +kernel
theorem dX10_mostOf_26 : decode cX10_mostOf 26 = .ok (.bipush 50, 2) := by decide +kernel
theorem dX10_mostOf_28 : decode cX10_mostOf 28 = .ok (.goto 5, 3) := by decide +kernel
theorem dX10_mostOf_31 : decode cX10_mostOf 31 = .ok (.bipush 10, 2) := by decide +kernel
theorem dX10_mostOf_33 : decode cX10_mostOf 33 = .ok (.ireturn, 1) := by decide +kernel
theorem dX10_set_0 : decode cX10_set 0 = .ok (.iload_n 1, 1) := by decide +kernel
theorem dX10_set_1 : decode cX10_set 1 = .ok (.iconst 0, 1) := by decide +kernel
theorem dX10_set_2 : decode cX10_set 2 = .ok (.iconst 3, 1) := by decide +kernel
theorem dX10_set_3 : decode cX10_set 3 = .ok (.invokestatic 36, 3) := by decide +kernel
theorem dX10_set_6 : decode cX10_set 6 = .ok (.ifCond .eq 15, 3) := by decide +kernel
theorem dX10_set_9 : decode cX10_set 9 = .ok (.iload_n 2, 1) := by decide +kernel
theorem dX10_set_10 : decode cX10_set 10 = .ok (.iconst 1, 1) := by decide +kernel
theorem dX10_set_11 : decode cX10_set 11 = .ok (.iload_n 1, 1) := by decide +kernel
theorem dX10_set_12 : decode cX10_set 12 = .ok (.invokestatic 69, 3) := by decide +kernel
theorem dX10_set_15 : decode cX10_set 15 = .ok (.invokestatic 36, 3) := by decide +kernel
theorem dX10_set_18 : decode cX10_set 18 = .ok (.ifCond .ne 6, 3) := by decide +kernel
theorem dX10_set_21 : decode cX10_set 21 = .ok (.bipush (-2), 2) := by decide +kernel
theorem dX10_set_23 : decode cX10_set 23 = .ok (.ireturn, 1) := by decide +kernel
theorem dX10_set_24 : decode cX10_set 24 = .ok (.aload_n 0, 1) := by decide +kernel
theorem dX10_set_25 : decode cX10_set 25 = .ok (.getfield 7, 3) := by decide +kernel
theorem dX10_set_28 : decode cX10_set 28 = .ok (.iload_n 1, 1) := by decide +kernel
theorem dX10_set_29 : decode cX10_set 29 = .ok (.iaload, 1) := by decide +kernel
theorem dX10_set_30 : decode cX10_set 30 = .ok (.istore_n 3, 1) := by decide +kernel
theorem dX10_set_31 : decode cX10_set 31 = .ok (.iload_n 3, 1) := by decide +kernel
theorem dX10_set_32 : decode cX10_set 32 = .ok (.iload_n 2, 1) := by decide +kernel
theorem dX10_set_33 : decode cX10_set 33 = .ok (.if_icmp .ne 6, 3) := by decide +kernel
theorem dX10_set_36 : decode cX10_set 36 = .ok (.bipush (-4), 2) := by decide +kernel
theorem dX10_set_38 : decode cX10_set 38 = .ok (.ireturn, 1) := by decide +kernel
theorem dX10_set_39 : decode cX10_set 39 = .ok (.aload_n 0, 1) := by decide +kernel
theorem dX10_set_40 : decode cX10_set 40 = .ok (.invokevirtual 55, 3) := by decide +kernel
theorem dX10_set_43 : decode cX10_set 43 = .ok (.aload_n 0, 1) := by decide +kernel
theorem dX10_set_44 : decode cX10_set 44 = .ok (.getfield 7, 3) := by decide +kernel
theorem dX10_set_47 : decode cX10_set 47 = .ok (.iload_n 1, 1) := by decide +kernel
theorem dX10_set_48 : decode cX10_set 48 = .ok (.iload_n 2, 1) := by decide +kernel
theorem dX10_set_49 : decode cX10_set 49 = .ok (.iastore, 1) := by decide +kernel
theorem dX10_set_50 : decode cX10_set 50 = .ok (.iload_n 3, 1) := by decide +kernel
theorem dX10_set_51 : decode cX10_set 51 = .ok (.ireturn, 1) := by decide +kernel
theorem dX10_entries_0 : decode cX10_entries 0 = .ok (.iconst 0, 1) := by decide +kernel
theorem dX10_entries_1 : decode cX10_entries 1 = .ok (.istore_n 1, 1) := by decide +kernel
theorem dX10_entries_2 : decode cX10_entries 2 = .ok (.iconst 1, 1) := by decide +kernel
theorem dX10_entries_3 : decode cX10_entries 3 = .ok (.istore_n 2, 1) := by decide +kernel
theorem dX10_entries_4 : decode cX10_entries 4 = .ok (.iload_n 2, 1) := by decide +kernel
theorem dX10_entries_5 : decode cX10_entries 5 = .ok (.bipush 100, 2) := by decide +kernel
theorem dX10_entries_7 : decode cX10_entries 7 = .ok (.if_icmp .ge 30, 3) := by decide +kernel
theorem dX10_entries_10 : decode cX10_entries 10 = .ok (.iload_n 1, 1) := by decide +kernel
theorem dX10_entries_11 : decode cX10_entries 11 = .ok (.aload_n 0, 1) := by decide +kernel
theorem dX10_entries_12 : decode cX10_entries 12 = .ok (.getfield 7, 3) := by decide +kernel
theorem dX10_entries_15 : decode cX10_entries 15 = .ok (.sipush 552, 3) := by decide +kernel
theorem dX10_entries_18 : decode cX10_entries 18 = .ok (.iload_n 2, 1) := by decide +kernel
theorem dX10_entries_19 : decode cX10_entries 19 = .ok (.iadd, 1) := by decide +kernel
theorem dX10_entries_20 : decode cX10_entries 20 = .ok (.iaload, 1) := by decide +kernel
theorem dX10_entries_21 : decode cX10_entries 21 = .ok (.ifCond .le 7, 3) := by decide +kernel
theorem dX10_entries_24 : decode cX10_entries 24 = .ok (.iconst 1, 1) := by decide +kernel
theorem dX10_entries_25 : decode cX10_entries 25 = .ok (.goto 4, 3) := by decide +kernel
theorem dX10_entries_28 : decode cX10_entries 28 = .ok (.iconst 0, 1) := by decide +kernel
theorem dX10_entries_29 : decode cX10_entries 29 = .ok (.iadd, 1) := by decide +kernel
theorem dX10_entries_30 : decode cX10_entries 30 = .ok (.istore_n 1, 1) := by decide +kernel
theorem dX10_entries_31 : decode cX10_entries 31 = .ok (.iinc 2 1, 3) := by decide +kernel
theorem dX10_entries_34 : decode cX10_entries 34 = .ok (.goto (-30), 3) := by decide +kernel
theorem dX10_entries_37 : decode cX10_entries 37 = .ok (.iload_n 1, 1) := by decide +kernel
theorem dX10_entries_38 : decode cX10_entries 38 = .ok (.ireturn, 1) := by decide +kernel
theorem dX10_movesOf_0 : decode cX10_movesOf 0 = .ok (.iconst 0, 1) := by decide +kernel
theorem dX10_movesOf_1 : decode cX10_movesOf 1 = .ok (.istore_n 2, 1) := by decide +kernel
theorem dX10_movesOf_2 : decode cX10_movesOf 2 = .ok (.iconst 0, 1) := by decide +kernel
theorem dX10_movesOf_3 : decode cX10_movesOf 3 = .ok (.istore_n 3, 1) := by decide +kernel
theorem dX10_movesOf_4 : decode cX10_movesOf 4 = .ok (.iload_n 3, 1) := by decide +kernel
theorem dX10_movesOf_5 : decode cX10_movesOf 5 = .ok (.bipush 10, 2) := by decide +kernel
theorem dX10_movesOf_7 : decode cX10_movesOf 7 = .ok (.if_icmp .ge 27, 3) := by decide +kernel
theorem dX10_movesOf_10 : decode cX10_movesOf 10 = .ok (.iload_n 2, 1) := by decide +kernel
theorem dX10_movesOf_11 : decode cX10_movesOf 11 = .ok (.aload_n 0, 1) := by decide +kernel
theorem dX10_movesOf_12 : decode cX10_movesOf 12 = .ok (.getfield 7, 3) := by decide +kernel
theorem dX10_movesOf_15 : decode cX10_movesOf 15 = .ok (.sipush 752, 3) := by decide +kernel
theorem dX10_movesOf_18 : decode cX10_movesOf 18 = .ok (.bipush 10, 2) := by decide +kernel
theorem dX10_movesOf_20 : decode cX10_movesOf 20 = .ok (.iload_n 1, 1) := by decide +kernel
theorem dX10_movesOf_21 : decode cX10_movesOf 21 = .ok (.imul, 1) := by decide +kernel
theorem dX10_movesOf_22 : decode cX10_movesOf 22 = .ok (.iadd, 1) := by decide +kernel
theorem dX10_movesOf_23 : decode cX10_movesOf 23 = .ok (.iload_n 3, 1) := by decide +kernel
theorem dX10_movesOf_24 : decode cX10_movesOf 24 = .ok (.iadd, 1) := by decide +kernel
theorem dX10_movesOf_25 : decode cX10_movesOf 25 = .ok (.iaload, 1) := by decide +kernel
theorem dX10_movesOf_26 : decode cX10_movesOf 26 = .ok (.iadd, 1) := by decide +kernel
theorem dX10_movesOf_27 : decode cX10_movesOf 27 = .ok (.istore_n 2, 1) := by decide +kernel
theorem dX10_movesOf_28 : decode cX10_movesOf 28 = .ok (.iinc 3 1, 3) := by decide +kernel
theorem dX10_movesOf_31 : decode cX10_movesOf 31 = .ok (.goto (-27), 3) := by decide +kernel
theorem dX10_movesOf_34 : decode cX10_movesOf 34 = .ok (.iload_n 2, 1) := by decide +kernel
theorem dX10_movesOf_35 : decode cX10_movesOf 35 = .ok (.ireturn, 1) := by decide +kernel
theorem dX10_removeOldest_0 : decode cX10_removeOldest 0 = .ok (.bipush (-4), 2) := by decide +kernel
theorem dX10_removeOldest_2 : decode cX10_removeOldest 2 = .ok (.istore_n 1, 1) := by decide +kernel
theorem dX10_removeOldest_3 : decode cX10_removeOldest 3 = .ok (.iconst 1, 1) := by decide +kernel
theorem dX10_removeOldest_4 : decode cX10_removeOldest 4 = .ok (.istore_n 2, 1) := by decide +kernel
theorem dX10_removeOldest_5 : decode cX10_removeOldest 5 = .ok (.iload_n 2, 1) := by decide +kernel
theorem dX10_removeOldest_6 : decode cX10_removeOldest 6 = .ok (.bipush 100, 2) := by decide +kernel
theorem dX10_removeOldest_8 : decode cX10_removeOldest 8 = .ok (.if_icmp .ge 53, 3) := by decide +kernel
theorem dX10_removeOldest_11 : decode cX10_removeOldest 11 = .ok (.aload_n 0, 1) := by decide +kernel
theorem dX10_removeOldest_12 : decode cX10_removeOldest 12 = .ok (.getfield 7, 3) := by decide +kernel
theorem dX10_removeOldest_15 : decode cX10_removeOldest 15 = .ok (.sipush 552, 3) := by decide +kernel
theorem dX10_removeOldest_18 : decode cX10_removeOldest 18 = .ok (.iload_n 2, 1) := by decide +kernel
theorem dX10_removeOldest_19 : decode cX10_removeOldest 19 = .ok (.iadd, 1) := by decide +kernel
theorem dX10_removeOldest_20 : decode cX10_removeOldest 20 = .ok (.iaload, 1) := by decide +kernel
theorem dX10_removeOldest_21 : decode cX10_removeOldest 21 = .ok (.ifCond .le 34, 3) := by decide +kernel
theorem dX10_removeOldest_24 : decode cX10_removeOldest 24 = .ok (.iload_n 1, 1) := by decide +kernel
theorem dX10_removeOldest_25 : decode cX10_removeOldest 25 = .ok (.bipush (-4), 2) := by decide +kernel
theorem dX10_removeOldest_27 : decode cX10_removeOldest 27 = .ok (.if_icmp .eq 26, 3) := by decide +kernel
theorem dX10_removeOldest_30 : decode cX10_removeOldest 30 = .ok (.aload_n 0, 1) := by decide +kernel
theorem dX10_removeOldest_31 : decode cX10_removeOldest 31 = .ok (.getfield 7, 3) := by decide +kernel
theorem dX10_removeOldest_34 : decode cX10_removeOldest 34 = .ok (.sipush 652, 3) := by decide +kernel
theorem dX10_removeOldest_37 : decode cX10_removeOldest 37 = .ok (.iload_n 2, 1) := by decide +kernel
theorem dX10_removeOldest_38 : decode cX10_removeOldest 38 = .ok (.iadd, 1) := by decide +kernel
theorem dX10_removeOldest_39 : decode cX10_removeOldest 39 = .ok (.iaload, 1) := by decide +kernel
theorem dX10_removeOldest_40 : decode cX10_removeOldest 40 = .ok (.aload_n 0, 1) := by decide +kernel
theorem dX10_removeOldest_41 : decode cX10_removeOldest 41 = .ok (.getfield 7, 3) := by decide +kernel
theorem dX10_removeOldest_44 : decode cX10_removeOldest 44 = .ok (.sipush 652, 3) := by decide +kernel
theorem dX10_removeOldest_47 : decode cX10_removeOldest 47 = .ok (.iload_n 1, 1) := by decide +kernel
theorem dX10_removeOldest_48 : decode cX10_removeOldest 48 = .ok (.iadd, 1) := by decide +kernel
theorem dX10_removeOldest_49 : decode cX10_removeOldest 49 = .ok (.iaload, 1) := by decide +kernel
theorem dX10_removeOldest_50 : decode cX10_removeOldest 50 = .ok (.if_icmp .ge 5, 3) := by decide +kernel
theorem dX10_removeOldest_53 : decode cX10_removeOldest 53 = .ok (.iload_n 2, 1) := by decide +kernel
theorem dX10_removeOldest_54 : decode cX10_removeOldest 54 = .ok (.istore_n 1, 1) := by decide +kernel
theorem dX10_removeOldest_55 : decode cX10_removeOldest 55 = .ok (.iinc 2 1, 3) := by decide +kernel
theorem dX10_removeOldest_58 : decode cX10_removeOldest 58 = .ok (.goto (-53), 3) := by decide +kernel
theorem dX10_removeOldest_61 : decode cX10_removeOldest 61 = .ok (.aload_n 0, 1) := by decide +kernel
theorem dX10_removeOldest_62 : decode cX10_removeOldest 62 = .ok (.getfield 7, 3) := by decide +kernel
theorem dX10_removeOldest_65 : decode cX10_removeOldest 65 = .ok (.sipush 552, 3) := by decide +kernel
theorem dX10_removeOldest_68 : decode cX10_removeOldest 68 = .ok (.iload_n 1, 1) := by decide +kernel
theorem dX10_removeOldest_69 : decode cX10_removeOldest 69 = .ok (.iadd, 1) := by decide +kernel
theorem dX10_removeOldest_70 : decode cX10_removeOldest 70 = .ok (.iconst 0, 1) := by decide +kernel
theorem dX10_removeOldest_71 : decode cX10_removeOldest 71 = .ok (.iastore, 1) := by decide +kernel
theorem dX10_removeOldest_72 : decode cX10_removeOldest 72 = .ok (.return_, 1) := by decide +kernel
theorem dX10_quarantine_0 : decode cX10_quarantine 0 = .ok (.aload_n 0, 1) := by decide +kernel
theorem dX10_quarantine_1 : decode cX10_quarantine 1 = .ok (.iload_n 1, 1) := by decide +kernel
theorem dX10_quarantine_2 : decode cX10_quarantine 2 = .ok (.iconst 1, 1) := by decide +kernel
theorem dX10_quarantine_3 : decode cX10_quarantine 3 = .ok (.aload_n 0, 1) := by decide +kernel
theorem dX10_quarantine_4 : decode cX10_quarantine 4 = .ok (.getfield 7, 3) := by decide +kernel
theorem dX10_quarantine_7 : decode cX10_quarantine 7 = .ok (.iconst 4, 1) := by decide +kernel
theorem dX10_quarantine_8 : decode cX10_quarantine 8 = .ok (.iaload, 1) := by decide +kernel
theorem dX10_quarantine_9 : decode cX10_quarantine 9 = .ok (.aload_n 0, 1) := by decide +kernel
theorem dX10_quarantine_10 : decode cX10_quarantine 10 = .ok (.getfield 7, 3) := by decide +kernel
theorem dX10_quarantine_13 : decode cX10_quarantine 13 = .ok (.iconst 1, 1) := by decide +kernel
theorem dX10_quarantine_14 : decode cX10_quarantine 14 = .ok (.iaload, 1) := by decide +kernel
theorem dX10_quarantine_15 : decode cX10_quarantine 15 = .ok (.iadd, 1) := by decide +kernel
theorem dX10_quarantine_16 : decode cX10_quarantine 16 = .ok (.invokevirtual 32, 3) := by decide +kernel
theorem dX10_quarantine_19 : decode cX10_quarantine 19 = .ok (.aload_n 0, 1) := by decide +kernel
theorem dX10_quarantine_20 : decode cX10_quarantine 20 = .ok (.iload_n 1, 1) := by decide +kernel
theorem dX10_quarantine_21 : decode cX10_quarantine 21 = .ok (.iconst 2, 1) := by decide +kernel
theorem dX10_quarantine_22 : decode cX10_quarantine 22 = .ok (.iload_n 2, 1) := by decide +kernel
theorem dX10_quarantine_23 : decode cX10_quarantine 23 = .ok (.invokevirtual 32, 3) := by decide +kernel
theorem dX10_quarantine_26 : decode cX10_quarantine 26 = .ok (.aload_n 0, 1) := by decide +kernel
theorem dX10_quarantine_27 : decode cX10_quarantine 27 = .ok (.getfield 7, 3) := by decide +kernel
theorem dX10_quarantine_30 : decode cX10_quarantine 30 = .ok (.iconst 5, 1) := by decide +kernel
theorem dX10_quarantine_31 : decode cX10_quarantine 31 = .ok (.dup2, 1) := by decide +kernel
theorem dX10_quarantine_32 : decode cX10_quarantine 32 = .ok (.iaload, 1) := by decide +kernel
theorem dX10_quarantine_33 : decode cX10_quarantine 33 = .ok (.iconst 1, 1) := by decide +kernel
theorem dX10_quarantine_34 : decode cX10_quarantine 34 = .ok (.iadd, 1) := by decide +kernel
theorem dX10_quarantine_35 : decode cX10_quarantine 35 = .ok (.iastore, 1) := by decide +kernel
theorem dX10_quarantine_36 : decode cX10_quarantine 36 = .ok (.aload_n 0, 1) := by decide +kernel
theorem dX10_quarantine_37 : decode cX10_quarantine 37 = .ok (.iload_n 1, 1) := by decide +kernel
theorem dX10_quarantine_38 : decode cX10_quarantine 38 = .ok (.invokevirtual 72, 3) := by decide +kernel
theorem dX10_quarantine_41 : decode cX10_quarantine 41 = .ok (.return_, 1) := by decide +kernel
theorem dX10_queueCell_0 : decode cX10_queueCell 0 = .ok (.sipush 168, 3) := by decide +kernel
theorem dX10_queueCell_3 : decode cX10_queueCell 3 = .ok (.bipush 48, 2) := by decide +kernel
theorem dX10_queueCell_5 : decode cX10_queueCell 5 = .ok (.iload_n 1, 1) := by decide +kernel
theorem dX10_queueCell_6 : decode cX10_queueCell 6 = .ok (.imul, 1) := by decide +kernel
theorem dX10_queueCell_7 : decode cX10_queueCell 7 = .ok (.iadd, 1) := by decide +kernel
theorem dX10_queueCell_8 : decode cX10_queueCell 8 = .ok (.iconst 4, 1) := by decide +kernel
theorem dX10_queueCell_9 : decode cX10_queueCell 9 = .ok (.iload_n 2, 1) := by decide +kernel
theorem dX10_queueCell_10 : decode cX10_queueCell 10 = .ok (.imul, 1) := by decide +kernel
theorem dX10_queueCell_11 : decode cX10_queueCell 11 = .ok (.iadd, 1) := by decide +kernel
theorem dX10_queueCell_12 : decode cX10_queueCell 12 = .ok (.ireturn, 1) := by decide +kernel
theorem dX10_goesOut_0 : decode cX10_goesOut 0 = .ok (.aload_n 0, 1) := by decide +kernel
theorem dX10_goesOut_1 : decode cX10_goesOut 1 = .ok (.iload_n 1, 1) := by decide +kernel
theorem dX10_goesOut_2 : decode cX10_goesOut 2 = .ok (.iconst 5, 1) := by decide +kernel
theorem dX10_goesOut_3 : decode cX10_goesOut 3 = .ok (.invokevirtual 44, 3) := by decide +kernel
theorem dX10_goesOut_6 : decode cX10_goesOut 6 = .ok (.bipush 12, 2) := by decide +kernel
theorem dX10_goesOut_8 : decode cX10_goesOut 8 = .ok (.if_icmp .ne 11, 3) := by decide +kernel
theorem dX10_goesOut_11 : decode cX10_goesOut 11 = .ok (.aload_n 0, 1) := by decide +kernel
theorem dX10_goesOut_12 : decode cX10_goesOut 12 = .ok (.iload_n 1, 1) := by decide +kernel
theorem dX10_goesOut_13 : decode cX10_goesOut 13 = .ok (.bipush 8, 2) := by decide +kernel
theorem dX10_goesOut_15 : decode cX10_goesOut 15 = .ok (.invokevirtual 76, 3) := by decide +kernel
theorem dX10_goesOut_18 : decode cX10_goesOut 18 = .ok (.return_, 1) := by decide +kernel
theorem dX10_goesOut_19 : decode cX10_goesOut 19 = .ok (.aload_n 0, 1) := by decide +kernel
theorem dX10_goesOut_20 : decode cX10_goesOut 20 = .ok (.iload_n 1, 1) := by decide +kernel
theorem dX10_goesOut_21 : decode cX10_goesOut 21 = .ok (.aload_n 0, 1) := by decide +kernel
theorem dX10_goesOut_22 : decode cX10_goesOut 22 = .ok (.iload_n 1, 1) := by decide +kernel
theorem dX10_goesOut_23 : decode cX10_goesOut 23 = .ok (.iconst 5, 1) := by decide +kernel
theorem dX10_goesOut_24 : decode cX10_goesOut 24 = .ok (.invokevirtual 44, 3) := by decide +kernel
theorem dX10_goesOut_27 : decode cX10_goesOut 27 = .ok (.invokevirtual 80, 3) := by decide +kernel
theorem dX10_goesOut_30 : decode cX10_goesOut 30 = .ok (.istore 5, 2) := by decide +kernel
theorem dX10_goesOut_32 : decode cX10_goesOut 32 = .ok (.aload_n 0, 1) := by decide +kernel
theorem dX10_goesOut_33 : decode cX10_goesOut 33 = .ok (.getfield 7, 3) := by decide +kernel
theorem dX10_goesOut_36 : decode cX10_goesOut 36 = .ok (.iload 5, 2) := by decide +kernel
theorem dX10_goesOut_38 : decode cX10_goesOut 38 = .ok (.aload_n 0, 1) := by decide +kernel
theorem dX10_goesOut_39 : decode cX10_goesOut 39 = .ok (.getfield 7, 3) := by decide +kernel
theorem dX10_goesOut_42 : decode cX10_goesOut 42 = .ok (.bipush 6, 2) := by decide +kernel
theorem dX10_goesOut_44 : decode cX10_goesOut 44 = .ok (.iaload, 1) := by decide +kernel
theorem dX10_goesOut_45 : decode cX10_goesOut 45 = .ok (.iastore, 1) := by decide +kernel
theorem dX10_goesOut_46 : decode cX10_goesOut 46 = .ok (.aload_n 0, 1) := by decide +kernel
theorem dX10_goesOut_47 : decode cX10_goesOut 47 = .ok (.getfield 7, 3) := by decide +kernel
theorem dX10_goesOut_50 : decode cX10_goesOut 50 = .ok (.iload 5, 2) := by decide +kernel
theorem dX10_goesOut_52 : decode cX10_goesOut 52 = .ok (.iconst 1, 1) := by decide +kernel
theorem dX10_goesOut_53 : decode cX10_goesOut 53 = .ok (.iadd, 1) := by decide +kernel
theorem dX10_goesOut_54 : decode cX10_goesOut 54 = .ok (.iload_n 2, 1) := by decide +kernel
theorem dX10_goesOut_55 : decode cX10_goesOut 55 = .ok (.iastore, 1) := by decide +kernel
theorem dX10_goesOut_56 : decode cX10_goesOut 56 = .ok (.aload_n 0, 1) := by decide +kernel
theorem dX10_goesOut_57 : decode cX10_goesOut 57 = .ok (.getfield 7, 3) := by decide +kernel
theorem dX10_goesOut_60 : decode cX10_goesOut 60 = .ok (.iload 5, 2) := by decide +kernel
theorem dX10_goesOut_62 : decode cX10_goesOut 62 = .ok (.iconst 2, 1) := by decide +kernel
theorem dX10_goesOut_63 : decode cX10_goesOut 63 = .ok (.iadd, 1) := by decide +kernel
theorem dX10_goesOut_64 : decode cX10_goesOut 64 = .ok (.iload_n 3, 1) := by decide +kernel
theorem dX10_goesOut_65 : decode cX10_goesOut 65 = .ok (.iastore, 1) := by decide +kernel
theorem dX10_goesOut_66 : decode cX10_goesOut 66 = .ok (.aload_n 0, 1) := by decide +kernel
theorem dX10_goesOut_67 : decode cX10_goesOut 67 = .ok (.getfield 7, 3) := by decide +kernel
theorem dX10_goesOut_70 : decode cX10_goesOut 70 = .ok (.iload 5, 2) := by decide +kernel
theorem dX10_goesOut_72 : decode cX10_goesOut 72 = .ok (.iconst 3, 1) := by decide +kernel
theorem dX10_goesOut_73 : decode cX10_goesOut 73 = .ok (.iadd, 1) := by decide +kernel
theorem dX10_goesOut_74 : decode cX10_goesOut 74 = .ok (.iload 4, 2) := by decide +kernel
theorem dX10_goesOut_76 : decode cX10_goesOut 76 = .ok (.iastore, 1) := by decide +kernel
theorem dX10_goesOut_77 : decode cX10_goesOut 77 = .ok (.aload_n 0, 1) := by decide +kernel
theorem dX10_goesOut_78 : decode cX10_goesOut 78 = .ok (.iload_n 1, 1) := by decide +kernel
theorem dX10_goesOut_79 : decode cX10_goesOut 79 = .ok (.iconst 5, 1) := by decide +kernel
theorem dX10_goesOut_80 : decode cX10_goesOut 80 = .ok (.aload_n 0, 1) := by decide +kernel
theorem dX10_goesOut_81 : decode cX10_goesOut 81 = .ok (.iload_n 1, 1) := by decide +kernel
theorem dX10_goesOut_82 : decode cX10_goesOut 82 = .ok (.iconst 5, 1) := by decide +kernel
theorem dX10_goesOut_83 : decode cX10_goesOut 83 = .ok (.invokevirtual 44, 3) := by decide +kernel
theorem dX10_goesOut_86 : decode cX10_goesOut 86 = .ok (.iconst 1, 1) := by decide +kernel
theorem dX10_goesOut_87 : decode cX10_goesOut 87 = .ok (.iadd, 1) := by decide +kernel
theorem dX10_goesOut_88 : decode cX10_goesOut 88 = .ok (.invokevirtual 32, 3) := by decide +kernel
theorem dX10_goesOut_91 : decode cX10_goesOut 91 = .ok (.aload_n 0, 1) := by decide +kernel
theorem dX10_goesOut_92 : decode cX10_goesOut 92 = .ok (.getfield 7, 3) := by decide +kernel
theorem dX10_goesOut_95 : decode cX10_goesOut 95 = .ok (.bipush 6, 2) := by decide +kernel
theorem dX10_goesOut_97 : decode cX10_goesOut 97 = .ok (.dup2, 1) := by decide +kernel
theorem dX10_goesOut_98 : decode cX10_goesOut 98 = .ok (.iaload, 1) := by decide +kernel
theorem dX10_goesOut_99 : decode cX10_goesOut 99 = .ok (.iconst 1, 1) := by decide +kernel
theorem dX10_goesOut_100 : decode cX10_goesOut 100 = .ok (.iadd, 1) := by decide +kernel
theorem dX10_goesOut_101 : decode cX10_goesOut 101 = .ok (.iastore, 1) := by decide +kernel
theorem dX10_goesOut_102 : decode cX10_goesOut 102 = .ok (.aload_n 0, 1) := by decide +kernel
theorem dX10_goesOut_103 : decode cX10_goesOut 103 = .ok (.iload_n 1, 1) := by decide +kernel
theorem dX10_goesOut_104 : decode cX10_goesOut 104 = .ok (.bipush 7, 2) := by decide +kernel
theorem dX10_goesOut_106 : decode cX10_goesOut 106 = .ok (.invokevirtual 76, 3) := by decide +kernel
theorem dX10_goesOut_109 : decode cX10_goesOut 109 = .ok (.return_, 1) := by decide +kernel
theorem dX10_comesIn_0 : decode cX10_comesIn 0 = .ok (.aload_n 0, 1) := by decide +kernel
theorem dX10_comesIn_1 : decode cX10_comesIn 1 = .ok (.iload_n 1, 1) := by decide +kernel
theorem dX10_comesIn_2 : decode cX10_comesIn 2 = .ok (.iload_n 2, 1) := by decide +kernel
theorem dX10_comesIn_3 : decode cX10_comesIn 3 = .ok (.iload_n 3, 1) := by decide +kernel
theorem dX10_comesIn_4 : decode cX10_comesIn 4 = .ok (.iload 4, 2) := by decide +kernel
theorem dX10_comesIn_6 : decode cX10_comesIn 6 = .ok (.invokevirtual 83, 3) := by decide +kernel
theorem dX10_comesIn_9 : decode cX10_comesIn 9 = .ok (.istore 5, 2) := by decide +kernel
theorem dX10_comesIn_11 : decode cX10_comesIn 11 = .ok (.aload_n 0, 1) := by decide +kernel
theorem dX10_comesIn_12 : decode cX10_comesIn 12 = .ok (.iload_n 1, 1) := by decide +kernel
theorem dX10_comesIn_13 : decode cX10_comesIn 13 = .ok (.iconst 0, 1) := by decide +kernel
theorem dX10_comesIn_14 : decode cX10_comesIn 14 = .ok (.invokevirtual 76, 3) := by decide +kernel
theorem dX10_comesIn_17 : decode cX10_comesIn 17 = .ok (.aload_n 0, 1) := by decide +kernel
theorem dX10_comesIn_18 : decode cX10_comesIn 18 = .ok (.iload_n 1, 1) := by decide +kernel
theorem dX10_comesIn_19 : decode cX10_comesIn 19 = .ok (.iload 5, 2) := by decide +kernel
theorem dX10_comesIn_21 : decode cX10_comesIn 21 = .ok (.iconst 4, 1) := by decide +kernel
theorem dX10_comesIn_22 : decode cX10_comesIn 22 = .ok (.if_icmp .eq 9, 3) := by decide +kernel
theorem dX10_comesIn_25 : decode cX10_comesIn 25 = .ok (.iload 5, 2) := by decide +kernel
theorem dX10_comesIn_27 : decode cX10_comesIn 27 = .ok (.iconst 5, 1) := by decide +kernel
theorem dX10_comesIn_28 : decode cX10_comesIn 28 = .ok (.if_icmp .ne 7, 3) := by decide +kernel
theorem dX10_comesIn_31 : decode cX10_comesIn 31 = .ok (.iconst 5, 1) := by decide +kernel
theorem dX10_comesIn_32 : decode cX10_comesIn 32 = .ok (.goto 28, 3) := by decide +kernel
theorem dX10_comesIn_35 : decode cX10_comesIn 35 = .ok (.iload 5, 2) := by decide +kernel
theorem dX10_comesIn_37 : decode cX10_comesIn 37 = .ok (.ifCond .ne 7, 3) := by decide +kernel
theorem dX10_comesIn_40 : decode cX10_comesIn 40 = .ok (.iconst 1, 1) := by decide +kernel
theorem dX10_comesIn_41 : decode cX10_comesIn 41 = .ok (.goto 19, 3) := by decide +kernel
theorem dX10_comesIn_44 : decode cX10_comesIn 44 = .ok (.iload 5, 2) := by decide +kernel
theorem dX10_comesIn_46 : decode cX10_comesIn 46 = .ok (.bipush 6, 2) := by decide +kernel
theorem dX10_comesIn_48 : decode cX10_comesIn 48 = .ok (.if_icmp .ne 8, 3) := by decide +kernel
theorem dX10_comesIn_51 : decode cX10_comesIn 51 = .ok (.bipush 6, 2) := by decide +kernel
theorem dX10_comesIn_53 : decode cX10_comesIn 53 = .ok (.goto 7, 3) := by decide +kernel
theorem dX10_comesIn_56 : decode cX10_comesIn 56 = .ok (.iload 5, 2) := by decide +kernel
theorem dX10_comesIn_58 : decode cX10_comesIn 58 = .ok (.iconst 1, 1) := by decide +kernel
theorem dX10_comesIn_59 : decode cX10_comesIn 59 = .ok (.iadd, 1) := by decide +kernel
theorem dX10_comesIn_60 : decode cX10_comesIn 60 = .ok (.invokevirtual 76, 3) := by decide +kernel
theorem dX10_comesIn_63 : decode cX10_comesIn 63 = .ok (.iload 5, 2) := by decide +kernel
theorem dX10_comesIn_65 : decode cX10_comesIn 65 = .ok (.ireturn, 1) := by decide +kernel
theorem dX10_becomes_0 : decode cX10_becomes 0 = .ok (.aload_n 0, 1) := by decide +kernel
theorem dX10_becomes_1 : decode cX10_becomes 1 = .ok (.iconst 0, 1) := by decide +kernel
theorem dX10_becomes_2 : decode cX10_becomes 2 = .ok (.putfield 87, 3) := by decide +kernel
theorem dX10_becomes_5 : decode cX10_becomes 5 = .ok (.aload_n 0, 1) := by decide +kernel
theorem dX10_becomes_6 : decode cX10_becomes 6 = .ok (.iload_n 1, 1) := by decide +kernel
theorem dX10_becomes_7 : decode cX10_becomes 7 = .ok (.invokevirtual 48, 3) := by decide +kernel
theorem dX10_becomes_10 : decode cX10_becomes 10 = .ok (.ifCond .ne 5, 3) := by decide +kernel
theorem dX10_becomes_13 : decode cX10_becomes 13 = .ok (.iconst 0, 1) := by decide +kernel
theorem dX10_becomes_14 : decode cX10_becomes 14 = .ok (.ireturn, 1) := by decide +kernel
theorem dX10_becomes_15 : decode cX10_becomes 15 = .ok (.aload_n 0, 1) := by decide +kernel
theorem dX10_becomes_16 : decode cX10_becomes 16 = .ok (.getfield 7, 3) := by decide +kernel
theorem dX10_becomes_19 : decode cX10_becomes 19 = .ok (.sipush 552, 3) := by decide +kernel
theorem dX10_becomes_22 : decode cX10_becomes 22 = .ok (.iload_n 2, 1) := by decide +kernel
theorem dX10_becomes_23 : decode cX10_becomes 23 = .ok (.iadd, 1) := by decide +kernel
theorem dX10_becomes_24 : decode cX10_becomes 24 = .ok (.iaload, 1) := by decide +kernel
theorem dX10_becomes_25 : decode cX10_becomes 25 = .ok (.ifCond .le 92, 3) := by decide +kernel
theorem dX10_becomes_28 : decode cX10_becomes 28 = .ok (.aload_n 0, 1) := by decide +kernel
theorem dX10_becomes_29 : decode cX10_becomes 29 = .ok (.getfield 7, 3) := by decide +kernel
theorem dX10_becomes_32 : decode cX10_becomes 32 = .ok (.sipush 552, 3) := by decide +kernel
theorem dX10_becomes_35 : decode cX10_becomes 35 = .ok (.iload_n 2, 1) := by decide +kernel
theorem dX10_becomes_36 : decode cX10_becomes 36 = .ok (.iadd, 1) := by decide +kernel
theorem dX10_becomes_37 : decode cX10_becomes 37 = .ok (.iaload, 1) := by decide +kernel
theorem dX10_becomes_38 : decode cX10_becomes 38 = .ok (.iload_n 1, 1) := by decide +kernel
theorem dX10_becomes_39 : decode cX10_becomes 39 = .ok (.iconst 1, 1) := by decide +kernel
theorem dX10_becomes_40 : decode cX10_becomes 40 = .ok (.iadd, 1) := by decide +kernel
theorem dX10_becomes_41 : decode cX10_becomes 41 = .ok (.if_icmp .eq 76, 3) := by decide +kernel
theorem dX10_becomes_44 : decode cX10_becomes 44 = .ok (.aload_n 0, 1) := by decide +kernel
theorem dX10_becomes_45 : decode cX10_becomes 45 = .ok (.getfield 7, 3) := by decide +kernel
theorem dX10_becomes_48 : decode cX10_becomes 48 = .ok (.sipush 552, 3) := by decide +kernel
theorem dX10_becomes_51 : decode cX10_becomes 51 = .ok (.iload_n 2, 1) := by decide +kernel
theorem dX10_becomes_52 : decode cX10_becomes 52 = .ok (.iadd, 1) := by decide +kernel
theorem dX10_becomes_53 : decode cX10_becomes 53 = .ok (.iload_n 1, 1) := by decide +kernel
theorem dX10_becomes_54 : decode cX10_becomes 54 = .ok (.iconst 1, 1) := by decide +kernel
theorem dX10_becomes_55 : decode cX10_becomes 55 = .ok (.iadd, 1) := by decide +kernel
theorem dX10_becomes_56 : decode cX10_becomes 56 = .ok (.iastore, 1) := by decide +kernel
theorem dX10_becomes_57 : decode cX10_becomes 57 = .ok (.aload_n 0, 1) := by decide +kernel
theorem dX10_becomes_58 : decode cX10_becomes 58 = .ok (.getfield 7, 3) := by decide +kernel
theorem dX10_becomes_61 : decode cX10_becomes 61 = .ok (.sipush 652, 3) := by decide +kernel
theorem dX10_becomes_64 : decode cX10_becomes 64 = .ok (.iload_n 2, 1) := by decide +kernel
theorem dX10_becomes_65 : decode cX10_becomes 65 = .ok (.iadd, 1) := by decide +kernel
theorem dX10_becomes_66 : decode cX10_becomes 66 = .ok (.aload_n 0, 1) := by decide +kernel
theorem dX10_becomes_67 : decode cX10_becomes 67 = .ok (.getfield 7, 3) := by decide +kernel
theorem dX10_becomes_70 : decode cX10_becomes 70 = .ok (.iconst 4, 1) := by decide +kernel
theorem dX10_becomes_71 : decode cX10_becomes 71 = .ok (.iaload, 1) := by decide +kernel
theorem dX10_becomes_72 : decode cX10_becomes 72 = .ok (.iastore, 1) := by decide +kernel
theorem dX10_becomes_73 : decode cX10_becomes 73 = .ok (.aload_n 0, 1) := by decide +kernel
theorem dX10_becomes_74 : decode cX10_becomes 74 = .ok (.getfield 7, 3) := by decide +kernel
theorem dX10_becomes_77 : decode cX10_becomes 77 = .ok (.sipush 752, 3) := by decide +kernel
theorem dX10_becomes_80 : decode cX10_becomes 80 = .ok (.bipush 10, 2) := by decide +kernel
theorem dX10_becomes_82 : decode cX10_becomes 82 = .ok (.iload_n 2, 1) := by decide +kernel
theorem dX10_becomes_83 : decode cX10_becomes 83 = .ok (.imul, 1) := by decide +kernel
theorem dX10_becomes_84 : decode cX10_becomes 84 = .ok (.iadd, 1) := by decide +kernel
theorem dX10_becomes_85 : decode cX10_becomes 85 = .ok (.aload_n 0, 1) := by decide +kernel
theorem dX10_becomes_86 : decode cX10_becomes 86 = .ok (.getfield 7, 3) := by decide +kernel
theorem dX10_becomes_89 : decode cX10_becomes 89 = .ok (.iconst 4, 1) := by decide +kernel
theorem dX10_becomes_90 : decode cX10_becomes 90 = .ok (.iaload, 1) := by decide +kernel
theorem dX10_becomes_91 : decode cX10_becomes 91 = .ok (.bipush 10, 2) := by decide +kernel
theorem dX10_becomes_93 : decode cX10_becomes 93 = .ok (.irem, 1) := by decide +kernel
theorem dX10_becomes_94 : decode cX10_becomes 94 = .ok (.iadd, 1) := by decide +kernel
theorem dX10_becomes_95 : decode cX10_becomes 95 = .ok (.dup2, 1) := by decide +kernel
theorem dX10_becomes_96 : decode cX10_becomes 96 = .ok (.iaload, 1) := by decide +kernel
theorem dX10_becomes_97 : decode cX10_becomes 97 = .ok (.iconst 1, 1) := by decide +kernel
theorem dX10_becomes_98 : decode cX10_becomes 98 = .ok (.iadd, 1) := by decide +kernel
theorem dX10_becomes_99 : decode cX10_becomes 99 = .ok (.iastore, 1) := by decide +kernel
theorem dX10_becomes_100 : decode cX10_becomes 100 = .ok (.aload_n 0, 1) := by decide +kernel
theorem dX10_becomes_101 : decode cX10_becomes 101 = .ok (.iload_n 2, 1) := by decide +kernel
theorem dX10_becomes_102 : decode cX10_becomes 102 = .ok (.invokevirtual 90, 3) := by decide +kernel
theorem dX10_becomes_105 : decode cX10_becomes 105 = .ok (.iconst 3, 1) := by decide +kernel
theorem dX10_becomes_106 : decode cX10_becomes 106 = .ok (.if_icmp .lt 11, 3) := by decide +kernel
theorem dX10_becomes_109 : decode cX10_becomes 109 = .ok (.aload_n 0, 1) := by decide +kernel
theorem dX10_becomes_110 : decode cX10_becomes 110 = .ok (.iload_n 1, 1) := by decide +kernel
theorem dX10_becomes_111 : decode cX10_becomes 111 = .ok (.iconst 1, 1) := by decide +kernel
theorem dX10_becomes_112 : decode cX10_becomes 112 = .ok (.invokevirtual 93, 3) := by decide +kernel
theorem dX10_becomes_115 : decode cX10_becomes 115 = .ok (.iconst 4, 1) := by decide +kernel
theorem dX10_becomes_116 : decode cX10_becomes 116 = .ok (.ireturn, 1) := by decide +kernel
theorem dX10_becomes_117 : decode cX10_becomes 117 = .ok (.aload_n 0, 1) := by decide +kernel
theorem dX10_becomes_118 : decode cX10_becomes 118 = .ok (.getfield 7, 3) := by decide +kernel
theorem dX10_becomes_121 : decode cX10_becomes 121 = .ok (.sipush 552, 3) := by decide +kernel
theorem dX10_becomes_124 : decode cX10_becomes 124 = .ok (.iload_n 2, 1) := by decide +kernel
theorem dX10_becomes_125 : decode cX10_becomes 125 = .ok (.iadd, 1) := by decide +kernel
theorem dX10_becomes_126 : decode cX10_becomes 126 = .ok (.iaload, 1) := by decide +kernel
theorem dX10_becomes_127 : decode cX10_becomes 127 = .ok (.ifCond .ne 16, 3) := by decide +kernel
theorem dX10_becomes_130 : decode cX10_becomes 130 = .ok (.aload_n 0, 1) := by decide +kernel
theorem dX10_becomes_131 : decode cX10_becomes 131 = .ok (.invokevirtual 96, 3) := by decide +kernel
theorem dX10_becomes_134 : decode cX10_becomes 134 = .ok (.bipush 20, 2) := by decide +kernel
theorem dX10_becomes_136 : decode cX10_becomes 136 = .ok (.if_icmp .ne 7, 3) := by decide +kernel
theorem dX10_becomes_139 : decode cX10_becomes 139 = .ok (.aload_n 0, 1) := by decide +kernel
theorem dX10_becomes_140 : decode cX10_becomes 140 = .ok (.invokevirtual 99, 3) := by decide +kernel
theorem dX10_becomes_143 : decode cX10_becomes 143 = .ok (.aload_n 0, 1) := by decide +kernel
theorem dX10_becomes_144 : decode cX10_becomes 144 = .ok (.getfield 7, 3) := by decide +kernel
theorem dX10_becomes_147 : decode cX10_becomes 147 = .ok (.sipush 552, 3) := by decide +kernel
theorem dX10_becomes_150 : decode cX10_becomes 150 = .ok (.iload_n 2, 1) := by decide +kernel
theorem dX10_becomes_151 : decode cX10_becomes 151 = .ok (.iadd, 1) := by decide +kernel
theorem dX10_becomes_152 : decode cX10_becomes 152 = .ok (.iload_n 1, 1) := by decide +kernel
theorem dX10_becomes_153 : decode cX10_becomes 153 = .ok (.iconst 1, 1) := by decide +kernel
theorem dX10_becomes_154 : decode cX10_becomes 154 = .ok (.iadd, 1) := by decide +kernel
theorem dX10_becomes_155 : decode cX10_becomes 155 = .ok (.iastore, 1) := by decide +kernel
theorem dX10_becomes_156 : decode cX10_becomes 156 = .ok (.aload_n 0, 1) := by decide +kernel
theorem dX10_becomes_157 : decode cX10_becomes 157 = .ok (.getfield 7, 3) := by decide +kernel
theorem dX10_becomes_160 : decode cX10_becomes 160 = .ok (.sipush 652, 3) := by decide +kernel
theorem dX10_becomes_163 : decode cX10_becomes 163 = .ok (.iload_n 2, 1) := by decide +kernel
theorem dX10_becomes_164 : decode cX10_becomes 164 = .ok (.iadd, 1) := by decide +kernel
theorem dX10_becomes_165 : decode cX10_becomes 165 = .ok (.aload_n 0, 1) := by decide +kernel
theorem dX10_becomes_166 : decode cX10_becomes 166 = .ok (.getfield 7, 3) := by decide +kernel
theorem dX10_becomes_169 : decode cX10_becomes 169 = .ok (.iconst 4, 1) := by decide +kernel
theorem dX10_becomes_170 : decode cX10_becomes 170 = .ok (.iaload, 1) := by decide +kernel
theorem dX10_becomes_171 : decode cX10_becomes 171 = .ok (.iastore, 1) := by decide +kernel
theorem dX10_becomes_172 : decode cX10_becomes 172 = .ok (.iload_n 3, 1) := by decide +kernel
theorem dX10_becomes_173 : decode cX10_becomes 173 = .ok (.ifCond .ne 8, 3) := by decide +kernel
theorem dX10_becomes_176 : decode cX10_becomes 176 = .ok (.bipush (-4), 2) := by decide +kernel
theorem dX10_becomes_178 : decode cX10_becomes 178 = .ok (.goto 15, 3) := by decide +kernel
theorem dX10_becomes_181 : decode cX10_becomes 181 = .ok (.aload_n 0, 1) := by decide +kernel
theorem dX10_becomes_182 : decode cX10_becomes 182 = .ok (.getfield 7, 3) := by decide +kernel
theorem dX10_becomes_185 : decode cX10_becomes 185 = .ok (.sipush 552, 3) := by decide +kernel
theorem dX10_becomes_188 : decode cX10_becomes 188 = .ok (.iload_n 3, 1) := by decide +kernel
theorem dX10_becomes_189 : decode cX10_becomes 189 = .ok (.iadd, 1) := by decide +kernel
theorem dX10_becomes_190 : decode cX10_becomes 190 = .ok (.iaload, 1) := by decide +kernel
theorem dX10_becomes_191 : decode cX10_becomes 191 = .ok (.iconst 1, 1) := by decide +kernel
theorem dX10_becomes_192 : decode cX10_becomes 192 = .ok (.isub, 1) := by decide +kernel
theorem dX10_becomes_193 : decode cX10_becomes 193 = .ok (.istore 5, 2) := by decide +kernel
theorem dX10_becomes_195 : decode cX10_becomes 195 = .ok (.iload 5, 2) := by decide +kernel
theorem dX10_becomes_197 : decode cX10_becomes 197 = .ok (.iload_n 1, 1) := by decide +kernel
theorem dX10_becomes_198 : decode cX10_becomes 198 = .ok (.if_icmp .ne 5, 3) := by decide +kernel
theorem dX10_becomes_201 : decode cX10_becomes 201 = .ok (.iconst 1, 1) := by decide +kernel
theorem dX10_becomes_202 : decode cX10_becomes 202 = .ok (.ireturn, 1) := by decide +kernel
theorem dX10_becomes_203 : decode cX10_becomes 203 = .ok (.iload 5, 2) := by decide +kernel
theorem dX10_becomes_205 : decode cX10_becomes 205 = .ok (.ifCond .lt 35, 3) := by decide +kernel
theorem dX10_becomes_208 : decode cX10_becomes 208 = .ok (.aload_n 0, 1) := by decide +kernel
theorem dX10_becomes_209 : decode cX10_becomes 209 = .ok (.iload 5, 2) := by decide +kernel
theorem dX10_becomes_211 : decode cX10_becomes 211 = .ok (.invokevirtual 48, 3) := by decide +kernel
theorem dX10_becomes_214 : decode cX10_becomes 214 = .ok (.ifCond .ne 6, 3) := by decide +kernel
theorem dX10_becomes_217 : decode cX10_becomes 217 = .ok (.bipush 6, 2) := by decide +kernel
theorem dX10_becomes_219 : decode cX10_becomes 219 = .ok (.ireturn, 1) := by decide +kernel
theorem dX10_becomes_220 : decode cX10_becomes 220 = .ok (.aload_n 0, 1) := by decide +kernel
theorem dX10_becomes_221 : decode cX10_becomes 221 = .ok (.iconst 1, 1) := by decide +kernel
theorem dX10_becomes_222 : decode cX10_becomes 222 = .ok (.iload 5, 2) := by decide +kernel
theorem dX10_becomes_224 : decode cX10_becomes 224 = .ok (.ishl, 1) := by decide +kernel
theorem dX10_becomes_225 : decode cX10_becomes 225 = .ok (.putfield 87, 3) := by decide +kernel
theorem dX10_becomes_228 : decode cX10_becomes 228 = .ok (.aload_n 0, 1) := by decide +kernel
theorem dX10_becomes_229 : decode cX10_becomes 229 = .ok (.iload 5, 2) := by decide +kernel
theorem dX10_becomes_231 : decode cX10_becomes 231 = .ok (.iload_n 2, 1) := by decide +kernel
theorem dX10_becomes_232 : decode cX10_becomes 232 = .ok (.iload_n 3, 1) := by decide +kernel
theorem dX10_becomes_233 : decode cX10_becomes 233 = .ok (.iload 4, 2) := by decide +kernel
theorem dX10_becomes_235 : decode cX10_becomes 235 = .ok (.invokevirtual 102, 3) := by decide +kernel
theorem dX10_becomes_238 : decode cX10_becomes 238 = .ok (.iconst 2, 1) := by decide +kernel
theorem dX10_becomes_239 : decode cX10_becomes 239 = .ok (.ireturn, 1) := by decide +kernel
theorem dX10_becomes_240 : decode cX10_becomes 240 = .ok (.aload_n 0, 1) := by decide +kernel
theorem dX10_becomes_241 : decode cX10_becomes 241 = .ok (.iload_n 1, 1) := by decide +kernel
theorem dX10_becomes_242 : decode cX10_becomes 242 = .ok (.iconst 4, 1) := by decide +kernel
theorem dX10_becomes_243 : decode cX10_becomes 243 = .ok (.invokevirtual 44, 3) := by decide +kernel
theorem dX10_becomes_246 : decode cX10_becomes 246 = .ok (.aload_n 0, 1) := by decide +kernel
theorem dX10_becomes_247 : decode cX10_becomes 247 = .ok (.getfield 7, 3) := by decide +kernel
theorem dX10_becomes_250 : decode cX10_becomes 250 = .ok (.iconst 2, 1) := by decide +kernel
theorem dX10_becomes_251 : decode cX10_becomes 251 = .ok (.iaload, 1) := by decide +kernel
theorem dX10_becomes_252 : decode cX10_becomes 252 = .ok (.if_icmp .lt 11, 3) := by decide +kernel
theorem dX10_becomes_255 : decode cX10_becomes 255 = .ok (.aload_n 0, 1) := by decide +kernel
theorem dX10_becomes_256 : decode cX10_becomes 256 = .ok (.iload_n 1, 1) := by decide +kernel
theorem dX10_becomes_257 : decode cX10_becomes 257 = .ok (.iconst 2, 1) := by decide +kernel
theorem dX10_becomes_258 : decode cX10_becomes 258 = .ok (.invokevirtual 93, 3) := by decide +kernel
theorem dX10_becomes_261 : decode cX10_becomes 261 = .ok (.iconst 5, 1) := by decide +kernel
theorem dX10_becomes_262 : decode cX10_becomes 262 = .ok (.ireturn, 1) := by decide +kernel
theorem dX10_becomes_263 : decode cX10_becomes 263 = .ok (.aload_n 0, 1) := by decide +kernel
theorem dX10_becomes_264 : decode cX10_becomes 264 = .ok (.iload_n 1, 1) := by decide +kernel
theorem dX10_becomes_265 : decode cX10_becomes 265 = .ok (.iconst 4, 1) := by decide +kernel
theorem dX10_becomes_266 : decode cX10_becomes 266 = .ok (.aload_n 0, 1) := by decide +kernel
theorem dX10_becomes_267 : decode cX10_becomes 267 = .ok (.iload_n 1, 1) := by decide +kernel
theorem dX10_becomes_268 : decode cX10_becomes 268 = .ok (.iconst 4, 1) := by decide +kernel
theorem dX10_becomes_269 : decode cX10_becomes 269 = .ok (.invokevirtual 44, 3) := by decide +kernel
theorem dX10_becomes_272 : decode cX10_becomes 272 = .ok (.iconst 1, 1) := by decide +kernel
theorem dX10_becomes_273 : decode cX10_becomes 273 = .ok (.iadd, 1) := by decide +kernel
theorem dX10_becomes_274 : decode cX10_becomes 274 = .ok (.invokevirtual 32, 3) := by decide +kernel
theorem dX10_becomes_277 : decode cX10_becomes 277 = .ok (.iconst 0, 1) := by decide +kernel
theorem dX10_becomes_278 : decode cX10_becomes 278 = .ok (.istore 6, 2) := by decide +kernel
theorem dX10_becomes_280 : decode cX10_becomes 280 = .ok (.iload 6, 2) := by decide +kernel
theorem dX10_becomes_282 : decode cX10_becomes 282 = .ok (.bipush 8, 2) := by decide +kernel
theorem dX10_becomes_284 : decode cX10_becomes 284 = .ok (.if_icmp .ge 47, 3) := by decide +kernel
theorem dX10_becomes_287 : decode cX10_becomes 287 = .ok (.iload 6, 2) := by decide +kernel
theorem dX10_becomes_289 : decode cX10_becomes 289 = .ok (.iload_n 1, 1) := by decide +kernel
theorem dX10_becomes_290 : decode cX10_becomes 290 = .ok (.if_icmp .eq 35, 3) := by decide +kernel
theorem dX10_becomes_293 : decode cX10_becomes 293 = .ok (.aload_n 0, 1) := by decide +kernel
theorem dX10_becomes_294 : decode cX10_becomes 294 = .ok (.iload 6, 2) := by decide +kernel
theorem dX10_becomes_296 : decode cX10_becomes 296 = .ok (.invokevirtual 48, 3) := by decide +kernel
theorem dX10_becomes_299 : decode cX10_becomes 299 = .ok (.ifCond .eq 26, 3) := by decide +kernel
theorem dX10_becomes_302 : decode cX10_becomes 302 = .ok (.aload_n 0, 1) := by decide +kernel
theorem dX10_becomes_303 : decode cX10_becomes 303 = .ok (.dup, 1) := by decide +kernel
theorem dX10_becomes_304 : decode cX10_becomes 304 = .ok (.getfield 87, 3) := by decide +kernel
theorem dX10_becomes_307 : decode cX10_becomes 307 = .ok (.iconst 1, 1) := by decide +kernel
theorem dX10_becomes_308 : decode cX10_becomes 308 = .ok (.iload 6, 2) := by decide +kernel
theorem dX10_becomes_310 : decode cX10_becomes 310 = .ok (.ishl, 1) := by decide +kernel
theorem dX10_becomes_311 : decode cX10_becomes 311 = .ok (.ior, 1) := by decide +kernel
theorem dX10_becomes_312 : decode cX10_becomes 312 = .ok (.putfield 87, 3) := by decide +kernel
theorem dX10_becomes_315 : decode cX10_becomes 315 = .ok (.aload_n 0, 1) := by decide +kernel
theorem dX10_becomes_316 : decode cX10_becomes 316 = .ok (.iload 6, 2) := by decide +kernel
theorem dX10_becomes_318 : decode cX10_becomes 318 = .ok (.iload_n 2, 1) := by decide +kernel
theorem dX10_becomes_319 : decode cX10_becomes 319 = .ok (.iload_n 3, 1) := by decide +kernel
theorem dX10_becomes_320 : decode cX10_becomes 320 = .ok (.iload 4, 2) := by decide +kernel
theorem dX10_becomes_322 : decode cX10_becomes 322 = .ok (.invokevirtual 102, 3) := by decide +kernel
theorem dX10_becomes_325 : decode cX10_becomes 325 = .ok (.iinc 6 1, 3) := by decide +kernel
theorem dX10_becomes_328 : decode cX10_becomes 328 = .ok (.goto (-48), 3) := by decide +kernel
theorem dX10_becomes_331 : decode cX10_becomes 331 = .ok (.iconst 3, 1) := by decide +kernel
theorem dX10_becomes_332 : decode cX10_becomes 332 = .ok (.ireturn, 1) := by decide +kernel
theorem dX10_frame_0 : decode cX10_frame 0 = .ok (.iload_n 1, 1) := by decide +kernel
theorem dX10_frame_1 : decode cX10_frame 1 = .ok (.invokestatic 52, 3) := by decide +kernel
theorem dX10_frame_4 : decode cX10_frame 4 = .ok (.ifCond .eq 5, 3) := by decide +kernel
theorem dX10_frame_7 : decode cX10_frame 7 = .ok (.iconst (-1), 1) := by decide +kernel
theorem dX10_frame_8 : decode cX10_frame 8 = .ok (.ireturn, 1) := by decide +kernel
theorem dX10_frame_9 : decode cX10_frame 9 = .ok (.iload_n 2, 1) := by decide +kernel
theorem dX10_frame_10 : decode cX10_frame 10 = .ok (.invokestatic 106, 3) := by decide +kernel
theorem dX10_frame_13 : decode cX10_frame 13 = .ok (.ifCond .ne 23, 3) := by decide +kernel
theorem dX10_frame_16 : decode cX10_frame 16 = .ok (.iload_n 3, 1) := by decide +kernel
theorem dX10_frame_17 : decode cX10_frame 17 = .ok (.iconst 0, 1) := by decide +kernel
theorem dX10_frame_18 : decode cX10_frame 18 = .ok (.bipush 99, 2) := by decide +kernel
theorem dX10_frame_20 : decode cX10_frame 20 = .ok (.invokestatic 36, 3) := by decide +kernel
theorem dX10_frame_23 : decode cX10_frame 23 = .ok (.ifCond .eq 13, 3) := by decide +kernel
theorem dX10_frame_26 : decode cX10_frame 26 = .ok (.iload 4, 2) := by decide +kernel
theorem dX10_frame_28 : decode cX10_frame 28 = .ok (.iconst 0, 1) := by decide +kernel
theorem dX10_frame_29 : decode cX10_frame 29 = .ok (.iconst 3, 1) := by decide +kernel
theorem dX10_frame_30 : decode cX10_frame 30 = .ok (.invokestatic 36, 3) := by decide +kernel
theorem dX10_frame_33 : decode cX10_frame 33 = .ok (.ifCond .ne 6, 3) := by decide +kernel
theorem dX10_frame_36 : decode cX10_frame 36 = .ok (.bipush (-2), 2) := by decide +kernel
theorem dX10_frame_38 : decode cX10_frame 38 = .ok (.ireturn, 1) := by decide +kernel
theorem dX10_frame_39 : decode cX10_frame 39 = .ok (.aload_n 0, 1) := by decide +kernel
theorem dX10_frame_40 : decode cX10_frame 40 = .ok (.invokevirtual 55, 3) := by decide +kernel
theorem dX10_frame_43 : decode cX10_frame 43 = .ok (.aload_n 0, 1) := by decide +kernel
theorem dX10_frame_44 : decode cX10_frame 44 = .ok (.iload_n 1, 1) := by decide +kernel
theorem dX10_frame_45 : decode cX10_frame 45 = .ok (.iload_n 2, 1) := by decide +kernel
theorem dX10_frame_46 : decode cX10_frame 46 = .ok (.iload_n 3, 1) := by decide +kernel
theorem dX10_frame_47 : decode cX10_frame 47 = .ok (.iload 4, 2) := by decide +kernel
theorem dX10_frame_49 : decode cX10_frame 49 = .ok (.invokevirtual 109, 3) := by decide +kernel
theorem dX10_frame_52 : decode cX10_frame 52 = .ok (.ireturn, 1) := by decide +kernel
theorem dX10_forget_0 : decode cX10_forget 0 = .ok (.iload_n 1, 1) := by decide +kernel
theorem dX10_forget_1 : decode cX10_forget 1 = .ok (.invokestatic 106, 3) := by decide +kernel
theorem dX10_forget_4 : decode cX10_forget 4 = .ok (.ifCond .eq 6, 3) := by decide +kernel
theorem dX10_forget_7 : decode cX10_forget 7 = .ok (.bipush (-2), 2) := by decide +kernel
theorem dX10_forget_9 : decode cX10_forget 9 = .ok (.ireturn, 1) := by decide +kernel
theorem dX10_forget_10 : decode cX10_forget 10 = .ok (.aload_n 0, 1) := by decide +kernel
theorem dX10_forget_11 : decode cX10_forget 11 = .ok (.getfield 7, 3) := by decide +kernel
theorem dX10_forget_14 : decode cX10_forget 14 = .ok (.sipush 552, 3) := by decide +kernel
theorem dX10_forget_17 : decode cX10_forget 17 = .ok (.iload_n 1, 1) := by decide +kernel
theorem dX10_forget_18 : decode cX10_forget 18 = .ok (.iadd, 1) := by decide +kernel
theorem dX10_forget_19 : decode cX10_forget 19 = .ok (.iaload, 1) := by decide +kernel
theorem dX10_forget_20 : decode cX10_forget 20 = .ok (.iconst 1, 1) := by decide +kernel
theorem dX10_forget_21 : decode cX10_forget 21 = .ok (.isub, 1) := by decide +kernel
theorem dX10_forget_22 : decode cX10_forget 22 = .ok (.istore_n 2, 1) := by decide +kernel
theorem dX10_forget_23 : decode cX10_forget 23 = .ok (.iload_n 2, 1) := by decide +kernel
theorem dX10_forget_24 : decode cX10_forget 24 = .ok (.ifCond .ge 6, 3) := by decide +kernel
theorem dX10_forget_27 : decode cX10_forget 27 = .ok (.bipush (-4), 2) := by decide +kernel
theorem dX10_forget_29 : decode cX10_forget 29 = .ok (.ireturn, 1) := by decide +kernel
theorem dX10_forget_30 : decode cX10_forget 30 = .ok (.aload_n 0, 1) := by decide +kernel
theorem dX10_forget_31 : decode cX10_forget 31 = .ok (.invokevirtual 55, 3) := by decide +kernel
theorem dX10_forget_34 : decode cX10_forget 34 = .ok (.aload_n 0, 1) := by decide +kernel
theorem dX10_forget_35 : decode cX10_forget 35 = .ok (.getfield 7, 3) := by decide +kernel
theorem dX10_forget_38 : decode cX10_forget 38 = .ok (.sipush 552, 3) := by decide +kernel
theorem dX10_forget_41 : decode cX10_forget 41 = .ok (.iload_n 1, 1) := by decide +kernel
theorem dX10_forget_42 : decode cX10_forget 42 = .ok (.iadd, 1) := by decide +kernel
theorem dX10_forget_43 : decode cX10_forget 43 = .ok (.iconst 0, 1) := by decide +kernel
theorem dX10_forget_44 : decode cX10_forget 44 = .ok (.iastore, 1) := by decide +kernel
theorem dX10_forget_45 : decode cX10_forget 45 = .ok (.iload_n 2, 1) := by decide +kernel
theorem dX10_forget_46 : decode cX10_forget 46 = .ok (.ireturn, 1) := by decide +kernel
theorem dX10_wouldGo_0 : decode cX10_wouldGo 0 = .ok (.iload_n 1, 1) := by decide +kernel
theorem dX10_wouldGo_1 : decode cX10_wouldGo 1 = .ok (.invokestatic 52, 3) := by decide +kernel
theorem dX10_wouldGo_4 : decode cX10_wouldGo 4 = .ok (.ifCond .eq 5, 3) := by decide +kernel
theorem dX10_wouldGo_7 : decode cX10_wouldGo 7 = .ok (.iconst (-1), 1) := by decide +kernel
theorem dX10_wouldGo_8 : decode cX10_wouldGo 8 = .ok (.ireturn, 1) := by decide +kernel
theorem dX10_wouldGo_9 : decode cX10_wouldGo 9 = .ok (.iload_n 2, 1) := by decide +kernel
theorem dX10_wouldGo_10 : decode cX10_wouldGo 10 = .ok (.invokestatic 106, 3) := by decide +kernel
theorem dX10_wouldGo_13 : decode cX10_wouldGo 13 = .ok (.ifCond .ne 13, 3) := by decide +kernel
theorem dX10_wouldGo_16 : decode cX10_wouldGo 16 = .ok (.iload_n 3, 1) := by decide +kernel
theorem dX10_wouldGo_17 : decode cX10_wouldGo 17 = .ok (.iconst 0, 1) := by decide +kernel
theorem dX10_wouldGo_18 : decode cX10_wouldGo 18 = .ok (.bipush 99, 2) := by decide +kernel
theorem dX10_wouldGo_20 : decode cX10_wouldGo 20 = .ok (.invokestatic 36, 3) := by decide +kernel
theorem dX10_wouldGo_23 : decode cX10_wouldGo 23 = .ok (.ifCond .ne 6, 3) := by decide +kernel
theorem dX10_wouldGo_26 : decode cX10_wouldGo 26 = .ok (.bipush (-2), 2) := by decide +kernel
theorem dX10_wouldGo_28 : decode cX10_wouldGo 28 = .ok (.ireturn, 1) := by decide +kernel
theorem dX10_wouldGo_29 : decode cX10_wouldGo 29 = .ok (.iconst 0, 1) := by decide +kernel
theorem dX10_wouldGo_30 : decode cX10_wouldGo 30 = .ok (.istore 4, 2) := by decide +kernel
theorem dX10_wouldGo_32 : decode cX10_wouldGo 32 = .ok (.iload 4, 2) := by decide +kernel
theorem dX10_wouldGo_34 : decode cX10_wouldGo 34 = .ok (.sipush 1752, 3) := by decide +kernel
theorem dX10_wouldGo_37 : decode cX10_wouldGo 37 = .ok (.if_icmp .ge 23, 3) := by decide +kernel
theorem dX10_wouldGo_40 : decode cX10_wouldGo 40 = .ok (.aload_n 0, 1) := by decide +kernel
theorem dX10_wouldGo_41 : decode cX10_wouldGo 41 = .ok (.getfield 19, 3) := by decide +kernel
theorem dX10_wouldGo_44 : decode cX10_wouldGo 44 = .ok (.iload 4, 2) := by decide +kernel
theorem dX10_wouldGo_46 : decode cX10_wouldGo 46 = .ok (.aload_n 0, 1) := by decide +kernel
theorem dX10_wouldGo_47 : decode cX10_wouldGo 47 = .ok (.getfield 7, 3) := by decide +kernel
theorem dX10_wouldGo_50 : decode cX10_wouldGo 50 = .ok (.iload 4, 2) := by decide +kernel
theorem dX10_wouldGo_52 : decode cX10_wouldGo 52 = .ok (.iaload, 1) := by decide +kernel
theorem dX10_wouldGo_53 : decode cX10_wouldGo 53 = .ok (.iastore, 1) := by decide +kernel
theorem dX10_wouldGo_54 : decode cX10_wouldGo 54 = .ok (.iinc 4 1, 3) := by decide +kernel
theorem dX10_wouldGo_57 : decode cX10_wouldGo 57 = .ok (.goto (-25), 3) := by decide +kernel
theorem dX10_wouldGo_60 : decode cX10_wouldGo 60 = .ok (.aload_n 0, 1) := by decide +kernel
theorem dX10_wouldGo_61 : decode cX10_wouldGo 61 = .ok (.iload_n 1, 1) := by decide +kernel
theorem dX10_wouldGo_62 : decode cX10_wouldGo 62 = .ok (.iload_n 2, 1) := by decide +kernel
theorem dX10_wouldGo_63 : decode cX10_wouldGo 63 = .ok (.iload_n 3, 1) := by decide +kernel
theorem dX10_wouldGo_64 : decode cX10_wouldGo 64 = .ok (.iconst 0, 1) := by decide +kernel
theorem dX10_wouldGo_65 : decode cX10_wouldGo 65 = .ok (.invokevirtual 109, 3) := by decide +kernel
theorem dX10_wouldGo_68 : decode cX10_wouldGo 68 = .ok (.istore 4, 2) := by decide +kernel
theorem dX10_wouldGo_70 : decode cX10_wouldGo 70 = .ok (.iconst 0, 1) := by decide +kernel
theorem dX10_wouldGo_71 : decode cX10_wouldGo 71 = .ok (.istore 5, 2) := by decide +kernel
theorem dX10_wouldGo_73 : decode cX10_wouldGo 73 = .ok (.iload 5, 2) := by decide +kernel
theorem dX10_wouldGo_75 : decode cX10_wouldGo 75 = .ok (.sipush 1752, 3) := by decide +kernel
theorem dX10_wouldGo_78 : decode cX10_wouldGo 78 = .ok (.if_icmp .ge 23, 3) := by decide +kernel
theorem dX10_wouldGo_81 : decode cX10_wouldGo 81 = .ok (.aload_n 0, 1) := by decide +kernel
theorem dX10_wouldGo_82 : decode cX10_wouldGo 82 = .ok (.getfield 7, 3) := by decide +kernel
theorem dX10_wouldGo_85 : decode cX10_wouldGo 85 = .ok (.iload 5, 2) := by decide +kernel
theorem dX10_wouldGo_87 : decode cX10_wouldGo 87 = .ok (.aload_n 0, 1) := by decide +kernel
theorem dX10_wouldGo_88 : decode cX10_wouldGo 88 = .ok (.getfield 19, 3) := by decide +kernel
theorem dX10_wouldGo_91 : decode cX10_wouldGo 91 = .ok (.iload 5, 2) := by decide +kernel
theorem dX10_wouldGo_93 : decode cX10_wouldGo 93 = .ok (.iaload, 1) := by decide +kernel
theorem dX10_wouldGo_94 : decode cX10_wouldGo 94 = .ok (.iastore, 1) := by decide +kernel
theorem dX10_wouldGo_95 : decode cX10_wouldGo 95 = .ok (.iinc 5 1, 3) := by decide +kernel
theorem dX10_wouldGo_98 : decode cX10_wouldGo 98 = .ok (.goto (-25), 3) := by decide +kernel
theorem dX10_wouldGo_101 : decode cX10_wouldGo 101 = .ok (.aload_n 0, 1) := by decide +kernel
theorem dX10_wouldGo_102 : decode cX10_wouldGo 102 = .ok (.getfield 87, 3) := by decide +kernel
theorem dX10_wouldGo_105 : decode cX10_wouldGo 105 = .ok (.ireturn, 1) := by decide +kernel
theorem dX10_atPlace_0 : decode cX10_atPlace 0 = .ok (.iconst 0, 1) := by decide +kernel
theorem dX10_atPlace_1 : decode cX10_atPlace 1 = .ok (.istore_n 3, 1) := by decide +kernel
theorem dX10_atPlace_2 : decode cX10_atPlace 2 = .ok (.iload_n 3, 1) := by decide +kernel
theorem dX10_atPlace_3 : decode cX10_atPlace 3 = .ok (.aload_n 0, 1) := by decide +kernel
theorem dX10_atPlace_4 : decode cX10_atPlace 4 = .ok (.iload_n 1, 1) := by decide +kernel
theorem dX10_atPlace_5 : decode cX10_atPlace 5 = .ok (.iconst 5, 1) := by decide +kernel
theorem dX10_atPlace_6 : decode cX10_atPlace 6 = .ok (.invokevirtual 44, 3) := by decide +kernel
theorem dX10_atPlace_9 : decode cX10_atPlace 9 = .ok (.if_icmp .ge 116, 3) := by decide +kernel
theorem dX10_atPlace_12 : decode cX10_atPlace 12 = .ok (.iconst 0, 1) := by decide +kernel
theorem dX10_atPlace_13 : decode cX10_atPlace 13 = .ok (.istore 4, 2) := by decide +kernel
theorem dX10_atPlace_15 : decode cX10_atPlace 15 = .ok (.iconst 0, 1) := by decide +kernel
theorem dX10_atPlace_16 : decode cX10_atPlace 16 = .ok (.istore 5, 2) := by decide +kernel
theorem dX10_atPlace_18 : decode cX10_atPlace 18 = .ok (.iload 5, 2) := by decide +kernel
theorem dX10_atPlace_20 : decode cX10_atPlace 20 = .ok (.aload_n 0, 1) := by decide +kernel
theorem dX10_atPlace_21 : decode cX10_atPlace 21 = .ok (.iload_n 1, 1) := by decide +kernel
theorem dX10_atPlace_22 : decode cX10_atPlace 22 = .ok (.iconst 5, 1) := by decide +kernel
theorem dX10_atPlace_23 : decode cX10_atPlace 23 = .ok (.invokevirtual 44, 3) := by decide +kernel
theorem dX10_atPlace_26 : decode cX10_atPlace 26 = .ok (.if_icmp .ge 85, 3) := by decide +kernel
theorem dX10_atPlace_29 : decode cX10_atPlace 29 = .ok (.aload_n 0, 1) := by decide +kernel
theorem dX10_atPlace_30 : decode cX10_atPlace 30 = .ok (.getfield 7, 3) := by decide +kernel
theorem dX10_atPlace_33 : decode cX10_atPlace 33 = .ok (.aload_n 0, 1) := by decide +kernel
theorem dX10_atPlace_34 : decode cX10_atPlace 34 = .ok (.iload_n 1, 1) := by decide +kernel
theorem dX10_atPlace_35 : decode cX10_atPlace 35 = .ok (.iload 5, 2) := by decide +kernel
theorem dX10_atPlace_37 : decode cX10_atPlace 37 = .ok (.invokevirtual 80, 3) := by decide +kernel
theorem dX10_atPlace_40 : decode cX10_atPlace 40 = .ok (.iconst 3, 1) := by decide +kernel
theorem dX10_atPlace_41 : decode cX10_atPlace 41 = .ok (.iadd, 1) := by decide +kernel
theorem dX10_atPlace_42 : decode cX10_atPlace 42 = .ok (.iaload, 1) := by decide +kernel
theorem dX10_atPlace_43 : decode cX10_atPlace 43 = .ok (.aload_n 0, 1) := by decide +kernel
theorem dX10_atPlace_44 : decode cX10_atPlace 44 = .ok (.getfield 7, 3) := by decide +kernel
theorem dX10_atPlace_47 : decode cX10_atPlace 47 = .ok (.aload_n 0, 1) := by decide +kernel
theorem dX10_atPlace_48 : decode cX10_atPlace 48 = .ok (.iload_n 1, 1) := by decide +kernel
theorem dX10_atPlace_49 : decode cX10_atPlace 49 = .ok (.iload_n 3, 1) := by decide +kernel
theorem dX10_atPlace_50 : decode cX10_atPlace 50 = .ok (.invokevirtual 80, 3) := by decide +kernel
theorem dX10_atPlace_53 : decode cX10_atPlace 53 = .ok (.iconst 3, 1) := by decide +kernel
theorem dX10_atPlace_54 : decode cX10_atPlace 54 = .ok (.iadd, 1) := by decide +kernel
theorem dX10_atPlace_55 : decode cX10_atPlace 55 = .ok (.iaload, 1) := by decide +kernel
theorem dX10_atPlace_56 : decode cX10_atPlace 56 = .ok (.isub, 1) := by decide +kernel
theorem dX10_atPlace_57 : decode cX10_atPlace 57 = .ok (.istore 6, 2) := by decide +kernel
theorem dX10_atPlace_59 : decode cX10_atPlace 59 = .ok (.iload 4, 2) := by decide +kernel
theorem dX10_atPlace_61 : decode cX10_atPlace 61 = .ok (.iload 6, 2) := by decide +kernel
theorem dX10_atPlace_63 : decode cX10_atPlace 63 = .ok (.ifCond .gt 34, 3) := by decide +kernel
theorem dX10_atPlace_66 : decode cX10_atPlace 66 = .ok (.iload 6, 2) := by decide +kernel
theorem dX10_atPlace_68 : decode cX10_atPlace 68 = .ok (.ifCond .ne 33, 3) := by decide +kernel
theorem dX10_atPlace_71 : decode cX10_atPlace 71 = .ok (.aload_n 0, 1) := by decide +kernel
theorem dX10_atPlace_72 : decode cX10_atPlace 72 = .ok (.getfield 7, 3) := by decide +kernel
theorem dX10_atPlace_75 : decode cX10_atPlace 75 = .ok (.aload_n 0, 1) := by decide +kernel
theorem dX10_atPlace_76 : decode cX10_atPlace 76 = .ok (.iload_n 1, 1) := by decide +kernel
theorem dX10_atPlace_77 : decode cX10_atPlace 77 = .ok (.iload 5, 2) := by decide +kernel
theorem dX10_atPlace_79 : decode cX10_atPlace 79 = .ok (.invokevirtual 80, 3) := by decide +kernel
theorem dX10_atPlace_82 : decode cX10_atPlace 82 = .ok (.iaload, 1) := by decide +kernel
theorem dX10_atPlace_83 : decode cX10_atPlace 83 = .ok (.aload_n 0, 1) := by decide +kernel
theorem dX10_atPlace_84 : decode cX10_atPlace 84 = .ok (.getfield 7, 3) := by decide +kernel
theorem dX10_atPlace_87 : decode cX10_atPlace 87 = .ok (.aload_n 0, 1) := by decide +kernel
theorem dX10_atPlace_88 : decode cX10_atPlace 88 = .ok (.iload_n 1, 1) := by decide +kernel
theorem dX10_atPlace_89 : decode cX10_atPlace 89 = .ok (.iload_n 3, 1) := by decide +kernel
theorem dX10_atPlace_90 : decode cX10_atPlace 90 = .ok (.invokevirtual 80, 3) := by decide +kernel
theorem dX10_atPlace_93 : decode cX10_atPlace 93 = .ok (.iaload, 1) := by decide +kernel
theorem dX10_atPlace_94 : decode cX10_atPlace 94 = .ok (.if_icmp .ge 7, 3) := by decide +kernel
theorem dX10_atPlace_97 : decode cX10_atPlace 97 = .ok (.iconst 1, 1) := by decide +kernel
theorem dX10_atPlace_98 : decode cX10_atPlace 98 = .ok (.goto 4, 3) := by decide +kernel
theorem dX10_atPlace_101 : decode cX10_atPlace 101 = .ok (.iconst 0, 1) := by decide +kernel
theorem dX10_atPlace_102 : decode cX10_atPlace 102 = .ok (.iadd, 1) := by decide +kernel
theorem dX10_atPlace_103 : decode cX10_atPlace 103 = .ok (.istore 4, 2) := by decide +kernel
theorem dX10_atPlace_105 : decode cX10_atPlace 105 = .ok (.iinc 5 1, 3) := by decide +kernel
theorem dX10_atPlace_108 : decode cX10_atPlace 108 = .ok (.goto (-90), 3) := by decide +kernel
theorem dX10_atPlace_111 : decode cX10_atPlace 111 = .ok (.iload 4, 2) := by decide +kernel
theorem dX10_atPlace_113 : decode cX10_atPlace 113 = .ok (.iload_n 2, 1) := by decide +kernel
theorem dX10_atPlace_114 : decode cX10_atPlace 114 = .ok (.if_icmp .ne 5, 3) := by decide +kernel
theorem dX10_atPlace_117 : decode cX10_atPlace 117 = .ok (.iload_n 3, 1) := by decide +kernel
theorem dX10_atPlace_118 : decode cX10_atPlace 118 = .ok (.ireturn, 1) := by decide +kernel
theorem dX10_atPlace_119 : decode cX10_atPlace 119 = .ok (.iinc 3 1, 3) := by decide +kernel
theorem dX10_atPlace_122 : decode cX10_atPlace 122 = .ok (.goto (-120), 3) := by decide +kernel
theorem dX10_atPlace_125 : decode cX10_atPlace 125 = .ok (.bipush (-4), 2) := by decide +kernel
theorem dX10_atPlace_127 : decode cX10_atPlace 127 = .ok (.ireturn, 1) := by decide +kernel
theorem dX10_sends_0 : decode cX10_sends 0 = .ok (.aload_n 0, 1) := by decide +kernel
theorem dX10_sends_1 : decode cX10_sends 1 = .ok (.iload_n 1, 1) := by decide +kernel
theorem dX10_sends_2 : decode cX10_sends 2 = .ok (.iconst 0, 1) := by decide +kernel
theorem dX10_sends_3 : decode cX10_sends 3 = .ok (.invokevirtual 112, 3) := by decide +kernel
theorem dX10_sends_6 : decode cX10_sends 6 = .ok (.istore_n 2, 1) := by decide +kernel
theorem dX10_sends_7 : decode cX10_sends 7 = .ok (.aload_n 0, 1) := by decide +kernel
theorem dX10_sends_8 : decode cX10_sends 8 = .ok (.iload_n 1, 1) := by decide +kernel
theorem dX10_sends_9 : decode cX10_sends 9 = .ok (.iload_n 2, 1) := by decide +kernel
theorem dX10_sends_10 : decode cX10_sends 10 = .ok (.invokevirtual 80, 3) := by decide +kernel
theorem dX10_sends_13 : decode cX10_sends 13 = .ok (.istore_n 3, 1) := by decide +kernel
theorem dX10_sends_14 : decode cX10_sends 14 = .ok (.aload_n 0, 1) := by decide +kernel
theorem dX10_sends_15 : decode cX10_sends 15 = .ok (.iload_n 1, 1) := by decide +kernel
theorem dX10_sends_16 : decode cX10_sends 16 = .ok (.bipush 9, 2) := by decide +kernel
theorem dX10_sends_18 : decode cX10_sends 18 = .ok (.invokevirtual 76, 3) := by decide +kernel
theorem dX10_sends_21 : decode cX10_sends 21 = .ok (.aload_n 0, 1) := by decide +kernel
theorem dX10_sends_22 : decode cX10_sends 22 = .ok (.iload_n 1, 1) := by decide +kernel
theorem dX10_sends_23 : decode cX10_sends 23 = .ok (.iconst 3, 1) := by decide +kernel
theorem dX10_sends_24 : decode cX10_sends 24 = .ok (.invokevirtual 44, 3) := by decide +kernel
theorem dX10_sends_27 : decode cX10_sends 27 = .ok (.ifCond .le 98, 3) := by decide +kernel
theorem dX10_sends_30 : decode cX10_sends 30 = .ok (.aload_n 0, 1) := by decide +kernel
theorem dX10_sends_31 : decode cX10_sends 31 = .ok (.getfield 22, 3) := by decide +kernel
theorem dX10_sends_34 : decode cX10_sends 34 = .ok (.iconst 4, 1) := by decide +kernel
theorem dX10_sends_35 : decode cX10_sends 35 = .ok (.aload_n 0, 1) := by decide +kernel
theorem dX10_sends_36 : decode cX10_sends 36 = .ok (.getfield 115, 3) := by decide +kernel
theorem dX10_sends_39 : decode cX10_sends 39 = .ok (.imul, 1) := by decide +kernel
theorem dX10_sends_40 : decode cX10_sends 40 = .ok (.aload_n 0, 1) := by decide +kernel
theorem dX10_sends_41 : decode cX10_sends 41 = .ok (.iload_n 1, 1) := by decide +kernel
