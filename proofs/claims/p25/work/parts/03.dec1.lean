theorem dX9_part_10 : decode cX9_part 10 = .ok (.getfield 10, 3) := by decide +kernel
theorem dX9_part_13 : decode cX9_part 13 = .ok (.getfield 47, 3) := by decide +kernel
theorem dX9_part_16 : decode cX9_part 16 = .ok (.iload_n 1, 1) := by decide +kernel
theorem dX9_part_17 : decode cX9_part 17 = .ok (.invokevirtual 78, 3) := by decide +kernel
theorem dX9_part_20 : decode cX9_part 20 = .ok (.istore_n 2, 1) := by decide +kernel
theorem dX9_part_21 : decode cX9_part 21 = .ok (.iload_n 2, 1) := by decide +kernel
theorem dX9_part_22 : decode cX9_part 22 = .ok (.bipush (-4), 2) := by decide +kernel
theorem dX9_part_24 : decode cX9_part 24 = .ok (.if_icmp .ne 6, 3) := by decide +kernel
theorem dX9_part_27 : decode cX9_part 27 = .ok (.bipush (-4), 2) := by decide +kernel
theorem dX9_part_29 : decode cX9_part 29 = .ok (.ireturn, 1) := by decide +kernel
theorem dX9_part_30 : decode cX9_part 30 = .ok (.aload_n 0, 1) := by decide +kernel
theorem dX9_part_31 : decode cX9_part 31 = .ok (.getfield 25, 3) := by decide +kernel
theorem dX9_part_34 : decode cX9_part 34 = .ok (.aload_n 0, 1) := by decide +kernel
theorem dX9_part_35 : decode cX9_part 35 = .ok (.getfield 10, 3) := by decide +kernel
theorem dX9_part_38 : decode cX9_part 38 = .ok (.invokevirtual 56, 3) := by decide +kernel
theorem dX9_part_41 : decode cX9_part 41 = .ok (.aload_n 0, 1) := by decide +kernel
theorem dX9_part_42 : decode cX9_part 42 = .ok (.getfield 10, 3) := by decide +kernel
theorem dX9_part_45 : decode cX9_part 45 = .ok (.getfield 47, 3) := by decide +kernel
theorem dX9_part_48 : decode cX9_part 48 = .ok (.iload_n 1, 1) := by decide +kernel
theorem dX9_part_49 : decode cX9_part 49 = .ok (.iload_n 2, 1) := by decide +kernel
theorem dX9_part_50 : decode cX9_part 50 = .ok (.invokevirtual 88, 3) := by decide +kernel
theorem dX9_part_53 : decode cX9_part 53 = .ok (.iload_n 2, 1) := by decide +kernel
theorem dX9_part_54 : decode cX9_part 54 = .ok (.ireturn, 1) := by decide +kernel
theorem dX9_release_0 : decode cX9_release 0 = .ok (.iload_n 1, 1) := by decide +kernel
theorem dX9_release_1 : decode cX9_release 1 = .ok (.invokestatic 43, 3) := by decide +kernel
theorem dX9_release_4 : decode cX9_release 4 = .ok (.ifCond .ne 5, 3) := by decide +kernel
theorem dX9_release_7 : decode cX9_release 7 = .ok (.iconst (-1), 1) := by decide +kernel
theorem dX9_release_8 : decode cX9_release 8 = .ok (.ireturn, 1) := by decide +kernel
theorem dX9_release_9 : decode cX9_release 9 = .ok (.aload_n 0, 1) := by decide +kernel
theorem dX9_release_10 : decode cX9_release 10 = .ok (.getfield 10, 3) := by decide +kernel
theorem dX9_release_13 : decode cX9_release 13 = .ok (.getfield 47, 3) := by decide +kernel
theorem dX9_release_16 : decode cX9_release 16 = .ok (.iload_n 1, 1) := by decide +kernel
theorem dX9_release_17 : decode cX9_release 17 = .ok (.invokevirtual 91, 3) := by decide +kernel
theorem dX9_release_20 : decode cX9_release 20 = .ok (.istore_n 2, 1) := by decide +kernel
theorem dX9_release_21 : decode cX9_release 21 = .ok (.iload_n 2, 1) := by decide +kernel
theorem dX9_release_22 : decode cX9_release 22 = .ok (.ifCond .ne 6, 3) := by decide +kernel
theorem dX9_release_25 : decode cX9_release 25 = .ok (.bipush (-4), 2) := by decide +kernel
theorem dX9_release_27 : decode cX9_release 27 = .ok (.ireturn, 1) := by decide +kernel
theorem dX9_release_28 : decode cX9_release 28 = .ok (.aload_n 0, 1) := by decide +kernel
theorem dX9_release_29 : decode cX9_release 29 = .ok (.getfield 25, 3) := by decide +kernel
theorem dX9_release_32 : decode cX9_release 32 = .ok (.aload_n 0, 1) := by decide +kernel
theorem dX9_release_33 : decode cX9_release 33 = .ok (.getfield 10, 3) := by decide +kernel
theorem dX9_release_36 : decode cX9_release 36 = .ok (.invokevirtual 56, 3) := by decide +kernel
theorem dX9_release_39 : decode cX9_release 39 = .ok (.aload_n 0, 1) := by decide +kernel
theorem dX9_release_40 : decode cX9_release 40 = .ok (.getfield 10, 3) := by decide +kernel
theorem dX9_release_43 : decode cX9_release 43 = .ok (.getfield 47, 3) := by decide +kernel
theorem dX9_release_46 : decode cX9_release 46 = .ok (.iload_n 1, 1) := by decide +kernel
theorem dX9_release_47 : decode cX9_release 47 = .ok (.invokevirtual 94, 3) := by decide +kernel
theorem dX9_release_50 : decode cX9_release 50 = .ok (.iload_n 2, 1) := by decide +kernel
theorem dX9_release_51 : decode cX9_release 51 = .ok (.ireturn, 1) := by decide +kernel
theorem dX9_set_0 : decode cX9_set 0 = .ok (.iload_n 1, 1) := by decide +kernel
theorem dX9_set_1 : decode cX9_set 1 = .ok (.invokestatic 97, 3) := by decide +kernel
theorem dX9_set_4 : decode cX9_set 4 = .ok (.ifCond .eq 17, 3) := by decide +kernel
theorem dX9_set_7 : decode cX9_set 7 = .ok (.iload_n 2, 1) := by decide +kernel
theorem dX9_set_8 : decode cX9_set 8 = .ok (.iconst 1, 1) := by decide +kernel
theorem dX9_set_9 : decode cX9_set 9 = .ok (.if_icmp .lt 12, 3) := by decide +kernel
theorem dX9_set_12 : decode cX9_set 12 = .ok (.iload_n 2, 1) := by decide +kernel
theorem dX9_set_13 : decode cX9_set 13 = .ok (.getstatic 100, 3) := by decide +kernel
theorem dX9_set_16 : decode cX9_set 16 = .ok (.iload_n 1, 1) := by decide +kernel
theorem dX9_set_17 : decode cX9_set 17 = .ok (.iaload, 1) := by decide +kernel
theorem dX9_set_18 : decode cX9_set 18 = .ok (.if_icmp .le 6, 3) := by decide +kernel
theorem dX9_set_21 : decode cX9_set 21 = .ok (.bipush (-2), 2) := by decide +kernel
theorem dX9_set_23 : decode cX9_set 23 = .ok (.ireturn, 1) := by decide +kernel
theorem dX9_set_24 : decode cX9_set 24 = .ok (.aload_n 0, 1) := by decide +kernel
theorem dX9_set_25 : decode cX9_set 25 = .ok (.getfield 10, 3) := by decide +kernel
theorem dX9_set_28 : decode cX9_set 28 = .ok (.getfield 104, 3) := by decide +kernel
theorem dX9_set_31 : decode cX9_set 31 = .ok (.iload_n 1, 1) := by decide +kernel
theorem dX9_set_32 : decode cX9_set 32 = .ok (.invokevirtual 108, 3) := by decide +kernel
theorem dX9_set_35 : decode cX9_set 35 = .ok (.istore_n 3, 1) := by decide +kernel
theorem dX9_set_36 : decode cX9_set 36 = .ok (.iload_n 3, 1) := by decide +kernel
theorem dX9_set_37 : decode cX9_set 37 = .ok (.iload_n 2, 1) := by decide +kernel
theorem dX9_set_38 : decode cX9_set 38 = .ok (.if_icmp .ne 6, 3) := by decide +kernel
theorem dX9_set_41 : decode cX9_set 41 = .ok (.bipush (-4), 2) := by decide +kernel
theorem dX9_set_43 : decode cX9_set 43 = .ok (.ireturn, 1) := by decide +kernel
theorem dX9_set_44 : decode cX9_set 44 = .ok (.aload_n 0, 1) := by decide +kernel
theorem dX9_set_45 : decode cX9_set 45 = .ok (.getfield 25, 3) := by decide +kernel
theorem dX9_set_48 : decode cX9_set 48 = .ok (.aload_n 0, 1) := by decide +kernel
theorem dX9_set_49 : decode cX9_set 49 = .ok (.getfield 10, 3) := by decide +kernel
theorem dX9_set_52 : decode cX9_set 52 = .ok (.invokevirtual 56, 3) := by decide +kernel
theorem dX9_set_55 : decode cX9_set 55 = .ok (.aload_n 0, 1) := by decide +kernel
theorem dX9_set_56 : decode cX9_set 56 = .ok (.getfield 10, 3) := by decide +kernel
theorem dX9_set_59 : decode cX9_set 59 = .ok (.getfield 104, 3) := by decide +kernel
theorem dX9_set_62 : decode cX9_set 62 = .ok (.iload_n 1, 1) := by decide +kernel
theorem dX9_set_63 : decode cX9_set 63 = .ok (.iload_n 2, 1) := by decide +kernel
theorem dX9_set_64 : decode cX9_set 64 = .ok (.invokevirtual 113, 3) := by decide +kernel
theorem dX9_set_67 : decode cX9_set 67 = .ok (.iload_n 3, 1) := by decide +kernel
theorem dX9_set_68 : decode cX9_set 68 = .ok (.ireturn, 1) := by decide +kernel
theorem dX9_frame_0 : decode cX9_frame 0 = .ok (.iload_n 1, 1) := by decide +kernel
theorem dX9_frame_1 : decode cX9_frame 1 = .ok (.invokestatic 43, 3) := by decide +kernel
theorem dX9_frame_4 : decode cX9_frame 4 = .ok (.ifCond .ne 5, 3) := by decide +kernel
theorem dX9_frame_7 : decode cX9_frame 7 = .ok (.iconst (-1), 1) := by decide +kernel
theorem dX9_frame_8 : decode cX9_frame 8 = .ok (.ireturn, 1) := by decide +kernel
theorem dX9_frame_9 : decode cX9_frame 9 = .ok (.iload_n 2, 1) := by decide +kernel
theorem dX9_frame_10 : decode cX9_frame 10 = .ok (.invokestatic 116, 3) := by decide +kernel
theorem dX9_frame_13 : decode cX9_frame 13 = .ok (.ifCond .eq 21, 3) := by decide +kernel
theorem dX9_frame_16 : decode cX9_frame 16 = .ok (.iload_n 3, 1) := by decide +kernel
theorem dX9_frame_17 : decode cX9_frame 17 = .ok (.invokestatic 119, 3) := by decide +kernel
theorem dX9_frame_20 : decode cX9_frame 20 = .ok (.ifCond .eq 14, 3) := by decide +kernel
theorem dX9_frame_23 : decode cX9_frame 23 = .ok (.iload 4, 2) := by decide +kernel
theorem dX9_frame_25 : decode cX9_frame 25 = .ok (.ifCond .lt 9, 3) := by decide +kernel
theorem dX9_frame_28 : decode cX9_frame 28 = .ok (.iload 4, 2) := by decide +kernel
theorem dX9_frame_30 : decode cX9_frame 30 = .ok (.iconst 3, 1) := by decide +kernel
theorem dX9_frame_31 : decode cX9_frame 31 = .ok (.if_icmp .le 6, 3) := by decide +kernel
theorem dX9_frame_34 : decode cX9_frame 34 = .ok (.bipush (-2), 2) := by decide +kernel
theorem dX9_frame_36 : decode cX9_frame 36 = .ok (.ireturn, 1) := by decide +kernel
theorem dX9_frame_37 : decode cX9_frame 37 = .ok (.aload_n 0, 1) := by decide +kernel
theorem dX9_frame_38 : decode cX9_frame 38 = .ok (.getfield 25, 3) := by decide +kernel
theorem dX9_frame_41 : decode cX9_frame 41 = .ok (.aload_n 0, 1) := by decide +kernel
theorem dX9_frame_42 : decode cX9_frame 42 = .ok (.getfield 10, 3) := by decide +kernel
theorem dX9_frame_45 : decode cX9_frame 45 = .ok (.invokevirtual 56, 3) := by decide +kernel
theorem dX9_frame_48 : decode cX9_frame 48 = .ok (.aload_n 0, 1) := by decide +kernel
theorem dX9_frame_49 : decode cX9_frame 49 = .ok (.getfield 10, 3) := by decide +kernel
theorem dX9_frame_52 : decode cX9_frame 52 = .ok (.iload_n 1, 1) := by decide +kernel
theorem dX9_frame_53 : decode cX9_frame 53 = .ok (.iload_n 2, 1) := by decide +kernel
theorem dX9_frame_54 : decode cX9_frame 54 = .ok (.iload_n 3, 1) := by decide +kernel
theorem dX9_frame_55 : decode cX9_frame 55 = .ok (.iload 4, 2) := by decide +kernel
theorem dX9_frame_57 : decode cX9_frame 57 = .ok (.invokevirtual 122, 3) := by decide +kernel
theorem dX9_frame_60 : decode cX9_frame 60 = .ok (.ireturn, 1) := by decide +kernel
theorem dX9_forget_0 : decode cX9_forget 0 = .ok (.iload_n 1, 1) := by decide +kernel
theorem dX9_forget_1 : decode cX9_forget 1 = .ok (.invokestatic 116, 3) := by decide +kernel
theorem dX9_forget_4 : decode cX9_forget 4 = .ok (.ifCond .ne 6, 3) := by decide +kernel
theorem dX9_forget_7 : decode cX9_forget 7 = .ok (.bipush (-2), 2) := by decide +kernel
theorem dX9_forget_9 : decode cX9_forget 9 = .ok (.ireturn, 1) := by decide +kernel
theorem dX9_forget_10 : decode cX9_forget 10 = .ok (.aload_n 0, 1) := by decide +kernel
theorem dX9_forget_11 : decode cX9_forget 11 = .ok (.getfield 10, 3) := by decide +kernel
theorem dX9_forget_14 : decode cX9_forget 14 = .ok (.getfield 126, 3) := by decide +kernel
theorem dX9_forget_17 : decode cX9_forget 17 = .ok (.iload_n 1, 1) := by decide +kernel
theorem dX9_forget_18 : decode cX9_forget 18 = .ok (.invokevirtual 130, 3) := by decide +kernel
theorem dX9_forget_21 : decode cX9_forget 21 = .ok (.istore_n 2, 1) := by decide +kernel
theorem dX9_forget_22 : decode cX9_forget 22 = .ok (.iload_n 2, 1) := by decide +kernel
theorem dX9_forget_23 : decode cX9_forget 23 = .ok (.bipush (-4), 2) := by decide +kernel
theorem dX9_forget_25 : decode cX9_forget 25 = .ok (.if_icmp .ne 6, 3) := by decide +kernel
theorem dX9_forget_28 : decode cX9_forget 28 = .ok (.bipush (-4), 2) := by decide +kernel
theorem dX9_forget_30 : decode cX9_forget 30 = .ok (.ireturn, 1) := by decide +kernel
theorem dX9_forget_31 : decode cX9_forget 31 = .ok (.aload_n 0, 1) := by decide +kernel
theorem dX9_forget_32 : decode cX9_forget 32 = .ok (.getfield 25, 3) := by decide +kernel
theorem dX9_forget_35 : decode cX9_forget 35 = .ok (.aload_n 0, 1) := by decide +kernel
theorem dX9_forget_36 : decode cX9_forget 36 = .ok (.getfield 10, 3) := by decide +kernel
theorem dX9_forget_39 : decode cX9_forget 39 = .ok (.invokevirtual 56, 3) := by decide +kernel
theorem dX9_forget_42 : decode cX9_forget 42 = .ok (.aload_n 0, 1) := by decide +kernel
theorem dX9_forget_43 : decode cX9_forget 43 = .ok (.getfield 10, 3) := by decide +kernel
theorem dX9_forget_46 : decode cX9_forget 46 = .ok (.getfield 126, 3) := by decide +kernel
theorem dX9_forget_49 : decode cX9_forget 49 = .ok (.iload_n 1, 1) := by decide +kernel
theorem dX9_forget_50 : decode cX9_forget 50 = .ok (.invokevirtual 135, 3) := by decide +kernel
theorem dX9_forget_53 : decode cX9_forget 53 = .ok (.iload_n 2, 1) := by decide +kernel
theorem dX9_forget_54 : decode cX9_forget 54 = .ok (.ireturn, 1) := by decide +kernel
theorem dX9_pass_0 : decode cX9_pass 0 = .ok (.iload_n 1, 1) := by decide +kernel
theorem dX9_pass_1 : decode cX9_pass 1 = .ok (.iconst 1, 1) := by decide +kernel
theorem dX9_pass_2 : decode cX9_pass 2 = .ok (.if_icmp .lt 9, 3) := by decide +kernel
theorem dX9_pass_5 : decode cX9_pass 5 = .ok (.iload_n 1, 1) := by decide +kernel
theorem dX9_pass_6 : decode cX9_pass 6 = .ok (.bipush 10, 2) := by decide +kernel
theorem dX9_pass_8 : decode cX9_pass 8 = .ok (.if_icmp .le 6, 3) := by decide +kernel
theorem dX9_pass_11 : decode cX9_pass 11 = .ok (.bipush (-2), 2) := by decide +kernel
theorem dX9_pass_13 : decode cX9_pass 13 = .ok (.ireturn, 1) := by decide +kernel
theorem dX9_pass_14 : decode cX9_pass 14 = .ok (.aload_n 0, 1) := by decide +kernel
theorem dX9_pass_15 : decode cX9_pass 15 = .ok (.getfield 25, 3) := by decide +kernel
theorem dX9_pass_18 : decode cX9_pass 18 = .ok (.aload_n 0, 1) := by decide +kernel
theorem dX9_pass_19 : decode cX9_pass 19 = .ok (.getfield 10, 3) := by decide +kernel
theorem dX9_pass_22 : decode cX9_pass 22 = .ok (.invokevirtual 56, 3) := by decide +kernel
theorem dX9_pass_25 : decode cX9_pass 25 = .ok (.iconst 0, 1) := by decide +kernel
theorem dX9_pass_26 : decode cX9_pass 26 = .ok (.istore_n 2, 1) := by decide +kernel
theorem dX9_pass_27 : decode cX9_pass 27 = .ok (.iconst 0, 1) := by decide +kernel
theorem dX9_pass_28 : decode cX9_pass 28 = .ok (.istore_n 3, 1) := by decide +kernel
theorem dX9_pass_29 : decode cX9_pass 29 = .ok (.iload_n 3, 1) := by decide +kernel
theorem dX9_pass_30 : decode cX9_pass 30 = .ok (.iload_n 1, 1) := by decide +kernel
theorem dX9_pass_31 : decode cX9_pass 31 = .ok (.if_icmp .ge 42, 3) := by decide +kernel
theorem dX9_pass_34 : decode cX9_pass 34 = .ok (.iload_n 2, 1) := by decide +kernel
theorem dX9_pass_35 : decode cX9_pass 35 = .ok (.aload_n 0, 1) := by decide +kernel
theorem dX9_pass_36 : decode cX9_pass 36 = .ok (.getfield 10, 3) := by decide +kernel
theorem dX9_pass_39 : decode cX9_pass 39 = .ok (.aload_n 0, 1) := by decide +kernel
theorem dX9_pass_40 : decode cX9_pass 40 = .ok (.getfield 39, 3) := by decide +kernel
theorem dX9_pass_43 : decode cX9_pass 43 = .ok (.invokevirtual 138, 3) := by decide +kernel
theorem dX9_pass_46 : decode cX9_pass 46 = .ok (.iadd, 1) := by decide +kernel
theorem dX9_pass_47 : decode cX9_pass 47 = .ok (.istore_n 2, 1) := by decide +kernel
theorem dX9_pass_48 : decode cX9_pass 48 = .ok (.aload_n 0, 1) := by decide +kernel
theorem dX9_pass_49 : decode cX9_pass 49 = .ok (.getfield 10, 3) := by decide +kernel
theorem dX9_pass_52 : decode cX9_pass 52 = .ok (.aload_n 0, 1) := by decide +kernel
theorem dX9_pass_53 : decode cX9_pass 53 = .ok (.getfield 39, 3) := by decide +kernel
theorem dX9_pass_56 : decode cX9_pass 56 = .ok (.invokevirtual 142, 3) := by decide +kernel
theorem dX9_pass_59 : decode cX9_pass 59 = .ok (.pop, 1) := by decide +kernel
theorem dX9_pass_60 : decode cX9_pass 60 = .ok (.aload_n 0, 1) := by decide +kernel
theorem dX9_pass_61 : decode cX9_pass 61 = .ok (.getfield 10, 3) := by decide +kernel
theorem dX9_pass_64 : decode cX9_pass 64 = .ok (.invokevirtual 145, 3) := by decide +kernel
theorem dX9_pass_67 : decode cX9_pass 67 = .ok (.iinc 3 1, 3) := by decide +kernel
theorem dX9_pass_70 : decode cX9_pass 70 = .ok (.goto (-41), 3) := by decide +kernel
theorem dX9_pass_73 : decode cX9_pass 73 = .ok (.iload_n 2, 1) := by decide +kernel
theorem dX9_pass_74 : decode cX9_pass 74 = .ok (.ireturn, 1) := by decide +kernel
theorem dX9_readFrames_0 : decode cX9_readFrames 0 = .ok (.aload_n 0, 1) := by decide +kernel
theorem dX9_readFrames_1 : decode cX9_readFrames 1 = .ok (.getfield 32, 3) := by decide +kernel
theorem dX9_readFrames_4 : decode cX9_readFrames 4 = .ok (.aload_n 0, 1) := by decide +kernel
theorem dX9_readFrames_5 : decode cX9_readFrames 5 = .ok (.getfield 39, 3) := by decide +kernel
theorem dX9_readFrames_8 : decode cX9_readFrames 8 = .ok (.invokevirtual 156, 3) := by decide +kernel
theorem dX9_readFrames_11 : decode cX9_readFrames 11 = .ok (.istore_n 1, 1) := by decide +kernel
theorem dX9_readFrames_12 : decode cX9_readFrames 12 = .ok (.iload_n 1, 1) := by decide +kernel
theorem dX9_readFrames_13 : decode cX9_readFrames 13 = .ok (.iconst (-1), 1) := by decide +kernel
theorem dX9_readFrames_14 : decode cX9_readFrames 14 = .ok (.if_icmp .eq 8, 3) := by decide +kernel
theorem dX9_readFrames_17 : decode cX9_readFrames 17 = .ok (.bipush (-100), 2) := by decide +kernel
theorem dX9_readFrames_19 : decode cX9_readFrames 19 = .ok (.iload_n 1, 1) := by decide +kernel
theorem dX9_readFrames_20 : decode cX9_readFrames 20 = .ok (.isub, 1) := by decide +kernel
theorem dX9_readFrames_21 : decode cX9_readFrames 21 = .ok (.ireturn, 1) := by decide +kernel
theorem dX9_readFrames_22 : decode cX9_readFrames 22 = .ok (.aload_n 0, 1) := by decide +kernel
theorem dX9_readFrames_23 : decode cX9_readFrames 23 = .ok (.getfield 25, 3) := by decide +kernel
theorem dX9_readFrames_26 : decode cX9_readFrames 26 = .ok (.aload_n 0, 1) := by decide +kernel
theorem dX9_readFrames_27 : decode cX9_readFrames 27 = .ok (.getfield 10, 3) := by decide +kernel
theorem dX9_readFrames_30 : decode cX9_readFrames 30 = .ok (.invokevirtual 56, 3) := by decide +kernel
theorem dX9_readFrames_33 : decode cX9_readFrames 33 = .ok (.aload_n 0, 1) := by decide +kernel
theorem dX9_readFrames_34 : decode cX9_readFrames 34 = .ok (.getfield 10, 3) := by decide +kernel
theorem dX9_readFrames_37 : decode cX9_readFrames 37 = .ok (.aload_n 0, 1) := by decide +kernel
theorem dX9_readFrames_38 : decode cX9_readFrames 38 = .ok (.getfield 39, 3) := by decide +kernel
theorem dX9_readFrames_41 : decode cX9_readFrames 41 = .ok (.invokevirtual 142, 3) := by decide +kernel
theorem dX9_readFrames_44 : decode cX9_readFrames 44 = .ok (.ireturn, 1) := by decide +kernel
theorem dX9_undo_0 : decode cX9_undo 0 = .ok (.aload_n 0, 1) := by decide +kernel
theorem dX9_undo_1 : decode cX9_undo 1 = .ok (.getfield 25, 3) := by decide +kernel
theorem dX9_undo_4 : decode cX9_undo 4 = .ok (.aload_n 0, 1) := by decide +kernel
theorem dX9_undo_5 : decode cX9_undo 5 = .ok (.getfield 10, 3) := by decide +kernel
theorem dX9_undo_8 : decode cX9_undo 8 = .ok (.invokevirtual 159, 3) := by decide +kernel
theorem dX9_undo_11 : decode cX9_undo 11 = .ok (.ifCond .eq 13, 3) := by decide +kernel
theorem dX9_undo_14 : decode cX9_undo 14 = .ok (.aload_n 0, 1) := by decide +kernel
theorem dX9_undo_15 : decode cX9_undo 15 = .ok (.getfield 25, 3) := by decide +kernel
theorem dX9_undo_18 : decode cX9_undo 18 = .ok (.getfield 163, 3) := by decide +kernel
theorem dX9_undo_21 : decode cX9_undo 21 = .ok (.goto 5, 3) := by decide +kernel
theorem dX9_undo_24 : decode cX9_undo 24 = .ok (.bipush (-4), 2) := by decide +kernel
theorem dX9_undo_26 : decode cX9_undo 26 = .ok (.ireturn, 1) := by decide +kernel
theorem dX9_keep_0 : decode cX9_keep 0 = .ok (.aload_n 0, 1) := by decide +kernel
theorem dX9_keep_1 : decode cX9_keep 1 = .ok (.getfield 16, 3) := by decide +kernel
theorem dX9_keep_4 : decode cX9_keep 4 = .ok (.aload_n 0, 1) := by decide +kernel
theorem dX9_keep_5 : decode cX9_keep 5 = .ok (.getfield 10, 3) := by decide +kernel
theorem dX9_keep_8 : decode cX9_keep 8 = .ok (.invokevirtual 166, 3) := by decide +kernel
theorem dX9_keep_11 : decode cX9_keep 11 = .ok (.aload_n 0, 1) := by decide +kernel
theorem dX9_keep_12 : decode cX9_keep 12 = .ok (.iconst 1, 1) := by decide +kernel
theorem dX9_keep_13 : decode cX9_keep 13 = .ok (.putfield 169, 3) := by decide +kernel
theorem dX9_keep_16 : decode cX9_keep 16 = .ok (.aload_n 0, 1) := by decide +kernel
theorem dX9_keep_17 : decode cX9_keep 17 = .ok (.getfield 10, 3) := by decide +kernel
theorem dX9_keep_20 : decode cX9_keep 20 = .ok (.getfield 173, 3) := by decide +kernel
theorem dX9_keep_23 : decode cX9_keep 23 = .ok (.ireturn, 1) := by decide +kernel
theorem dX9_restore_0 : decode cX9_restore 0 = .ok (.aload_n 0, 1) := by decide +kernel
theorem dX9_restore_1 : decode cX9_restore 1 = .ok (.getfield 169, 3) := by decide +kernel
theorem dX9_restore_4 : decode cX9_restore 4 = .ok (.ifCond .ne 6, 3) := by decide +kernel
theorem dX9_restore_7 : decode cX9_restore 7 = .ok (.bipush (-4), 2) := by decide +kernel
theorem dX9_restore_9 : decode cX9_restore 9 = .ok (.ireturn, 1) := by decide +kernel
theorem dX9_restore_10 : decode cX9_restore 10 = .ok (.aload_n 0, 1) := by decide +kernel
theorem dX9_restore_11 : decode cX9_restore 11 = .ok (.getfield 25, 3) := by decide +kernel
theorem dX9_restore_14 : decode cX9_restore 14 = .ok (.aload_n 0, 1) := by decide +kernel
theorem dX9_restore_15 : decode cX9_restore 15 = .ok (.getfield 10, 3) := by decide +kernel
theorem dX9_restore_18 : decode cX9_restore 18 = .ok (.invokevirtual 56, 3) := by decide +kernel
theorem dX9_restore_21 : decode cX9_restore 21 = .ok (.aload_n 0, 1) := by decide +kernel
theorem dX9_restore_22 : decode cX9_restore 22 = .ok (.getfield 10, 3) := by decide +kernel
theorem dX9_restore_25 : decode cX9_restore 25 = .ok (.aload_n 0, 1) := by decide +kernel
theorem dX9_restore_26 : decode cX9_restore 26 = .ok (.getfield 16, 3) := by decide +kernel
theorem dX9_restore_29 : decode cX9_restore 29 = .ok (.invokevirtual 166, 3) := by decide +kernel
theorem dX9_restore_32 : decode cX9_restore 32 = .ok (.aload_n 0, 1) := by decide +kernel
theorem dX9_restore_33 : decode cX9_restore 33 = .ok (.getfield 10, 3) := by decide +kernel
theorem dX9_restore_36 : decode cX9_restore 36 = .ok (.getfield 173, 3) := by decide +kernel
theorem dX9_restore_39 : decode cX9_restore 39 = .ok (.ireturn, 1) := by decide +kernel
theorem dX9_port_0 : decode cX9_port 0 = .ok (.iload_n 1, 1) := by decide +kernel
theorem dX9_port_1 : decode cX9_port 1 = .ok (.invokestatic 43, 3) := by decide +kernel
theorem dX9_port_4 : decode cX9_port 4 = .ok (.ifCond .ne 5, 3) := by decide +kernel
theorem dX9_port_7 : decode cX9_port 7 = .ok (.iconst (-1), 1) := by decide +kernel
theorem dX9_port_8 : decode cX9_port 8 = .ok (.ireturn, 1) := by decide +kernel
theorem dX9_port_9 : decode cX9_port 9 = .ok (.iload_n 2, 1) := by decide +kernel
theorem dX9_port_10 : decode cX9_port 10 = .ok (.tableswitch 167 0 7 #[46, 66, 86, 98, 113, 125, 140, 152], 46) := by decide +kernel
theorem dX9_port_56 : decode cX9_port 56 = .ok (.aload_n 0, 1) := by decide +kernel
theorem dX9_port_57 : decode cX9_port 57 = .ok (.getfield 10, 3) := by decide +kernel
theorem dX9_port_60 : decode cX9_port 60 = .ok (.getfield 47, 3) := by decide +kernel
theorem dX9_port_63 : decode cX9_port 63 = .ok (.iload_n 1, 1) := by decide +kernel
theorem dX9_port_64 : decode cX9_port 64 = .ok (.invokevirtual 51, 3) := by decide +kernel
theorem dX9_port_67 : decode cX9_port 67 = .ok (.ifCond .eq 7, 3) := by decide +kernel
theorem dX9_port_70 : decode cX9_port 70 = .ok (.iconst 1, 1) := by decide +kernel
theorem dX9_port_71 : decode cX9_port 71 = .ok (.goto 4, 3) := by decide +kernel
theorem dX9_port_74 : decode cX9_port 74 = .ok (.iconst 0, 1) := by decide +kernel
theorem dX9_port_75 : decode cX9_port 75 = .ok (.ireturn, 1) := by decide +kernel
theorem dX9_port_76 : decode cX9_port 76 = .ok (.aload_n 0, 1) := by decide +kernel
theorem dX9_port_77 : decode cX9_port 77 = .ok (.getfield 10, 3) := by decide +kernel
theorem dX9_port_80 : decode cX9_port 80 = .ok (.getfield 47, 3) := by decide +kernel
theorem dX9_port_83 : decode cX9_port 83 = .ok (.iload_n 1, 1) := by decide +kernel
theorem dX9_port_84 : decode cX9_port 84 = .ok (.invokevirtual 176, 3) := by decide +kernel
theorem dX9_port_87 : decode cX9_port 87 = .ok (.ifCond .eq 7, 3) := by decide +kernel
theorem dX9_port_90 : decode cX9_port 90 = .ok (.iconst 1, 1) := by decide +kernel
theorem dX9_port_91 : decode cX9_port 91 = .ok (.goto 4, 3) := by decide +kernel
theorem dX9_port_94 : decode cX9_port 94 = .ok (.iconst 0, 1) := by decide +kernel
theorem dX9_port_95 : decode cX9_port 95 = .ok (.ireturn, 1) := by decide +kernel
theorem dX9_port_96 : decode cX9_port 96 = .ok (.aload_n 0, 1) := by decide +kernel
theorem dX9_port_97 : decode cX9_port 97 = .ok (.getfield 10, 3) := by decide +kernel
theorem dX9_port_100 : decode cX9_port 100 = .ok (.getfield 47, 3) := by decide +kernel
theorem dX9_port_103 : decode cX9_port 103 = .ok (.iload_n 1, 1) := by decide +kernel
theorem dX9_port_104 : decode cX9_port 104 = .ok (.invokevirtual 91, 3) := by decide +kernel
theorem dX9_port_107 : decode cX9_port 107 = .ok (.ireturn, 1) := by decide +kernel
theorem dX9_port_108 : decode cX9_port 108 = .ok (.aload_n 0, 1) := by decide +kernel
theorem dX9_port_109 : decode cX9_port 109 = .ok (.getfield 10, 3) := by decide +kernel
theorem dX9_port_112 : decode cX9_port 112 = .ok (.getfield 47, 3) := by decide +kernel
theorem dX9_port_115 : decode cX9_port 115 = .ok (.getfield 179, 3) := by decide +kernel
theorem dX9_port_118 : decode cX9_port 118 = .ok (.iload_n 1, 1) := by decide +kernel
theorem dX9_port_119 : decode cX9_port 119 = .ok (.invokevirtual 108, 3) := by decide +kernel
theorem dX9_port_122 : decode cX9_port 122 = .ok (.ireturn, 1) := by decide +kernel
theorem dX9_port_123 : decode cX9_port 123 = .ok (.aload_n 0, 1) := by decide +kernel
theorem dX9_port_124 : decode cX9_port 124 = .ok (.getfield 10, 3) := by decide +kernel
theorem dX9_port_127 : decode cX9_port 127 = .ok (.getfield 47, 3) := by decide +kernel
theorem dX9_port_130 : decode cX9_port 130 = .ok (.iload_n 1, 1) := by decide +kernel
theorem dX9_port_131 : decode cX9_port 131 = .ok (.invokevirtual 78, 3) := by decide +kernel
theorem dX9_port_134 : decode cX9_port 134 = .ok (.ireturn, 1) := by decide +kernel
theorem dX9_port_135 : decode cX9_port 135 = .ok (.aload_n 0, 1) := by decide +kernel
theorem dX9_port_136 : decode cX9_port 136 = .ok (.getfield 10, 3) := by decide +kernel
theorem dX9_port_139 : decode cX9_port 139 = .ok (.getfield 182, 3) := by decide +kernel
theorem dX9_port_142 : decode cX9_port 142 = .ok (.getfield 186, 3) := by decide +kernel
theorem dX9_port_145 : decode cX9_port 145 = .ok (.iload_n 1, 1) := by decide +kernel
theorem dX9_port_146 : decode cX9_port 146 = .ok (.invokevirtual 108, 3) := by decide +kernel
theorem dX9_port_149 : decode cX9_port 149 = .ok (.ireturn, 1) := by decide +kernel
theorem dX9_port_150 : decode cX9_port 150 = .ok (.aload_n 0, 1) := by decide +kernel
theorem dX9_port_151 : decode cX9_port 151 = .ok (.getfield 10, 3) := by decide +kernel
theorem dX9_port_154 : decode cX9_port 154 = .ok (.getfield 126, 3) := by decide +kernel
theorem dX9_port_157 : decode cX9_port 157 = .ok (.iload_n 1, 1) := by decide +kernel
theorem dX9_port_158 : decode cX9_port 158 = .ok (.invokevirtual 191, 3) := by decide +kernel
theorem dX9_port_161 : decode cX9_port 161 = .ok (.ireturn, 1) := by decide +kernel
theorem dX9_port_162 : decode cX9_port 162 = .ok (.aload_n 0, 1) := by decide +kernel
theorem dX9_port_163 : decode cX9_port 163 = .ok (.getfield 10, 3) := by decide +kernel
theorem dX9_port_166 : decode cX9_port 166 = .ok (.getfield 47, 3) := by decide +kernel
theorem dX9_port_169 : decode cX9_port 169 = .ok (.getfield 194, 3) := by decide +kernel
theorem dX9_port_172 : decode cX9_port 172 = .ok (.iload_n 1, 1) := by decide +kernel
theorem dX9_port_173 : decode cX9_port 173 = .ok (.invokevirtual 108, 3) := by decide +kernel
theorem dX9_port_176 : decode cX9_port 176 = .ok (.ireturn, 1) := by decide +kernel
theorem dX9_port_177 : decode cX9_port 177 = .ok (.bipush (-2), 2) := by decide +kernel
theorem dX9_port_179 : decode cX9_port 179 = .ok (.ireturn, 1) := by decide +kernel
theorem dX9_account_0 : decode cX9_account 0 = .ok (.iload_n 1, 1) := by decide +kernel
theorem dX9_account_1 : decode cX9_account 1 = .ok (.invokestatic 43, 3) := by decide +kernel
theorem dX9_account_4 : decode cX9_account 4 = .ok (.ifCond .ne 5, 3) := by decide +kernel
theorem dX9_account_7 : decode cX9_account 7 = .ok (.iconst (-1), 1) := by decide +kernel
theorem dX9_account_8 : decode cX9_account 8 = .ok (.ireturn, 1) := by decide +kernel
theorem dX9_account_9 : decode cX9_account 9 = .ok (.iload_n 2, 1) := by decide +kernel
theorem dX9_account_10 : decode cX9_account 10 = .ok (.ifCond .lt 9, 3) := by decide +kernel
theorem dX9_account_13 : decode cX9_account 13 = .ok (.iload_n 2, 1) := by decide +kernel
theorem dX9_account_14 : decode cX9_account 14 = .ok (.bipush 11, 2) := by decide +kernel
theorem dX9_account_16 : decode cX9_account 16 = .ok (.if_icmp .lt 6, 3) := by decide +kernel
theorem dX9_account_19 : decode cX9_account 19 = .ok (.bipush (-2), 2) := by decide +kernel
theorem dX9_account_21 : decode cX9_account 21 = .ok (.ireturn, 1) := by decide +kernel
theorem dX9_account_22 : decode cX9_account 22 = .ok (.aload_n 0, 1) := by decide +kernel
theorem dX9_account_23 : decode cX9_account 23 = .ok (.getfield 10, 3) := by decide +kernel
theorem dX9_account_26 : decode cX9_account 26 = .ok (.getfield 47, 3) := by decide +kernel
theorem dX9_account_29 : decode cX9_account 29 = .ok (.iload_n 1, 1) := by decide +kernel
theorem dX9_account_30 : decode cX9_account 30 = .ok (.iload_n 2, 1) := by decide +kernel
theorem dX9_account_31 : decode cX9_account 31 = .ok (.invokevirtual 197, 3) := by decide +kernel
theorem dX9_account_34 : decode cX9_account 34 = .ok (.ireturn, 1) := by decide +kernel
theorem dX9_entry_0 : decode cX9_entry 0 = .ok (.iload_n 1, 1) := by decide +kernel
theorem dX9_entry_1 : decode cX9_entry 1 = .ok (.ifCond .lt 12, 3) := by decide +kernel
theorem dX9_entry_4 : decode cX9_entry 4 = .ok (.iload_n 2, 1) := by decide +kernel
theorem dX9_entry_5 : decode cX9_entry 5 = .ok (.ifCond .lt 8, 3) := by decide +kernel
theorem dX9_entry_8 : decode cX9_entry 8 = .ok (.iload_n 2, 1) := by decide +kernel
theorem dX9_entry_9 : decode cX9_entry 9 = .ok (.iconst 3, 1) := by decide +kernel
theorem dX9_entry_10 : decode cX9_entry 10 = .ok (.if_icmp .le 6, 3) := by decide +kernel
theorem dX9_entry_13 : decode cX9_entry 13 = .ok (.bipush (-2), 2) := by decide +kernel
theorem dX9_entry_15 : decode cX9_entry 15 = .ok (.ireturn, 1) := by decide +kernel
theorem dX9_entry_16 : decode cX9_entry 16 = .ok (.iload_n 1, 1) := by decide +kernel
theorem dX9_entry_17 : decode cX9_entry 17 = .ok (.aload_n 0, 1) := by decide +kernel
theorem dX9_entry_18 : decode cX9_entry 18 = .ok (.getfield 10, 3) := by decide +kernel
theorem dX9_entry_21 : decode cX9_entry 21 = .ok (.getfield 126, 3) := by decide +kernel
theorem dX9_entry_24 : decode cX9_entry 24 = .ok (.getfield 201, 3) := by decide +kernel
theorem dX9_entry_27 : decode cX9_entry 27 = .ok (.if_icmp .lt 6, 3) := by decide +kernel
theorem dX9_entry_30 : decode cX9_entry 30 = .ok (.bipush (-4), 2) := by decide +kernel
theorem dX9_entry_32 : decode cX9_entry 32 = .ok (.ireturn, 1) := by decide +kernel
theorem dX9_entry_33 : decode cX9_entry 33 = .ok (.aload_n 0, 1) := by decide +kernel
theorem dX9_entry_34 : decode cX9_entry 34 = .ok (.getfield 10, 3) := by decide +kernel
theorem dX9_entry_37 : decode cX9_entry 37 = .ok (.getfield 126, 3) := by decide +kernel
theorem dX9_entry_40 : decode cX9_entry 40 = .ok (.iload_n 1, 1) := by decide +kernel
theorem dX9_entry_41 : decode cX9_entry 41 = .ok (.invokevirtual 202, 3) := by decide +kernel
theorem dX9_entry_44 : decode cX9_entry 44 = .ok (.istore_n 3, 1) := by decide +kernel
theorem dX9_entry_45 : decode cX9_entry 45 = .ok (.iload_n 2, 1) := by decide +kernel
theorem dX9_entry_46 : decode cX9_entry 46 = .ok (.tableswitch 63 0 2 #[26, 28, 40], 26) := by decide +kernel
theorem dX9_entry_72 : decode cX9_entry 72 = .ok (.iload_n 3, 1) := by decide +kernel
theorem dX9_entry_73 : decode cX9_entry 73 = .ok (.ireturn, 1) := by decide +kernel
theorem dX9_entry_74 : decode cX9_entry 74 = .ok (.aload_n 0, 1) := by decide +kernel
theorem dX9_entry_75 : decode cX9_entry 75 = .ok (.getfield 10, 3) := by decide +kernel
theorem dX9_entry_78 : decode cX9_entry 78 = .ok (.getfield 126, 3) := by decide +kernel
theorem dX9_entry_81 : decode cX9_entry 81 = .ok (.iload_n 3, 1) := by decide +kernel
theorem dX9_entry_82 : decode cX9_entry 82 = .ok (.invokevirtual 130, 3) := by decide +kernel
theorem dX9_entry_85 : decode cX9_entry 85 = .ok (.ireturn, 1) := by decide +kernel
theorem dX9_entry_86 : decode cX9_entry 86 = .ok (.aload_n 0, 1) := by decide +kernel
theorem dX9_entry_87 : decode cX9_entry 87 = .ok (.getfield 10, 3) := by decide +kernel
theorem dX9_entry_90 : decode cX9_entry 90 = .ok (.getfield 173, 3) := by decide +kernel
theorem dX9_entry_93 : decode cX9_entry 93 = .ok (.aload_n 0, 1) := by decide +kernel
theorem dX9_entry_94 : decode cX9_entry 94 = .ok (.getfield 10, 3) := by decide +kernel
theorem dX9_entry_97 : decode cX9_entry 97 = .ok (.getfield 126, 3) := by decide +kernel
theorem dX9_entry_100 : decode cX9_entry 100 = .ok (.getfield 205, 3) := by decide +kernel
theorem dX9_entry_103 : decode cX9_entry 103 = .ok (.iload_n 3, 1) := by decide +kernel
theorem dX9_entry_104 : decode cX9_entry 104 = .ok (.invokevirtual 108, 3) := by decide +kernel
theorem dX9_entry_107 : decode cX9_entry 107 = .ok (.isub, 1) := by decide +kernel
theorem dX9_entry_108 : decode cX9_entry 108 = .ok (.ireturn, 1) := by decide +kernel
theorem dX9_entry_109 : decode cX9_entry 109 = .ok (.aload_n 0, 1) := by decide +kernel
theorem dX9_entry_110 : decode cX9_entry 110 = .ok (.getfield 10, 3) := by decide +kernel
theorem dX9_entry_113 : decode cX9_entry 113 = .ok (.getfield 208, 3) := by decide +kernel
theorem dX9_entry_116 : decode cX9_entry 116 = .ok (.iload_n 3, 1) := by decide +kernel
theorem dX9_entry_117 : decode cX9_entry 117 = .ok (.invokevirtual 212, 3) := by decide +kernel
theorem dX9_entry_120 : decode cX9_entry 120 = .ok (.ireturn, 1) := by decide +kernel
theorem dX9_where_0 : decode cX9_where 0 = .ok (.iload_n 1, 1) := by decide +kernel
theorem dX9_where_1 : decode cX9_where 1 = .ok (.invokestatic 116, 3) := by decide +kernel
theorem dX9_where_4 : decode cX9_where 4 = .ok (.ifCond .ne 6, 3) := by decide +kernel
theorem dX9_where_7 : decode cX9_where 7 = .ok (.bipush (-2), 2) := by decide +kernel
theorem dX9_where_9 : decode cX9_where 9 = .ok (.ireturn, 1) := by decide +kernel
theorem dX9_where_10 : decode cX9_where 10 = .ok (.aload_n 0, 1) := by decide +kernel
theorem dX9_where_11 : decode cX9_where 11 = .ok (.getfield 10, 3) := by decide +kernel
theorem dX9_where_14 : decode cX9_where 14 = .ok (.getfield 126, 3) := by decide +kernel
theorem dX9_where_17 : decode cX9_where 17 = .ok (.iload_n 1, 1) := by decide +kernel
theorem dX9_where_18 : decode cX9_where 18 = .ok (.invokevirtual 130, 3) := by decide +kernel
theorem dX9_where_21 : decode cX9_where 21 = .ok (.ireturn, 1) := by decide +kernel
theorem dX9_queued_0 : decode cX9_queued 0 = .ok (.iload_n 1, 1) := by decide +kernel
theorem dX9_queued_1 : decode cX9_queued 1 = .ok (.invokestatic 43, 3) := by decide +kernel
theorem dX9_queued_4 : decode cX9_queued 4 = .ok (.ifCond .ne 5, 3) := by decide +kernel
theorem dX9_queued_7 : decode cX9_queued 7 = .ok (.iconst (-1), 1) := by decide +kernel
theorem dX9_queued_8 : decode cX9_queued 8 = .ok (.ireturn, 1) := by decide +kernel
theorem dX9_queued_9 : decode cX9_queued 9 = .ok (.iload_n 2, 1) := by decide +kernel
theorem dX9_queued_10 : decode cX9_queued 10 = .ok (.ifCond .lt 12, 3) := by decide +kernel
theorem dX9_queued_13 : decode cX9_queued 13 = .ok (.iload_n 3, 1) := by decide +kernel
theorem dX9_queued_14 : decode cX9_queued 14 = .ok (.ifCond .lt 8, 3) := by decide +kernel
theorem dX9_queued_17 : decode cX9_queued 17 = .ok (.iload_n 3, 1) := by decide +kernel
theorem dX9_queued_18 : decode cX9_queued 18 = .ok (.iconst 4, 1) := by decide +kernel
theorem dX9_queued_19 : decode cX9_queued 19 = .ok (.if_icmp .lt 6, 3) := by decide +kernel
theorem dX9_queued_22 : decode cX9_queued 22 = .ok (.bipush (-2), 2) := by decide +kernel
theorem dX9_queued_24 : decode cX9_queued 24 = .ok (.ireturn, 1) := by decide +kernel
theorem dX9_queued_25 : decode cX9_queued 25 = .ok (.iload_n 2, 1) := by decide +kernel
theorem dX9_queued_26 : decode cX9_queued 26 = .ok (.aload_n 0, 1) := by decide +kernel
theorem dX9_queued_27 : decode cX9_queued 27 = .ok (.getfield 10, 3) := by decide +kernel
theorem dX9_queued_30 : decode cX9_queued 30 = .ok (.getfield 182, 3) := by decide +kernel
theorem dX9_queued_33 : decode cX9_queued 33 = .ok (.getfield 186, 3) := by decide +kernel
theorem dX9_queued_36 : decode cX9_queued 36 = .ok (.iload_n 1, 1) := by decide +kernel
theorem dX9_queued_37 : decode cX9_queued 37 = .ok (.invokevirtual 108, 3) := by decide +kernel
theorem dX9_queued_40 : decode cX9_queued 40 = .ok (.if_icmp .lt 6, 3) := by decide +kernel
theorem dX9_queued_43 : decode cX9_queued 43 = .ok (.bipush (-4), 2) := by decide +kernel
theorem dX9_queued_45 : decode cX9_queued 45 = .ok (.ireturn, 1) := by decide +kernel
theorem dX9_queued_46 : decode cX9_queued 46 = .ok (.aload_n 0, 1) := by decide +kernel
theorem dX9_queued_47 : decode cX9_queued 47 = .ok (.getfield 10, 3) := by decide +kernel
theorem dX9_queued_50 : decode cX9_queued 50 = .ok (.getfield 182, 3) := by decide +kernel
theorem dX9_queued_53 : decode cX9_queued 53 = .ok (.iload_n 1, 1) := by decide +kernel
theorem dX9_queued_54 : decode cX9_queued 54 = .ok (.iload_n 2, 1) := by decide +kernel
theorem dX9_queued_55 : decode cX9_queued 55 = .ok (.iload_n 3, 1) := by decide +kernel
theorem dX9_queued_56 : decode cX9_queued 56 = .ok (.invokevirtual 217, 3) := by decide +kernel
theorem dX9_queued_59 : decode cX9_queued 59 = .ok (.ireturn, 1) := by decide +kernel
theorem dX9_wouldGo_0 : decode cX9_wouldGo 0 = .ok (.iload_n 1, 1) := by decide +kernel
theorem dX9_wouldGo_1 : decode cX9_wouldGo 1 = .ok (.invokestatic 43, 3) := by decide +kernel
theorem dX9_wouldGo_4 : decode cX9_wouldGo 4 = .ok (.ifCond .ne 5, 3) := by decide +kernel
theorem dX9_wouldGo_7 : decode cX9_wouldGo 7 = .ok (.iconst (-1), 1) := by decide +kernel
theorem dX9_wouldGo_8 : decode cX9_wouldGo 8 = .ok (.ireturn, 1) := by decide +kernel
theorem dX9_wouldGo_9 : decode cX9_wouldGo 9 = .ok (.iload_n 2, 1) := by decide +kernel
theorem dX9_wouldGo_10 : decode cX9_wouldGo 10 = .ok (.invokestatic 116, 3) := by decide +kernel
theorem dX9_wouldGo_13 : decode cX9_wouldGo 13 = .ok (.ifCond .eq 10, 3) := by decide +kernel
theorem dX9_wouldGo_16 : decode cX9_wouldGo 16 = .ok (.iload_n 3, 1) := by decide +kernel
theorem dX9_wouldGo_17 : decode cX9_wouldGo 17 = .ok (.invokestatic 119, 3) := by decide +kernel
theorem dX9_wouldGo_20 : decode cX9_wouldGo 20 = .ok (.ifCond .ne 6, 3) := by decide +kernel
theorem dX9_wouldGo_23 : decode cX9_wouldGo 23 = .ok (.bipush (-2), 2) := by decide +kernel
theorem dX9_wouldGo_25 : decode cX9_wouldGo 25 = .ok (.ireturn, 1) := by decide +kernel
theorem dX9_wouldGo_26 : decode cX9_wouldGo 26 = .ok (.aload_n 0, 1) := by decide +kernel
theorem dX9_wouldGo_27 : decode cX9_wouldGo 27 = .ok (.getfield 19, 3) := by decide +kernel
theorem dX9_wouldGo_30 : decode cX9_wouldGo 30 = .ok (.aload_n 0, 1) := by decide +kernel
theorem dX9_wouldGo_31 : decode cX9_wouldGo 31 = .ok (.getfield 10, 3) := by decide +kernel
theorem dX9_wouldGo_34 : decode cX9_wouldGo 34 = .ok (.invokevirtual 166, 3) := by decide +kernel
theorem dX9_wouldGo_37 : decode cX9_wouldGo 37 = .ok (.aload_n 0, 1) := by decide +kernel
theorem dX9_wouldGo_38 : decode cX9_wouldGo 38 = .ok (.getfield 19, 3) := by decide +kernel
theorem dX9_wouldGo_41 : decode cX9_wouldGo 41 = .ok (.iload_n 1, 1) := by decide +kernel
theorem dX9_wouldGo_42 : decode cX9_wouldGo 42 = .ok (.iload_n 2, 1) := by decide +kernel
theorem dX9_wouldGo_43 : decode cX9_wouldGo 43 = .ok (.iload_n 3, 1) := by decide +kernel
theorem dX9_wouldGo_44 : decode cX9_wouldGo 44 = .ok (.invokevirtual 221, 3) := by decide +kernel
theorem dX9_wouldGo_47 : decode cX9_wouldGo 47 = .ok (.istore 4, 2) := by decide +kernel
theorem dX9_wouldGo_49 : decode cX9_wouldGo 49 = .ok (.aload_n 0, 1) := by decide +kernel
theorem dX9_wouldGo_50 : decode cX9_wouldGo 50 = .ok (.getfield 19, 3) := by decide +kernel
theorem dX9_wouldGo_53 : decode cX9_wouldGo 53 = .ok (.iload 4, 2) := by decide +kernel
theorem dX9_wouldGo_55 : decode cX9_wouldGo 55 = .ok (.iload_n 1, 1) := by decide +kernel
theorem dX9_wouldGo_56 : decode cX9_wouldGo 56 = .ok (.iload_n 3, 1) := by decide +kernel
theorem dX9_wouldGo_57 : decode cX9_wouldGo 57 = .ok (.invokevirtual 224, 3) := by decide +kernel
theorem dX9_wouldGo_60 : decode cX9_wouldGo 60 = .ok (.ireturn, 1) := by decide +kernel
theorem dX9_loops_0 : decode cX9_loops 0 = .ok (.aload_n 0, 1) := by decide +kernel
theorem dX9_loops_1 : decode cX9_loops 1 = .ok (.getfield 10, 3) := by decide +kernel
theorem dX9_loops_4 : decode cX9_loops 4 = .ok (.getfield 47, 3) := by decide +kernel
theorem dX9_loops_7 : decode cX9_loops 7 = .ok (.invokevirtual 68, 3) := by decide +kernel
theorem dX9_loops_10 : decode cX9_loops 10 = .ok (.istore_n 1, 1) := by decide +kernel
theorem dX9_loops_11 : decode cX9_loops 11 = .ok (.iconst 0, 1) := by decide +kernel
theorem dX9_loops_12 : decode cX9_loops 12 = .ok (.istore_n 2, 1) := by decide +kernel
theorem dX9_loops_13 : decode cX9_loops 13 = .ok (.iconst 0, 1) := by decide +kernel
theorem dX9_loops_14 : decode cX9_loops 14 = .ok (.istore_n 3, 1) := by decide +kernel
theorem dX9_loops_15 : decode cX9_loops 15 = .ok (.iload_n 3, 1) := by decide +kernel
theorem dX9_loops_16 : decode cX9_loops 16 = .ok (.bipush 8, 2) := by decide +kernel
theorem dX9_loops_18 : decode cX9_loops 18 = .ok (.if_icmp .ge 54, 3) := by decide +kernel
theorem dX9_loops_21 : decode cX9_loops 21 = .ok (.aload_n 0, 1) := by decide +kernel
theorem dX9_loops_22 : decode cX9_loops 22 = .ok (.getfield 10, 3) := by decide +kernel
theorem dX9_loops_25 : decode cX9_loops 25 = .ok (.getfield 47, 3) := by decide +kernel
theorem dX9_loops_28 : decode cX9_loops 28 = .ok (.iload_n 3, 1) := by decide +kernel
theorem dX9_loops_29 : decode cX9_loops 29 = .ok (.invokevirtual 78, 3) := by decide +kernel
theorem dX9_loops_32 : decode cX9_loops 32 = .ok (.istore 4, 2) := by decide +kernel
theorem dX9_loops_34 : decode cX9_loops 34 = .ok (.iload 4, 2) := by decide +kernel
theorem dX9_loops_36 : decode cX9_loops 36 = .ok (.bipush (-4), 2) := by decide +kernel
theorem dX9_loops_38 : decode cX9_loops 38 = .ok (.if_icmp .eq 28, 3) := by decide +kernel
theorem dX9_loops_41 : decode cX9_loops 41 = .ok (.iload_n 1, 1) := by decide +kernel
theorem dX9_loops_42 : decode cX9_loops 42 = .ok (.iload_n 3, 1) := by decide +kernel
theorem dX9_loops_43 : decode cX9_loops 43 = .ok (.ishr, 1) := by decide +kernel
theorem dX9_loops_44 : decode cX9_loops 44 = .ok (.iconst 1, 1) := by decide +kernel
theorem dX9_loops_45 : decode cX9_loops 45 = .ok (.iand, 1) := by decide +kernel
theorem dX9_loops_46 : decode cX9_loops 46 = .ok (.iconst 1, 1) := by decide +kernel
theorem dX9_loops_47 : decode cX9_loops 47 = .ok (.if_icmp .ne 19, 3) := by decide +kernel
theorem dX9_loops_50 : decode cX9_loops 50 = .ok (.iload_n 1, 1) := by decide +kernel
theorem dX9_loops_51 : decode cX9_loops 51 = .ok (.iload 4, 2) := by decide +kernel
theorem dX9_loops_53 : decode cX9_loops 53 = .ok (.ishr, 1) := by decide +kernel
theorem dX9_loops_54 : decode cX9_loops 54 = .ok (.iconst 1, 1) := by decide +kernel
theorem dX9_loops_55 : decode cX9_loops 55 = .ok (.iand, 1) := by decide +kernel
theorem dX9_loops_56 : decode cX9_loops 56 = .ok (.iconst 1, 1) := by decide +kernel
theorem dX9_loops_57 : decode cX9_loops 57 = .ok (.if_icmp .ne 9, 3) := by decide +kernel
theorem dX9_loops_60 : decode cX9_loops 60 = .ok (.iload_n 2, 1) := by decide +kernel
theorem dX9_loops_61 : decode cX9_loops 61 = .ok (.iconst 1, 1) := by decide +kernel
theorem dX9_loops_62 : decode cX9_loops 62 = .ok (.iload_n 3, 1) := by decide +kernel
theorem dX9_loops_63 : decode cX9_loops 63 = .ok (.ishl, 1) := by decide +kernel
theorem dX9_loops_64 : decode cX9_loops 64 = .ok (.ior, 1) := by decide +kernel
theorem dX9_loops_65 : decode cX9_loops 65 = .ok (.istore_n 2, 1) := by decide +kernel
theorem dX9_loops_66 : decode cX9_loops 66 = .ok (.iinc 3 1, 3) := by decide +kernel
theorem dX9_loops_69 : decode cX9_loops 69 = .ok (.goto (-54), 3) := by decide +kernel
theorem dX9_loops_72 : decode cX9_loops 72 = .ok (.iload_n 2, 1) := by decide +kernel
theorem dX9_loops_73 : decode cX9_loops 73 = .ok (.ireturn, 1) := by decide +kernel
theorem dX9_count_0 : decode cX9_count 0 = .ok (.iload_n 1, 1) := by decide +kernel
theorem dX9_count_1 : decode cX9_count 1 = .ok (.tableswitch 199 0 14 #[75, 75, 75, 75, 87, 95, 106, 120, 131, 142, 156, 167, 175, 183, 191], 75) := by decide +kernel
theorem dX9_count_76 : decode cX9_count 76 = .ok (.aload_n 0, 1) := by decide +kernel
theorem dX9_count_77 : decode cX9_count 77 = .ok (.getfield 10, 3) := by decide +kernel
theorem dX9_count_80 : decode cX9_count 80 = .ok (.getfield 104, 3) := by decide +kernel
theorem dX9_count_83 : decode cX9_count 83 = .ok (.iload_n 1, 1) := by decide +kernel
theorem dX9_count_84 : decode cX9_count 84 = .ok (.invokevirtual 108, 3) := by decide +kernel
theorem dX9_count_87 : decode cX9_count 87 = .ok (.ireturn, 1) := by decide +kernel
theorem dX9_count_88 : decode cX9_count 88 = .ok (.aload_n 0, 1) := by decide +kernel
theorem dX9_count_89 : decode cX9_count 89 = .ok (.getfield 10, 3) := by decide +kernel
theorem dX9_count_92 : decode cX9_count 92 = .ok (.getfield 173, 3) := by decide +kernel
theorem dX9_count_95 : decode cX9_count 95 = .ok (.ireturn, 1) := by decide +kernel
theorem dX9_count_96 : decode cX9_count 96 = .ok (.aload_n 0, 1) := by decide +kernel
theorem dX9_count_97 : decode cX9_count 97 = .ok (.getfield 10, 3) := by decide +kernel
theorem dX9_count_100 : decode cX9_count 100 = .ok (.getfield 126, 3) := by decide +kernel
theorem dX9_count_103 : decode cX9_count 103 = .ok (.getfield 201, 3) := by decide +kernel
theorem dX9_count_106 : decode cX9_count 106 = .ok (.ireturn, 1) := by decide +kernel
theorem dX9_count_107 : decode cX9_count 107 = .ok (.aload_n 0, 1) := by decide +kernel
theorem dX9_count_108 : decode cX9_count 108 = .ok (.getfield 10, 3) := by decide +kernel
theorem dX9_count_111 : decode cX9_count 111 = .ok (.getfield 47, 3) := by decide +kernel
theorem dX9_count_114 : decode cX9_count 114 = .ok (.invokevirtual 68, 3) := by decide +kernel
theorem dX9_count_117 : decode cX9_count 117 = .ok (.invokestatic 72, 3) := by decide +kernel
theorem dX9_count_120 : decode cX9_count 120 = .ok (.ireturn, 1) := by decide +kernel
theorem dX9_count_121 : decode cX9_count 121 = .ok (.aload_n 0, 1) := by decide +kernel
theorem dX9_count_122 : decode cX9_count 122 = .ok (.getfield 10, 3) := by decide +kernel
theorem dX9_count_125 : decode cX9_count 125 = .ok (.getfield 47, 3) := by decide +kernel
theorem dX9_count_128 : decode cX9_count 128 = .ok (.invokevirtual 227, 3) := by decide +kernel
theorem dX9_count_131 : decode cX9_count 131 = .ok (.ireturn, 1) := by decide +kernel
theorem dX9_count_132 : decode cX9_count 132 = .ok (.aload_n 0, 1) := by decide +kernel
theorem dX9_count_133 : decode cX9_count 133 = .ok (.getfield 10, 3) := by decide +kernel
theorem dX9_count_136 : decode cX9_count 136 = .ok (.getfield 47, 3) := by decide +kernel
theorem dX9_count_139 : decode cX9_count 139 = .ok (.invokevirtual 85, 3) := by decide +kernel
theorem dX9_count_142 : decode cX9_count 142 = .ok (.ireturn, 1) := by decide +kernel
theorem dX9_count_143 : decode cX9_count 143 = .ok (.aload_n 0, 1) := by decide +kernel
theorem dX9_count_144 : decode cX9_count 144 = .ok (.getfield 10, 3) := by decide +kernel
theorem dX9_count_147 : decode cX9_count 147 = .ok (.getfield 182, 3) := by decide +kernel
theorem dX9_count_150 : decode cX9_count 150 = .ok (.getfield 186, 3) := by decide +kernel
theorem dX9_count_153 : decode cX9_count 153 = .ok (.invokevirtual 230, 3) := by decide +kernel
theorem dX9_count_156 : decode cX9_count 156 = .ok (.ireturn, 1) := by decide +kernel
theorem dX9_count_157 : decode cX9_count 157 = .ok (.aload_n 0, 1) := by decide +kernel
theorem dX9_count_158 : decode cX9_count 158 = .ok (.getfield 10, 3) := by decide +kernel
theorem dX9_count_161 : decode cX9_count 161 = .ok (.getfield 47, 3) := by decide +kernel
theorem dX9_count_164 : decode cX9_count 164 = .ok (.invokevirtual 233, 3) := by decide +kernel
theorem dX9_count_167 : decode cX9_count 167 = .ok (.ireturn, 1) := by decide +kernel
theorem dX9_count_168 : decode cX9_count 168 = .ok (.aload_n 0, 1) := by decide +kernel
theorem dX9_count_169 : decode cX9_count 169 = .ok (.getfield 10, 3) := by decide +kernel
theorem dX9_count_172 : decode cX9_count 172 = .ok (.getfield 236, 3) := by decide +kernel
theorem dX9_count_175 : decode cX9_count 175 = .ok (.ireturn, 1) := by decide +kernel
theorem dX9_count_176 : decode cX9_count 176 = .ok (.aload_n 0, 1) := by decide +kernel
theorem dX9_count_177 : decode cX9_count 177 = .ok (.getfield 10, 3) := by decide +kernel
theorem dX9_count_180 : decode cX9_count 180 = .ok (.getfield 239, 3) := by decide +kernel
theorem dX9_count_183 : decode cX9_count 183 = .ok (.ireturn, 1) := by decide +kernel
theorem dX9_count_184 : decode cX9_count 184 = .ok (.aload_n 0, 1) := by decide +kernel
theorem dX9_count_185 : decode cX9_count 185 = .ok (.getfield 25, 3) := by decide +kernel
theorem dX9_count_188 : decode cX9_count 188 = .ok (.getfield 163, 3) := by decide +kernel
theorem dX9_count_191 : decode cX9_count 191 = .ok (.ireturn, 1) := by decide +kernel
theorem dX9_count_192 : decode cX9_count 192 = .ok (.aload_n 0, 1) := by decide +kernel
theorem dX9_count_193 : decode cX9_count 193 = .ok (.getfield 32, 3) := by decide +kernel
theorem dX9_count_196 : decode cX9_count 196 = .ok (.getfield 152, 3) := by decide +kernel
theorem dX9_count_199 : decode cX9_count 199 = .ok (.ireturn, 1) := by decide +kernel
theorem dX9_count_200 : decode cX9_count 200 = .ok (.bipush (-2), 2) := by decide +kernel
theorem dX9_count_202 : decode cX9_count 202 = .ok (.ireturn, 1) := by decide +kernel
theorem dX9_isPort_0 : decode cX9_isPort 0 = .ok (.iload_n 0, 1) := by decide +kernel
theorem dX9_isPort_1 : decode cX9_isPort 1 = .ok (.ifCond .lt 13, 3) := by decide +kernel
theorem dX9_isPort_4 : decode cX9_isPort 4 = .ok (.iload_n 0, 1) := by decide +kernel
theorem dX9_isPort_5 : decode cX9_isPort 5 = .ok (.bipush 8, 2) := by decide +kernel
theorem dX9_isPort_7 : decode cX9_isPort 7 = .ok (.if_icmp .ge 7, 3) := by decide +kernel
theorem dX9_isPort_10 : decode cX9_isPort 10 = .ok (.iconst 1, 1) := by decide +kernel
theorem dX9_isPort_11 : decode cX9_isPort 11 = .ok (.goto 4, 3) := by decide +kernel
theorem dX9_isPort_14 : decode cX9_isPort 14 = .ok (.iconst 0, 1) := by decide +kernel
theorem dX9_isPort_15 : decode cX9_isPort 15 = .ok (.ireturn, 1) := by decide +kernel
theorem dX9_isAddress_0 : decode cX9_isAddress 0 = .ok (.iload_n 0, 1) := by decide +kernel
theorem dX9_isAddress_1 : decode cX9_isAddress 1 = .ok (.iconst 1, 1) := by decide +kernel
theorem dX9_isAddress_2 : decode cX9_isAddress 2 = .ok (.if_icmp .lt 13, 3) := by decide +kernel
theorem dX9_isAddress_5 : decode cX9_isAddress 5 = .ok (.iload_n 0, 1) := by decide +kernel
theorem dX9_isAddress_6 : decode cX9_isAddress 6 = .ok (.bipush 99, 2) := by decide +kernel
theorem dX9_isAddress_8 : decode cX9_isAddress 8 = .ok (.if_icmp .gt 7, 3) := by decide +kernel
theorem dX9_isAddress_11 : decode cX9_isAddress 11 = .ok (.iconst 1, 1) := by decide +kernel
theorem dX9_isAddress_12 : decode cX9_isAddress 12 = .ok (.goto 4, 3) := by decide +kernel
theorem dX9_isAddress_15 : decode cX9_isAddress 15 = .ok (.iconst 0, 1) := by decide +kernel
theorem dX9_isAddress_16 : decode cX9_isAddress 16 = .ok (.ireturn, 1) := by decide +kernel
theorem dX9_isDestination_0 : decode cX9_isDestination 0 = .ok (.iload_n 0, 1) := by decide +kernel
theorem dX9_isDestination_1 : decode cX9_isDestination 1 = .ok (.ifCond .eq 10, 3) := by decide +kernel
theorem dX9_isDestination_4 : decode cX9_isDestination 4 = .ok (.iload_n 0, 1) := by decide +kernel
theorem dX9_isDestination_5 : decode cX9_isDestination 5 = .ok (.invokestatic 116, 3) := by decide +kernel
theorem dX9_isDestination_8 : decode cX9_isDestination 8 = .ok (.ifCond .eq 7, 3) := by decide +kernel
theorem dX9_isDestination_11 : decode cX9_isDestination 11 = .ok (.iconst 1, 1) := by decide +kernel
theorem dX9_isDestination_12 : decode cX9_isDestination 12 = .ok (.goto 4, 3) := by decide +kernel
theorem dX9_isDestination_15 : decode cX9_isDestination 15 = .ok (.iconst 0, 1) := by decide +kernel
theorem dX9_isDestination_16 : decode cX9_isDestination 16 = .ok (.ireturn, 1) := by decide +kernel
theorem dX9_isSetting_0 : decode cX9_isSetting 0 = .ok (.iload_n 0, 1) := by decide +kernel
theorem dX9_isSetting_1 : decode cX9_isSetting 1 = .ok (.ifCond .lt 15, 3) := by decide +kernel
theorem dX9_isSetting_4 : decode cX9_isSetting 4 = .ok (.iload_n 0, 1) := by decide +kernel
theorem dX9_isSetting_5 : decode cX9_isSetting 5 = .ok (.getstatic 100, 3) := by decide +kernel
theorem dX9_isSetting_8 : decode cX9_isSetting 8 = .ok (.arraylength, 1) := by decide +kernel
theorem dX9_isSetting_9 : decode cX9_isSetting 9 = .ok (.if_icmp .ge 7, 3) := by decide +kernel
theorem dX9_isSetting_12 : decode cX9_isSetting 12 = .ok (.iconst 1, 1) := by decide +kernel
theorem dX9_isSetting_13 : decode cX9_isSetting 13 = .ok (.goto 4, 3) := by decide +kernel
theorem dX9_isSetting_16 : decode cX9_isSetting 16 = .ok (.iconst 0, 1) := by decide +kernel
theorem dX9_isSetting_17 : decode cX9_isSetting 17 = .ok (.ireturn, 1) := by decide +kernel
theorem dJ6_bitCount_0f7a4_0 : decode cJ6_bitCount_0f7a4 0 = .ok (.iload_n 0, 1) := by decide +kernel
theorem dJ6_bitCount_0f7a4_1 : decode cJ6_bitCount_0f7a4 1 = .ok (.iload_n 0, 1) := by decide +kernel
theorem dJ6_bitCount_0f7a4_2 : decode cJ6_bitCount_0f7a4 2 = .ok (.iconst 1, 1) := by decide +kernel
theorem dJ6_bitCount_0f7a4_3 : decode cJ6_bitCount_0f7a4 3 = .ok (.iushr, 1) := by decide +kernel
theorem dJ6_bitCount_0f7a4_4 : decode cJ6_bitCount_0f7a4 4 = .ok (.ldc_w 265, 3) := by decide +kernel
theorem dJ6_bitCount_0f7a4_7 : decode cJ6_bitCount_0f7a4 7 = .ok (.iand, 1) := by decide +kernel
theorem dJ6_bitCount_0f7a4_8 : decode cJ6_bitCount_0f7a4 8 = .ok (.isub, 1) := by decide +kernel
theorem dJ6_bitCount_0f7a4_9 : decode cJ6_bitCount_0f7a4 9 = .ok (.istore_n 0, 1) := by decide +kernel
theorem dJ6_bitCount_0f7a4_10 : decode cJ6_bitCount_0f7a4 10 = .ok (.iload_n 0, 1) := by decide +kernel
theorem dJ6_bitCount_0f7a4_11 : decode cJ6_bitCount_0f7a4 11 = .ok (.ldc_w 266, 3) := by decide +kernel
theorem dJ6_bitCount_0f7a4_14 : decode cJ6_bitCount_0f7a4 14 = .ok (.iand, 1) := by decide +kernel
theorem dJ6_bitCount_0f7a4_15 : decode cJ6_bitCount_0f7a4 15 = .ok (.iload_n 0, 1) := by decide +kernel
theorem dJ6_bitCount_0f7a4_16 : decode cJ6_bitCount_0f7a4 16 = .ok (.iconst 2, 1) := by decide +kernel
theorem dJ6_bitCount_0f7a4_17 : decode cJ6_bitCount_0f7a4 17 = .ok (.iushr, 1) := by decide +kernel
theorem dJ6_bitCount_0f7a4_18 : decode cJ6_bitCount_0f7a4 18 = .ok (.ldc_w 266, 3) := by decide +kernel
theorem dJ6_bitCount_0f7a4_21 : decode cJ6_bitCount_0f7a4 21 = .ok (.iand, 1) := by decide +kernel
theorem dJ6_bitCount_0f7a4_22 : decode cJ6_bitCount_0f7a4 22 = .ok (.iadd, 1) := by decide +kernel
theorem dJ6_bitCount_0f7a4_23 : decode cJ6_bitCount_0f7a4 23 = .ok (.istore_n 0, 1) := by decide +kernel
theorem dJ6_bitCount_0f7a4_24 : decode cJ6_bitCount_0f7a4 24 = .ok (.iload_n 0, 1) := by decide +kernel
theorem dJ6_bitCount_0f7a4_25 : decode cJ6_bitCount_0f7a4 25 = .ok (.iload_n 0, 1) := by decide +kernel
theorem dJ6_bitCount_0f7a4_26 : decode cJ6_bitCount_0f7a4 26 = .ok (.iconst 4, 1) := by decide +kernel
theorem dJ6_bitCount_0f7a4_27 : decode cJ6_bitCount_0f7a4 27 = .ok (.iushr, 1) := by decide +kernel
theorem dJ6_bitCount_0f7a4_28 : decode cJ6_bitCount_0f7a4 28 = .ok (.iadd, 1) := by decide +kernel
theorem dJ6_bitCount_0f7a4_29 : decode cJ6_bitCount_0f7a4 29 = .ok (.ldc_w 267, 3) := by decide +kernel
theorem dJ6_bitCount_0f7a4_32 : decode cJ6_bitCount_0f7a4 32 = .ok (.iand, 1) := by decide +kernel
theorem dJ6_bitCount_0f7a4_33 : decode cJ6_bitCount_0f7a4 33 = .ok (.istore_n 0, 1) := by decide +kernel
theorem dJ6_bitCount_0f7a4_34 : decode cJ6_bitCount_0f7a4 34 = .ok (.iload_n 0, 1) := by decide +kernel
theorem dJ6_bitCount_0f7a4_35 : decode cJ6_bitCount_0f7a4 35 = .ok (.iload_n 0, 1) := by decide +kernel
theorem dJ6_bitCount_0f7a4_36 : decode cJ6_bitCount_0f7a4 36 = .ok (.bipush 8, 2) := by decide +kernel
theorem dJ6_bitCount_0f7a4_38 : decode cJ6_bitCount_0f7a4 38 = .ok (.iushr, 1) := by decide +kernel
theorem dJ6_bitCount_0f7a4_39 : decode cJ6_bitCount_0f7a4 39 = .ok (.iadd, 1) := by decide +kernel
theorem dJ6_bitCount_0f7a4_40 : decode cJ6_bitCount_0f7a4 40 = .ok (.istore_n 0, 1) := by decide +kernel
theorem dJ6_bitCount_0f7a4_41 : decode cJ6_bitCount_0f7a4 41 = .ok (.iload_n 0, 1) := by decide +kernel
theorem dJ6_bitCount_0f7a4_42 : decode cJ6_bitCount_0f7a4 42 = .ok (.iload_n 0, 1) := by decide +kernel
theorem dJ6_bitCount_0f7a4_43 : decode cJ6_bitCount_0f7a4 43 = .ok (.bipush 16, 2) := by decide +kernel
theorem dJ6_bitCount_0f7a4_45 : decode cJ6_bitCount_0f7a4 45 = .ok (.iushr, 1) := by decide +kernel
theorem dJ6_bitCount_0f7a4_46 : decode cJ6_bitCount_0f7a4 46 = .ok (.iadd, 1) := by decide +kernel
theorem dJ6_bitCount_0f7a4_47 : decode cJ6_bitCount_0f7a4 47 = .ok (.istore_n 0, 1) := by decide +kernel
theorem dJ6_bitCount_0f7a4_48 : decode cJ6_bitCount_0f7a4 48 = .ok (.iload_n 0, 1) := by decide +kernel
theorem dJ6_bitCount_0f7a4_49 : decode cJ6_bitCount_0f7a4 49 = .ok (.bipush 63, 2) := by decide +kernel
theorem dJ6_bitCount_0f7a4_51 : decode cJ6_bitCount_0f7a4 51 = .ok (.iand, 1) := by decide +kernel
theorem dJ6_bitCount_0f7a4_52 : decode cJ6_bitCount_0f7a4 52 = .ok (.ireturn, 1) := by decide +kernel
theorem dJ9_max_7cf53_0 : decode cJ9_max_7cf53 0 = .ok (.iload_n 0, 1) := by decide +kernel
theorem dJ9_max_7cf53_1 : decode cJ9_max_7cf53 1 = .ok (.iload_n 1, 1) := by decide +kernel
theorem dJ9_max_7cf53_2 : decode cJ9_max_7cf53 2 = .ok (.if_icmp .lt 7, 3) := by decide +kernel
theorem dJ9_max_7cf53_5 : decode cJ9_max_7cf53 5 = .ok (.iload_n 0, 1) := by decide +kernel
theorem dJ9_max_7cf53_6 : decode cJ9_max_7cf53 6 = .ok (.goto 4, 3) := by decide +kernel
theorem dJ9_max_7cf53_9 : decode cJ9_max_7cf53 9 = .ok (.iload_n 1, 1) := by decide +kernel
theorem dJ9_max_7cf53_10 : decode cJ9_max_7cf53 10 = .ok (.ireturn, 1) := by decide +kernel
theorem dJ9_min_7cf53_0 : decode cJ9_min_7cf53 0 = .ok (.iload_n 0, 1) := by decide +kernel
theorem dJ9_min_7cf53_1 : decode cJ9_min_7cf53 1 = .ok (.iload_n 1, 1) := by decide +kernel
theorem dJ9_min_7cf53_2 : decode cJ9_min_7cf53 2 = .ok (.if_icmp .gt 7, 3) := by decide +kernel
theorem dJ9_min_7cf53_5 : decode cJ9_min_7cf53 5 = .ok (.iload_n 0, 1) := by decide +kernel
theorem dJ9_min_7cf53_6 : decode cJ9_min_7cf53 6 = .ok (.goto 4, 3) := by decide +kernel
theorem dJ9_min_7cf53_9 : decode cJ9_min_7cf53 9 = .ok (.iload_n 1, 1) := by decide +kernel
theorem dJ9_min_7cf53_10 : decode cJ9_min_7cf53 10 = .ok (.ireturn, 1) := by decide +kernel
theorem dJ7_rangeCheck_23922_0 : decode cJ7_rangeCheck_23922 0 = .ok (.iload_n 1, 1) := by decide +kernel
theorem dJ7_rangeCheck_23922_1 : decode cJ7_rangeCheck_23922 1 = .ok (.iload_n 2, 1) := by decide +kernel
theorem dJ7_rangeCheck_23922_2 : decode cJ7_rangeCheck_23922 2 = .ok (.if_icmp .le 44, 3) := by decide +kernel
theorem dJ7_rangeCheck_23922_5 : decode cJ7_rangeCheck_23922 5 = .ok (.new 43, 3) := by decide +kernel
theorem dJ7_rangeCheck_23922_8 : decode cJ7_rangeCheck_23922 8 = .ok (.dup, 1) := by decide +kernel
theorem dJ7_rangeCheck_23922_9 : decode cJ7_rangeCheck_23922 9 = .ok (.new 45, 3) := by decide +kernel
theorem dJ7_rangeCheck_23922_12 : decode cJ7_rangeCheck_23922 12 = .ok (.dup, 1) := by decide +kernel
theorem dJ7_rangeCheck_23922_13 : decode cJ7_rangeCheck_23922 13 = .ok (.invokespecial 47, 3) := by decide +kernel
theorem dJ7_rangeCheck_23922_16 : decode cJ7_rangeCheck_23922 16 = .ok (.ldc 48, 2) := by decide +kernel
theorem dJ7_rangeCheck_23922_18 : decode cJ7_rangeCheck_23922 18 = .ok (.invokevirtual 50, 3) := by decide +kernel
theorem dJ7_rangeCheck_23922_21 : decode cJ7_rangeCheck_23922 21 = .ok (.iload_n 1, 1) := by decide +kernel
theorem dJ7_rangeCheck_23922_22 : decode cJ7_rangeCheck_23922 22 = .ok (.invokevirtual 54, 3) := by decide +kernel
theorem dJ7_rangeCheck_23922_25 : decode cJ7_rangeCheck_23922 25 = .ok (.ldc 57, 2) := by decide +kernel
theorem dJ7_rangeCheck_23922_27 : decode cJ7_rangeCheck_23922 27 = .ok (.invokevirtual 50, 3) := by decide +kernel
theorem dJ7_rangeCheck_23922_30 : decode cJ7_rangeCheck_23922 30 = .ok (.iload_n 2, 1) := by decide +kernel
theorem dJ7_rangeCheck_23922_31 : decode cJ7_rangeCheck_23922 31 = .ok (.invokevirtual 54, 3) := by decide +kernel
theorem dJ7_rangeCheck_23922_34 : decode cJ7_rangeCheck_23922 34 = .ok (.ldc 59, 2) := by decide +kernel
theorem dJ7_rangeCheck_23922_36 : decode cJ7_rangeCheck_23922 36 = .ok (.invokevirtual 50, 3) := by decide +kernel
theorem dJ7_rangeCheck_23922_39 : decode cJ7_rangeCheck_23922 39 = .ok (.invokevirtual 61, 3) := by decide +kernel
theorem dJ7_rangeCheck_23922_42 : decode cJ7_rangeCheck_23922 42 = .ok (.invokespecial 65, 3) := by decide +kernel
theorem dJ7_rangeCheck_23922_45 : decode cJ7_rangeCheck_23922 45 = .ok (.athrow, 1) := by decide +kernel
theorem dJ7_rangeCheck_23922_46 : decode cJ7_rangeCheck_23922 46 = .ok (.iload_n 1, 1) := by decide +kernel
theorem dJ7_rangeCheck_23922_47 : decode cJ7_rangeCheck_23922 47 = .ok (.ifCond .ge 12, 3) := by decide +kernel
theorem dJ7_rangeCheck_23922_50 : decode cJ7_rangeCheck_23922 50 = .ok (.new 68, 3) := by decide +kernel
theorem dJ7_rangeCheck_23922_53 : decode cJ7_rangeCheck_23922 53 = .ok (.dup, 1) := by decide +kernel
theorem dJ7_rangeCheck_23922_54 : decode cJ7_rangeCheck_23922 54 = .ok (.iload_n 1, 1) := by decide +kernel
theorem dJ7_rangeCheck_23922_55 : decode cJ7_rangeCheck_23922 55 = .ok (.invokespecial 70, 3) := by decide +kernel
theorem dJ7_rangeCheck_23922_58 : decode cJ7_rangeCheck_23922 58 = .ok (.athrow, 1) := by decide +kernel
theorem dJ7_rangeCheck_23922_59 : decode cJ7_rangeCheck_23922 59 = .ok (.iload_n 2, 1) := by decide +kernel
theorem dJ7_rangeCheck_23922_60 : decode cJ7_rangeCheck_23922 60 = .ok (.iload_n 0, 1) := by decide +kernel
theorem dJ7_rangeCheck_23922_61 : decode cJ7_rangeCheck_23922 61 = .ok (.if_icmp .le 12, 3) := by decide +kernel
theorem dJ7_rangeCheck_23922_64 : decode cJ7_rangeCheck_23922 64 = .ok (.new 68, 3) := by decide +kernel
theorem dJ7_rangeCheck_23922_67 : decode cJ7_rangeCheck_23922 67 = .ok (.dup, 1) := by decide +kernel
theorem dJ7_rangeCheck_23922_68 : decode cJ7_rangeCheck_23922 68 = .ok (.iload_n 2, 1) := by decide +kernel
theorem dJ7_rangeCheck_23922_69 : decode cJ7_rangeCheck_23922 69 = .ok (.invokespecial 70, 3) := by decide +kernel
theorem dJ7_rangeCheck_23922_72 : decode cJ7_rangeCheck_23922 72 = .ok (.athrow, 1) := by decide +kernel
theorem dJ7_rangeCheck_23922_73 : decode cJ7_rangeCheck_23922 73 = .ok (.return_, 1) := by decide +kernel
theorem dJ7_fill_fda19_0 : decode cJ7_fill_fda19 0 = .ok (.aload_n 0, 1) := by decide +kernel
theorem dJ7_fill_fda19_1 : decode cJ7_fill_fda19 1 = .ok (.arraylength, 1) := by decide +kernel
theorem dJ7_fill_fda19_2 : decode cJ7_fill_fda19 2 = .ok (.iload_n 1, 1) := by decide +kernel
theorem dJ7_fill_fda19_3 : decode cJ7_fill_fda19 3 = .ok (.iload_n 2, 1) := by decide +kernel
theorem dJ7_fill_fda19_4 : decode cJ7_fill_fda19 4 = .ok (.invokestatic 13, 3) := by decide +kernel
theorem dJ7_fill_fda19_7 : decode cJ7_fill_fda19 7 = .ok (.iload_n 1, 1) := by decide +kernel
theorem dJ7_fill_fda19_8 : decode cJ7_fill_fda19 8 = .ok (.istore 4, 2) := by decide +kernel
theorem dJ7_fill_fda19_10 : decode cJ7_fill_fda19 10 = .ok (.iload 4, 2) := by decide +kernel
theorem dJ7_fill_fda19_12 : decode cJ7_fill_fda19 12 = .ok (.iload_n 2, 1) := by decide +kernel
theorem dJ7_fill_fda19_13 : decode cJ7_fill_fda19 13 = .ok (.if_icmp .ge 14, 3) := by decide +kernel
theorem dJ7_fill_fda19_16 : decode cJ7_fill_fda19 16 = .ok (.aload_n 0, 1) := by decide +kernel
theorem dJ7_fill_fda19_17 : decode cJ7_fill_fda19 17 = .ok (.iload 4, 2) := by decide +kernel
theorem dJ7_fill_fda19_19 : decode cJ7_fill_fda19 19 = .ok (.iload_n 3, 1) := by decide +kernel
theorem dJ7_fill_fda19_20 : decode cJ7_fill_fda19 20 = .ok (.iastore, 1) := by decide +kernel
theorem dJ7_fill_fda19_21 : decode cJ7_fill_fda19 21 = .ok (.iinc 4 1, 3) := by decide +kernel
theorem dJ7_fill_fda19_24 : decode cJ7_fill_fda19 24 = .ok (.goto (-14), 3) := by decide +kernel
theorem dJ7_fill_fda19_27 : decode cJ7_fill_fda19 27 = .ok (.return_, 1) := by decide +kernel
theorem dL_cell_0 : decode cL_cell 0 = .ok (.iload_n 1, 1) := by decide +kernel
theorem dL_cell_1 : decode cL_cell 1 = .ok (.aload_n 0, 1) := by decide +kernel
theorem dL_cell_2 : decode cL_cell 2 = .ok (.arraylength, 1) := by decide +kernel
theorem dL_cell_3 : decode cL_cell 3 = .ok (.if_icmp .ge 9, 3) := by decide +kernel
theorem dL_cell_6 : decode cL_cell 6 = .ok (.aload_n 0, 1) := by decide +kernel
theorem dL_cell_7 : decode cL_cell 7 = .ok (.iload_n 1, 1) := by decide +kernel
theorem dL_cell_8 : decode cL_cell 8 = .ok (.iaload, 1) := by decide +kernel
theorem dL_cell_9 : decode cL_cell 9 = .ok (.goto 11, 3) := by decide +kernel
theorem dL_cell_12 : decode cL_cell 12 = .ok (.ldc 7, 2) := by decide +kernel
theorem dL_cell_14 : decode cL_cell 14 = .ok (.iload_n 1, 1) := by decide +kernel
theorem dL_cell_15 : decode cL_cell 15 = .ok (.imul, 1) := by decide +kernel
theorem dL_cell_16 : decode cL_cell 16 = .ok (.sipush 1117, 3) := by decide +kernel
theorem dL_cell_19 : decode cL_cell 19 = .ok (.iadd, 1) := by decide +kernel
theorem dL_cell_20 : decode cL_cell 20 = .ok (.ireturn, 1) := by decide +kernel
theorem dL_low_0 : decode cL_low 0 = .ok (.iload_n 0, 1) := by decide +kernel
theorem dL_low_1 : decode cL_low 1 = .ok (.ldc 8, 2) := by decide +kernel
theorem dL_low_3 : decode cL_low 3 = .ok (.iand, 1) := by decide +kernel
theorem dL_low_4 : decode cL_low 4 = .ok (.iload_n 1, 1) := by decide +kernel
theorem dL_low_5 : decode cL_low 5 = .ok (.irem, 1) := by decide +kernel
theorem dL_low_6 : decode cL_low 6 = .ok (.ireturn, 1) := by decide +kernel
theorem dL_digest_0 : decode cL_digest 0 = .ok (.ldc2_w 9, 3) := by decide +kernel
theorem dL_digest_3 : decode cL_digest 3 = .ok (.lstore_n 1, 1) := by decide +kernel
theorem dL_digest_4 : decode cL_digest 4 = .ok (.iconst 0, 1) := by decide +kernel
theorem dL_digest_5 : decode cL_digest 5 = .ok (.istore_n 3, 1) := by decide +kernel
theorem dL_digest_6 : decode cL_digest 6 = .ok (.iload_n 3, 1) := by decide +kernel
theorem dL_digest_7 : decode cL_digest 7 = .ok (.bipush 13, 2) := by decide +kernel
theorem dL_digest_9 : decode cL_digest 9 = .ok (.if_icmp .ge 22, 3) := by decide +kernel
theorem dL_digest_12 : decode cL_digest 12 = .ok (.ldc2_w 11, 3) := by decide +kernel
theorem dL_digest_15 : decode cL_digest 15 = .ok (.lload_n 1, 1) := by decide +kernel
theorem dL_digest_16 : decode cL_digest 16 = .ok (.lmul, 1) := by decide +kernel
theorem dL_digest_17 : decode cL_digest 17 = .ok (.aload_n 0, 1) := by decide +kernel
theorem dL_digest_18 : decode cL_digest 18 = .ok (.iload_n 3, 1) := by decide +kernel
theorem dL_digest_19 : decode cL_digest 19 = .ok (.invokevirtual 13, 3) := by decide +kernel
theorem dL_digest_22 : decode cL_digest 22 = .ok (.i2l, 1) := by decide +kernel
theorem dL_digest_23 : decode cL_digest 23 = .ok (.ladd, 1) := by decide +kernel
theorem dL_digest_24 : decode cL_digest 24 = .ok (.lstore_n 1, 1) := by decide +kernel
theorem dL_digest_25 : decode cL_digest 25 = .ok (.iinc 3 1, 3) := by decide +kernel
theorem dL_digest_28 : decode cL_digest 28 = .ok (.goto (-22), 3) := by decide +kernel
theorem dL_digest_31 : decode cL_digest 31 = .ok (.iconst 0, 1) := by decide +kernel
theorem dL_digest_32 : decode cL_digest 32 = .ok (.istore_n 3, 1) := by decide +kernel
theorem dL_digest_33 : decode cL_digest 33 = .ok (.iload_n 3, 1) := by decide +kernel
theorem dL_digest_34 : decode cL_digest 34 = .ok (.bipush 8, 2) := by decide +kernel
theorem dL_digest_36 : decode cL_digest 36 = .ok (.if_icmp .ge 149, 3) := by decide +kernel
theorem dL_digest_39 : decode cL_digest 39 = .ok (.iconst 0, 1) := by decide +kernel
theorem dL_digest_40 : decode cL_digest 40 = .ok (.istore 4, 2) := by decide +kernel
theorem dL_digest_42 : decode cL_digest 42 = .ok (.iload 4, 2) := by decide +kernel
theorem dL_digest_44 : decode cL_digest 44 = .ok (.bipush 8, 2) := by decide +kernel
theorem dL_digest_46 : decode cL_digest 46 = .ok (.if_icmp .ge 24, 3) := by decide +kernel
theorem dL_digest_49 : decode cL_digest 49 = .ok (.ldc2_w 11, 3) := by decide +kernel
theorem dL_digest_52 : decode cL_digest 52 = .ok (.lload_n 1, 1) := by decide +kernel
theorem dL_digest_53 : decode cL_digest 53 = .ok (.lmul, 1) := by decide +kernel
theorem dL_digest_54 : decode cL_digest 54 = .ok (.aload_n 0, 1) := by decide +kernel
theorem dL_digest_55 : decode cL_digest 55 = .ok (.iload_n 3, 1) := by decide +kernel
theorem dL_digest_56 : decode cL_digest 56 = .ok (.iload 4, 2) := by decide +kernel
theorem dL_digest_58 : decode cL_digest 58 = .ok (.invokevirtual 19, 3) := by decide +kernel
theorem dL_digest_61 : decode cL_digest 61 = .ok (.i2l, 1) := by decide +kernel
theorem dL_digest_62 : decode cL_digest 62 = .ok (.ladd, 1) := by decide +kernel
theorem dL_digest_63 : decode cL_digest 63 = .ok (.lstore_n 1, 1) := by decide +kernel
theorem dL_digest_64 : decode cL_digest 64 = .ok (.iinc 4 1, 3) := by decide +kernel
theorem dL_digest_67 : decode cL_digest 67 = .ok (.goto (-25), 3) := by decide +kernel
theorem dL_digest_70 : decode cL_digest 70 = .ok (.iconst 0, 1) := by decide +kernel
theorem dL_digest_71 : decode cL_digest 71 = .ok (.istore 4, 2) := by decide +kernel
theorem dL_digest_73 : decode cL_digest 73 = .ok (.iload 4, 2) := by decide +kernel
theorem dL_digest_75 : decode cL_digest 75 = .ok (.bipush 11, 2) := by decide +kernel
theorem dL_digest_77 : decode cL_digest 77 = .ok (.if_icmp .ge 24, 3) := by decide +kernel
theorem dL_digest_80 : decode cL_digest 80 = .ok (.ldc2_w 11, 3) := by decide +kernel
theorem dL_digest_83 : decode cL_digest 83 = .ok (.lload_n 1, 1) := by decide +kernel
theorem dL_digest_84 : decode cL_digest 84 = .ok (.lmul, 1) := by decide +kernel
theorem dL_digest_85 : decode cL_digest 85 = .ok (.aload_n 0, 1) := by decide +kernel
theorem dL_digest_86 : decode cL_digest 86 = .ok (.iload_n 3, 1) := by decide +kernel
theorem dL_digest_87 : decode cL_digest 87 = .ok (.iload 4, 2) := by decide +kernel
theorem dL_digest_89 : decode cL_digest 89 = .ok (.invokevirtual 23, 3) := by decide +kernel
theorem dL_digest_92 : decode cL_digest 92 = .ok (.i2l, 1) := by decide +kernel
theorem dL_digest_93 : decode cL_digest 93 = .ok (.ladd, 1) := by decide +kernel
theorem dL_digest_94 : decode cL_digest 94 = .ok (.lstore_n 1, 1) := by decide +kernel
theorem dL_digest_95 : decode cL_digest 95 = .ok (.iinc 4 1, 3) := by decide +kernel
theorem dL_digest_98 : decode cL_digest 98 = .ok (.goto (-25), 3) := by decide +kernel
theorem dL_digest_101 : decode cL_digest 101 = .ok (.iconst 0, 1) := by decide +kernel
theorem dL_digest_102 : decode cL_digest 102 = .ok (.istore 4, 2) := by decide +kernel
theorem dL_digest_104 : decode cL_digest 104 = .ok (.iload 4, 2) := by decide +kernel
theorem dL_digest_106 : decode cL_digest 106 = .ok (.aload_n 0, 1) := by decide +kernel
theorem dL_digest_107 : decode cL_digest 107 = .ok (.iload_n 3, 1) := by decide +kernel
theorem dL_digest_108 : decode cL_digest 108 = .ok (.iconst 5, 1) := by decide +kernel
theorem dL_digest_109 : decode cL_digest 109 = .ok (.invokevirtual 19, 3) := by decide +kernel
theorem dL_digest_112 : decode cL_digest 112 = .ok (.if_icmp .ge 67, 3) := by decide +kernel
theorem dL_digest_115 : decode cL_digest 115 = .ok (.ldc2_w 11, 3) := by decide +kernel
theorem dL_digest_118 : decode cL_digest 118 = .ok (.lload_n 1, 1) := by decide +kernel
theorem dL_digest_119 : decode cL_digest 119 = .ok (.lmul, 1) := by decide +kernel
theorem dL_digest_120 : decode cL_digest 120 = .ok (.ldc2_w 26, 3) := by decide +kernel
theorem dL_digest_123 : decode cL_digest 123 = .ok (.aload_n 0, 1) := by decide +kernel
theorem dL_digest_124 : decode cL_digest 124 = .ok (.iload_n 3, 1) := by decide +kernel
theorem dL_digest_125 : decode cL_digest 125 = .ok (.iload 4, 2) := by decide +kernel
theorem dL_digest_127 : decode cL_digest 127 = .ok (.iconst 0, 1) := by decide +kernel
theorem dL_digest_128 : decode cL_digest 128 = .ok (.invokevirtual 28, 3) := by decide +kernel
theorem dL_digest_131 : decode cL_digest 131 = .ok (.i2l, 1) := by decide +kernel
theorem dL_digest_132 : decode cL_digest 132 = .ok (.lmul, 1) := by decide +kernel
theorem dL_digest_133 : decode cL_digest 133 = .ok (.ladd, 1) := by decide +kernel
theorem dL_digest_134 : decode cL_digest 134 = .ok (.ldc2_w 32, 3) := by decide +kernel
theorem dL_digest_137 : decode cL_digest 137 = .ok (.aload_n 0, 1) := by decide +kernel
theorem dL_digest_138 : decode cL_digest 138 = .ok (.iload_n 3, 1) := by decide +kernel
theorem dL_digest_139 : decode cL_digest 139 = .ok (.iload 4, 2) := by decide +kernel
theorem dL_digest_141 : decode cL_digest 141 = .ok (.iconst 1, 1) := by decide +kernel
theorem dL_digest_142 : decode cL_digest 142 = .ok (.invokevirtual 28, 3) := by decide +kernel
theorem dL_digest_145 : decode cL_digest 145 = .ok (.i2l, 1) := by decide +kernel
theorem dL_digest_146 : decode cL_digest 146 = .ok (.lmul, 1) := by decide +kernel
theorem dL_digest_147 : decode cL_digest 147 = .ok (.ladd, 1) := by decide +kernel
theorem dL_digest_148 : decode cL_digest 148 = .ok (.ldc2_w 34, 3) := by decide +kernel
theorem dL_digest_151 : decode cL_digest 151 = .ok (.aload_n 0, 1) := by decide +kernel
theorem dL_digest_152 : decode cL_digest 152 = .ok (.iload_n 3, 1) := by decide +kernel
theorem dL_digest_153 : decode cL_digest 153 = .ok (.iload 4, 2) := by decide +kernel
theorem dL_digest_155 : decode cL_digest 155 = .ok (.iconst 2, 1) := by decide +kernel
theorem dL_digest_156 : decode cL_digest 156 = .ok (.invokevirtual 28, 3) := by decide +kernel
theorem dL_digest_159 : decode cL_digest 159 = .ok (.i2l, 1) := by decide +kernel
theorem dL_digest_160 : decode cL_digest 160 = .ok (.lmul, 1) := by decide +kernel
theorem dL_digest_161 : decode cL_digest 161 = .ok (.ladd, 1) := by decide +kernel
theorem dL_digest_162 : decode cL_digest 162 = .ok (.aload_n 0, 1) := by decide +kernel
theorem dL_digest_163 : decode cL_digest 163 = .ok (.iload_n 3, 1) := by decide +kernel
theorem dL_digest_164 : decode cL_digest 164 = .ok (.iload 4, 2) := by decide +kernel
theorem dL_digest_166 : decode cL_digest 166 = .ok (.iconst 3, 1) := by decide +kernel
theorem dL_digest_167 : decode cL_digest 167 = .ok (.invokevirtual 28, 3) := by decide +kernel
theorem dL_digest_170 : decode cL_digest 170 = .ok (.i2l, 1) := by decide +kernel
theorem dL_digest_171 : decode cL_digest 171 = .ok (.ladd, 1) := by decide +kernel
theorem dL_digest_172 : decode cL_digest 172 = .ok (.lstore_n 1, 1) := by decide +kernel
theorem dL_digest_173 : decode cL_digest 173 = .ok (.iinc 4 1, 3) := by decide +kernel
theorem dL_digest_176 : decode cL_digest 176 = .ok (.goto (-72), 3) := by decide +kernel
theorem dL_digest_179 : decode cL_digest 179 = .ok (.iinc 3 1, 3) := by decide +kernel
theorem dL_digest_182 : decode cL_digest 182 = .ok (.goto (-149), 3) := by decide +kernel
theorem dL_digest_185 : decode cL_digest 185 = .ok (.iconst 0, 1) := by decide +kernel
theorem dL_digest_186 : decode cL_digest 186 = .ok (.istore_n 3, 1) := by decide +kernel
theorem dL_digest_187 : decode cL_digest 187 = .ok (.iload_n 3, 1) := by decide +kernel
theorem dL_digest_188 : decode cL_digest 188 = .ok (.aload_n 0, 1) := by decide +kernel
theorem dL_digest_189 : decode cL_digest 189 = .ok (.iconst 5, 1) := by decide +kernel
theorem dL_digest_190 : decode cL_digest 190 = .ok (.invokevirtual 13, 3) := by decide +kernel
theorem dL_digest_193 : decode cL_digest 193 = .ok (.if_icmp .ge 59, 3) := by decide +kernel
theorem dL_digest_196 : decode cL_digest 196 = .ok (.ldc2_w 11, 3) := by decide +kernel
theorem dL_digest_199 : decode cL_digest 199 = .ok (.lload_n 1, 1) := by decide +kernel
theorem dL_digest_200 : decode cL_digest 200 = .ok (.lmul, 1) := by decide +kernel
theorem dL_digest_201 : decode cL_digest 201 = .ok (.ldc2_w 26, 3) := by decide +kernel
theorem dL_digest_204 : decode cL_digest 204 = .ok (.aload_n 0, 1) := by decide +kernel
theorem dL_digest_205 : decode cL_digest 205 = .ok (.iload_n 3, 1) := by decide +kernel
theorem dL_digest_206 : decode cL_digest 206 = .ok (.iconst 0, 1) := by decide +kernel
theorem dL_digest_207 : decode cL_digest 207 = .ok (.invokevirtual 36, 3) := by decide +kernel
theorem dL_digest_210 : decode cL_digest 210 = .ok (.i2l, 1) := by decide +kernel
theorem dL_digest_211 : decode cL_digest 211 = .ok (.lmul, 1) := by decide +kernel
theorem dL_digest_212 : decode cL_digest 212 = .ok (.ladd, 1) := by decide +kernel
theorem dL_digest_213 : decode cL_digest 213 = .ok (.ldc2_w 32, 3) := by decide +kernel
theorem dL_digest_216 : decode cL_digest 216 = .ok (.aload_n 0, 1) := by decide +kernel
theorem dL_digest_217 : decode cL_digest 217 = .ok (.iload_n 3, 1) := by decide +kernel
theorem dL_digest_218 : decode cL_digest 218 = .ok (.iconst 1, 1) := by decide +kernel
theorem dL_digest_219 : decode cL_digest 219 = .ok (.invokevirtual 36, 3) := by decide +kernel
theorem dL_digest_222 : decode cL_digest 222 = .ok (.i2l, 1) := by decide +kernel
theorem dL_digest_223 : decode cL_digest 223 = .ok (.lmul, 1) := by decide +kernel
theorem dL_digest_224 : decode cL_digest 224 = .ok (.ladd, 1) := by decide +kernel
theorem dL_digest_225 : decode cL_digest 225 = .ok (.ldc2_w 34, 3) := by decide +kernel
theorem dL_digest_228 : decode cL_digest 228 = .ok (.aload_n 0, 1) := by decide +kernel
theorem dL_digest_229 : decode cL_digest 229 = .ok (.iload_n 3, 1) := by decide +kernel
theorem dL_digest_230 : decode cL_digest 230 = .ok (.iconst 2, 1) := by decide +kernel
theorem dL_digest_231 : decode cL_digest 231 = .ok (.invokevirtual 36, 3) := by decide +kernel
theorem dL_digest_234 : decode cL_digest 234 = .ok (.i2l, 1) := by decide +kernel
theorem dL_digest_235 : decode cL_digest 235 = .ok (.lmul, 1) := by decide +kernel
theorem dL_digest_236 : decode cL_digest 236 = .ok (.ladd, 1) := by decide +kernel
theorem dL_digest_237 : decode cL_digest 237 = .ok (.aload_n 0, 1) := by decide +kernel
theorem dL_digest_238 : decode cL_digest 238 = .ok (.iload_n 3, 1) := by decide +kernel
theorem dL_digest_239 : decode cL_digest 239 = .ok (.iconst 3, 1) := by decide +kernel
theorem dL_digest_240 : decode cL_digest 240 = .ok (.invokevirtual 36, 3) := by decide +kernel
theorem dL_digest_243 : decode cL_digest 243 = .ok (.i2l, 1) := by decide +kernel
theorem dL_digest_244 : decode cL_digest 244 = .ok (.ladd, 1) := by decide +kernel
theorem dL_digest_245 : decode cL_digest 245 = .ok (.lstore_n 1, 1) := by decide +kernel
theorem dL_digest_246 : decode cL_digest 246 = .ok (.iinc 3 1, 3) := by decide +kernel
theorem dL_digest_249 : decode cL_digest 249 = .ok (.goto (-62), 3) := by decide +kernel
theorem dL_digest_252 : decode cL_digest 252 = .ok (.lload_n 1, 1) := by decide +kernel
theorem dL_digest_253 : decode cL_digest 253 = .ok (.lreturn, 1) := by decide +kernel
theorem dL_openSet_0 : decode cL_openSet 0 = .ok (.iconst 0, 1) := by decide +kernel
theorem dL_openSet_1 : decode cL_openSet 1 = .ok (.istore_n 1, 1) := by decide +kernel
theorem dL_openSet_2 : decode cL_openSet 2 = .ok (.iconst 0, 1) := by decide +kernel
theorem dL_openSet_3 : decode cL_openSet 3 = .ok (.istore_n 2, 1) := by decide +kernel
theorem dL_openSet_4 : decode cL_openSet 4 = .ok (.iload_n 2, 1) := by decide +kernel
theorem dL_openSet_5 : decode cL_openSet 5 = .ok (.bipush 8, 2) := by decide +kernel
theorem dL_openSet_7 : decode cL_openSet 7 = .ok (.if_icmp .ge 20, 3) := by decide +kernel
theorem dL_openSet_10 : decode cL_openSet 10 = .ok (.iload_n 1, 1) := by decide +kernel
theorem dL_openSet_11 : decode cL_openSet 11 = .ok (.aload_n 0, 1) := by decide +kernel
theorem dL_openSet_12 : decode cL_openSet 12 = .ok (.iload_n 2, 1) := by decide +kernel
theorem dL_openSet_13 : decode cL_openSet 13 = .ok (.iconst 1, 1) := by decide +kernel
theorem dL_openSet_14 : decode cL_openSet 14 = .ok (.invokevirtual 19, 3) := by decide +kernel
theorem dL_openSet_17 : decode cL_openSet 17 = .ok (.iload_n 2, 1) := by decide +kernel
theorem dL_openSet_18 : decode cL_openSet 18 = .ok (.ishl, 1) := by decide +kernel
theorem dL_openSet_19 : decode cL_openSet 19 = .ok (.ior, 1) := by decide +kernel
theorem dL_openSet_20 : decode cL_openSet 20 = .ok (.istore_n 1, 1) := by decide +kernel
theorem dL_openSet_21 : decode cL_openSet 21 = .ok (.iinc 2 1, 3) := by decide +kernel
theorem dL_openSet_24 : decode cL_openSet 24 = .ok (.goto (-20), 3) := by decide +kernel
theorem dL_openSet_27 : decode cL_openSet 27 = .ok (.iload_n 1, 1) := by decide +kernel
theorem dL_openSet_28 : decode cL_openSet 28 = .ok (.ireturn, 1) := by decide +kernel
theorem dL_ports_0 : decode cL_ports 0 = .ok (.iconst 0, 1) := by decide +kernel
theorem dL_ports_1 : decode cL_ports 1 = .ok (.istore_n 2, 1) := by decide +kernel
theorem dL_ports_2 : decode cL_ports 2 = .ok (.iconst 1, 1) := by decide +kernel
theorem dL_ports_3 : decode cL_ports 3 = .ok (.istore_n 3, 1) := by decide +kernel
theorem dL_ports_4 : decode cL_ports 4 = .ok (.iload_n 3, 1) := by decide +kernel
theorem dL_ports_5 : decode cL_ports 5 = .ok (.bipush 7, 2) := by decide +kernel
theorem dL_ports_7 : decode cL_ports 7 = .ok (.if_icmp .ge 18, 3) := by decide +kernel
theorem dL_ports_10 : decode cL_ports 10 = .ok (.iload_n 2, 1) := by decide +kernel
theorem dL_ports_11 : decode cL_ports 11 = .ok (.aload_n 0, 1) := by decide +kernel
theorem dL_ports_12 : decode cL_ports 12 = .ok (.iload_n 1, 1) := by decide +kernel
theorem dL_ports_13 : decode cL_ports 13 = .ok (.iload_n 3, 1) := by decide +kernel
theorem dL_ports_14 : decode cL_ports 14 = .ok (.invokevirtual 23, 3) := by decide +kernel
theorem dL_ports_17 : decode cL_ports 17 = .ok (.iadd, 1) := by decide +kernel
theorem dL_ports_18 : decode cL_ports 18 = .ok (.istore_n 2, 1) := by decide +kernel
theorem dL_ports_19 : decode cL_ports 19 = .ok (.iinc 3 1, 3) := by decide +kernel
theorem dL_ports_22 : decode cL_ports 22 = .ok (.goto (-18), 3) := by decide +kernel
theorem dL_ports_25 : decode cL_ports 25 = .ok (.aload_n 0, 1) := by decide +kernel
theorem dL_ports_26 : decode cL_ports 26 = .ok (.iload_n 1, 1) := by decide +kernel
theorem dL_ports_27 : decode cL_ports 27 = .ok (.iconst 5, 1) := by decide +kernel
theorem dL_ports_28 : decode cL_ports 28 = .ok (.invokevirtual 19, 3) := by decide +kernel
theorem dL_ports_31 : decode cL_ports 31 = .ok (.istore_n 3, 1) := by decide +kernel
theorem dL_ports_32 : decode cL_ports 32 = .ok (.aload_n 0, 1) := by decide +kernel
theorem dL_ports_33 : decode cL_ports 33 = .ok (.iload_n 1, 1) := by decide +kernel
theorem dL_ports_34 : decode cL_ports 34 = .ok (.bipush 7, 2) := by decide +kernel
theorem dL_ports_36 : decode cL_ports 36 = .ok (.invokevirtual 23, 3) := by decide +kernel
theorem dL_ports_39 : decode cL_ports 39 = .ok (.aload_n 0, 1) := by decide +kernel
theorem dL_ports_40 : decode cL_ports 40 = .ok (.iload_n 1, 1) := by decide +kernel
theorem dL_ports_41 : decode cL_ports 41 = .ok (.bipush 9, 2) := by decide +kernel
theorem dL_ports_43 : decode cL_ports 43 = .ok (.invokevirtual 23, 3) := by decide +kernel
theorem dL_ports_46 : decode cL_ports 46 = .ok (.isub, 1) := by decide +kernel
theorem dL_ports_47 : decode cL_ports 47 = .ok (.iload_n 3, 1) := by decide +kernel
theorem dL_ports_48 : decode cL_ports 48 = .ok (.isub, 1) := by decide +kernel
theorem dL_ports_49 : decode cL_ports 49 = .ok (.istore 4, 2) := by decide +kernel
theorem dL_ports_51 : decode cL_ports 51 = .ok (.iload_n 2, 1) := by decide +kernel
theorem dL_ports_52 : decode cL_ports 52 = .ok (.aload_n 0, 1) := by decide +kernel
theorem dL_ports_53 : decode cL_ports 53 = .ok (.iload_n 1, 1) := by decide +kernel
theorem dL_ports_54 : decode cL_ports 54 = .ok (.iconst 0, 1) := by decide +kernel
theorem dL_ports_55 : decode cL_ports 55 = .ok (.invokevirtual 23, 3) := by decide +kernel
theorem dL_ports_58 : decode cL_ports 58 = .ok (.if_icmp .ne 55, 3) := by decide +kernel
theorem dL_ports_61 : decode cL_ports 61 = .ok (.iload 4, 2) := by decide +kernel
theorem dL_ports_63 : decode cL_ports 63 = .ok (.ifCond .lt 50, 3) := by decide +kernel
theorem dL_ports_66 : decode cL_ports 66 = .ok (.iload 4, 2) := by decide +kernel
theorem dL_ports_68 : decode cL_ports 68 = .ok (.aload_n 0, 1) := by decide +kernel
theorem dL_ports_69 : decode cL_ports 69 = .ok (.iload_n 1, 1) := by decide +kernel
theorem dL_ports_70 : decode cL_ports 70 = .ok (.bipush 8, 2) := by decide +kernel
theorem dL_ports_72 : decode cL_ports 72 = .ok (.invokevirtual 23, 3) := by decide +kernel
theorem dL_ports_75 : decode cL_ports 75 = .ok (.if_icmp .gt 38, 3) := by decide +kernel
theorem dL_ports_78 : decode cL_ports 78 = .ok (.iload_n 3, 1) := by decide +kernel
theorem dL_ports_79 : decode cL_ports 79 = .ok (.bipush 12, 2) := by decide +kernel
theorem dL_ports_81 : decode cL_ports 81 = .ok (.if_icmp .gt 32, 3) := by decide +kernel
theorem dL_ports_84 : decode cL_ports 84 = .ok (.aload_n 0, 1) := by decide +kernel
theorem dL_ports_85 : decode cL_ports 85 = .ok (.iload_n 1, 1) := by decide +kernel
theorem dL_ports_86 : decode cL_ports 86 = .ok (.bipush 10, 2) := by decide +kernel
theorem dL_ports_88 : decode cL_ports 88 = .ok (.invokevirtual 23, 3) := by decide +kernel
theorem dL_ports_91 : decode cL_ports 91 = .ok (.aload_n 0, 1) := by decide +kernel
theorem dL_ports_92 : decode cL_ports 92 = .ok (.iload_n 1, 1) := by decide +kernel
theorem dL_ports_93 : decode cL_ports 93 = .ok (.bipush 9, 2) := by decide +kernel
theorem dL_ports_95 : decode cL_ports 95 = .ok (.invokevirtual 23, 3) := by decide +kernel
theorem dL_ports_98 : decode cL_ports 98 = .ok (.if_icmp .gt 15, 3) := by decide +kernel
theorem dL_ports_101 : decode cL_ports 101 = .ok (.aload_n 0, 1) := by decide +kernel
theorem dL_ports_102 : decode cL_ports 102 = .ok (.iload_n 1, 1) := by decide +kernel
theorem dL_ports_103 : decode cL_ports 103 = .ok (.bipush 11, 2) := by decide +kernel
theorem dL_ports_105 : decode cL_ports 105 = .ok (.invokevirtual 23, 3) := by decide +kernel
theorem dL_ports_108 : decode cL_ports 108 = .ok (.bipush (-2), 2) := by decide +kernel
theorem dL_ports_110 : decode cL_ports 110 = .ok (.if_icmp .eq 5, 3) := by decide +kernel
theorem dL_ports_113 : decode cL_ports 113 = .ok (.iconst 0, 1) := by decide +kernel
theorem dL_ports_114 : decode cL_ports 114 = .ok (.ireturn, 1) := by decide +kernel
theorem dL_ports_115 : decode cL_ports 115 = .ok (.aload_n 0, 1) := by decide +kernel
theorem dL_ports_116 : decode cL_ports 116 = .ok (.iload_n 1, 1) := by decide +kernel
theorem dL_ports_117 : decode cL_ports 117 = .ok (.iconst 1, 1) := by decide +kernel
theorem dL_ports_118 : decode cL_ports 118 = .ok (.invokevirtual 19, 3) := by decide +kernel
theorem dL_ports_121 : decode cL_ports 121 = .ok (.iconst 1, 1) := by decide +kernel
theorem dL_ports_122 : decode cL_ports 122 = .ok (.if_icmp .ne 7, 3) := by decide +kernel
theorem dL_ports_125 : decode cL_ports 125 = .ok (.iconst 1, 1) := by decide +kernel
theorem dL_ports_126 : decode cL_ports 126 = .ok (.goto 4, 3) := by decide +kernel
theorem dL_ports_129 : decode cL_ports 129 = .ok (.iconst 0, 1) := by decide +kernel
theorem dL_ports_130 : decode cL_ports 130 = .ok (.aload_n 0, 1) := by decide +kernel
theorem dL_ports_131 : decode cL_ports 131 = .ok (.iload_n 1, 1) := by decide +kernel
theorem dL_ports_132 : decode cL_ports 132 = .ok (.iconst 0, 1) := by decide +kernel
theorem dL_ports_133 : decode cL_ports 133 = .ok (.invokevirtual 19, 3) := by decide +kernel
theorem dL_ports_136 : decode cL_ports 136 = .ok (.iconst 1, 1) := by decide +kernel
theorem dL_ports_137 : decode cL_ports 137 = .ok (.if_icmp .ne 16, 3) := by decide +kernel
theorem dL_ports_140 : decode cL_ports 140 = .ok (.aload_n 0, 1) := by decide +kernel
theorem dL_ports_141 : decode cL_ports 141 = .ok (.iload_n 1, 1) := by decide +kernel
theorem dL_ports_142 : decode cL_ports 142 = .ok (.iconst 2, 1) := by decide +kernel
theorem dL_ports_143 : decode cL_ports 143 = .ok (.invokevirtual 19, 3) := by decide +kernel
theorem dL_ports_146 : decode cL_ports 146 = .ok (.ifCond .ne 7, 3) := by decide +kernel
theorem dL_ports_149 : decode cL_ports 149 = .ok (.iconst 1, 1) := by decide +kernel
theorem dL_ports_150 : decode cL_ports 150 = .ok (.goto 4, 3) := by decide +kernel
theorem dL_ports_153 : decode cL_ports 153 = .ok (.iconst 0, 1) := by decide +kernel
theorem dL_ports_154 : decode cL_ports 154 = .ok (.if_icmp .ne 49, 3) := by decide +kernel
theorem dL_ports_157 : decode cL_ports 157 = .ok (.aload_n 0, 1) := by decide +kernel
theorem dL_ports_158 : decode cL_ports 158 = .ok (.iload_n 1, 1) := by decide +kernel
theorem dL_ports_159 : decode cL_ports 159 = .ok (.iconst 2, 1) := by decide +kernel
theorem dL_ports_160 : decode cL_ports 160 = .ok (.invokevirtual 19, 3) := by decide +kernel
theorem dL_ports_163 : decode cL_ports 163 = .ok (.ifCond .le 13, 3) := by decide +kernel
theorem dL_ports_166 : decode cL_ports 166 = .ok (.aload_n 0, 1) := by decide +kernel
theorem dL_ports_167 : decode cL_ports 167 = .ok (.iload_n 1, 1) := by decide +kernel
theorem dL_ports_168 : decode cL_ports 168 = .ok (.bipush 6, 2) := by decide +kernel
theorem dL_ports_170 : decode cL_ports 170 = .ok (.invokevirtual 19, 3) := by decide +kernel
theorem dL_ports_173 : decode cL_ports 173 = .ok (.ifCond .gt 30, 3) := by decide +kernel
theorem dL_ports_176 : decode cL_ports 176 = .ok (.aload_n 0, 1) := by decide +kernel
theorem dL_ports_177 : decode cL_ports 177 = .ok (.iload_n 1, 1) := by decide +kernel
theorem dL_ports_178 : decode cL_ports 178 = .ok (.bipush 7, 2) := by decide +kernel
theorem dL_ports_180 : decode cL_ports 180 = .ok (.invokevirtual 19, 3) := by decide +kernel
theorem dL_ports_183 : decode cL_ports 183 = .ok (.aload_n 0, 1) := by decide +kernel
theorem dL_ports_184 : decode cL_ports 184 = .ok (.iconst 2, 1) := by decide +kernel
theorem dL_ports_185 : decode cL_ports 185 = .ok (.invokevirtual 13, 3) := by decide +kernel
theorem dL_ports_188 : decode cL_ports 188 = .ok (.if_icmp .le 17, 3) := by decide +kernel
theorem dL_ports_191 : decode cL_ports 191 = .ok (.aload_n 0, 1) := by decide +kernel
theorem dL_ports_192 : decode cL_ports 192 = .ok (.iload_n 1, 1) := by decide +kernel
theorem dL_ports_193 : decode cL_ports 193 = .ok (.bipush 7, 2) := by decide +kernel
theorem dL_ports_195 : decode cL_ports 195 = .ok (.invokevirtual 19, 3) := by decide +kernel
theorem dL_ports_198 : decode cL_ports 198 = .ok (.bipush 50, 2) := by decide +kernel
theorem dL_ports_200 : decode cL_ports 200 = .ok (.if_icmp .le 5, 3) := by decide +kernel
theorem dL_ports_203 : decode cL_ports 203 = .ok (.iconst 0, 1) := by decide +kernel
theorem dL_ports_204 : decode cL_ports 204 = .ok (.ireturn, 1) := by decide +kernel
theorem dL_ports_205 : decode cL_ports 205 = .ok (.iconst 0, 1) := by decide +kernel
theorem dL_ports_206 : decode cL_ports 206 = .ok (.istore 5, 2) := by decide +kernel
theorem dL_ports_208 : decode cL_ports 208 = .ok (.iload 5, 2) := by decide +kernel
theorem dL_ports_210 : decode cL_ports 210 = .ok (.iload_n 3, 1) := by decide +kernel
theorem dL_ports_211 : decode cL_ports 211 = .ok (.if_icmp .ge 94, 3) := by decide +kernel
theorem dL_ports_214 : decode cL_ports 214 = .ok (.iload 5, 2) := by decide +kernel
theorem dL_ports_216 : decode cL_ports 216 = .ok (.ifCond .le 25, 3) := by decide +kernel
theorem dL_ports_219 : decode cL_ports 219 = .ok (.aload_n 0, 1) := by decide +kernel
theorem dL_ports_220 : decode cL_ports 220 = .ok (.iload_n 1, 1) := by decide +kernel
theorem dL_ports_221 : decode cL_ports 221 = .ok (.iload 5, 2) := by decide +kernel
theorem dL_ports_223 : decode cL_ports 223 = .ok (.iconst 1, 1) := by decide +kernel
theorem dL_ports_224 : decode cL_ports 224 = .ok (.isub, 1) := by decide +kernel
theorem dL_ports_225 : decode cL_ports 225 = .ok (.iconst 2, 1) := by decide +kernel
theorem dL_ports_226 : decode cL_ports 226 = .ok (.invokevirtual 28, 3) := by decide +kernel
theorem dL_ports_229 : decode cL_ports 229 = .ok (.aload_n 0, 1) := by decide +kernel
theorem dL_ports_230 : decode cL_ports 230 = .ok (.iload_n 1, 1) := by decide +kernel
theorem dL_ports_231 : decode cL_ports 231 = .ok (.iload 5, 2) := by decide +kernel
theorem dL_ports_233 : decode cL_ports 233 = .ok (.iconst 2, 1) := by decide +kernel
theorem dL_ports_234 : decode cL_ports 234 = .ok (.invokevirtual 28, 3) := by decide +kernel
theorem dL_ports_237 : decode cL_ports 237 = .ok (.isub, 1) := by decide +kernel
theorem dL_ports_238 : decode cL_ports 238 = .ok (.goto 4, 3) := by decide +kernel
theorem dL_ports_241 : decode cL_ports 241 = .ok (.iconst 0, 1) := by decide +kernel
theorem dL_ports_242 : decode cL_ports 242 = .ok (.istore 6, 2) := by decide +kernel
theorem dL_ports_244 : decode cL_ports 244 = .ok (.iload 6, 2) := by decide +kernel
theorem dL_ports_246 : decode cL_ports 246 = .ok (.ifCond .lt 51, 3) := by decide +kernel
theorem dL_ports_249 : decode cL_ports 249 = .ok (.iload 5, 2) := by decide +kernel
theorem dL_ports_251 : decode cL_ports 251 = .ok (.ifCond .le 29, 3) := by decide +kernel
theorem dL_ports_254 : decode cL_ports 254 = .ok (.iload 6, 2) := by decide +kernel
theorem dL_ports_256 : decode cL_ports 256 = .ok (.ifCond .ne 24, 3) := by decide +kernel
theorem dL_ports_259 : decode cL_ports 259 = .ok (.aload_n 0, 1) := by decide +kernel
theorem dL_ports_260 : decode cL_ports 260 = .ok (.iload_n 1, 1) := by decide +kernel
theorem dL_ports_261 : decode cL_ports 261 = .ok (.iload 5, 2) := by decide +kernel
theorem dL_ports_263 : decode cL_ports 263 = .ok (.iconst 1, 1) := by decide +kernel
theorem dL_ports_264 : decode cL_ports 264 = .ok (.isub, 1) := by decide +kernel
theorem dL_ports_265 : decode cL_ports 265 = .ok (.iconst 3, 1) := by decide +kernel
theorem dL_ports_266 : decode cL_ports 266 = .ok (.invokevirtual 28, 3) := by decide +kernel
theorem dL_ports_269 : decode cL_ports 269 = .ok (.aload_n 0, 1) := by decide +kernel
theorem dL_ports_270 : decode cL_ports 270 = .ok (.iload_n 1, 1) := by decide +kernel
theorem dL_ports_271 : decode cL_ports 271 = .ok (.iload 5, 2) := by decide +kernel
theorem dL_ports_273 : decode cL_ports 273 = .ok (.iconst 3, 1) := by decide +kernel
theorem dL_ports_274 : decode cL_ports 274 = .ok (.invokevirtual 28, 3) := by decide +kernel
theorem dL_ports_277 : decode cL_ports 277 = .ok (.if_icmp .ge 20, 3) := by decide +kernel
theorem dL_ports_280 : decode cL_ports 280 = .ok (.aload_n 0, 1) := by decide +kernel
theorem dL_ports_281 : decode cL_ports 281 = .ok (.iload_n 1, 1) := by decide +kernel
theorem dL_ports_282 : decode cL_ports 282 = .ok (.iload 5, 2) := by decide +kernel
theorem dL_ports_284 : decode cL_ports 284 = .ok (.iconst 3, 1) := by decide +kernel
theorem dL_ports_285 : decode cL_ports 285 = .ok (.invokevirtual 28, 3) := by decide +kernel
theorem dL_ports_288 : decode cL_ports 288 = .ok (.aload_n 0, 1) := by decide +kernel
theorem dL_ports_289 : decode cL_ports 289 = .ok (.bipush 12, 2) := by decide +kernel
theorem dL_ports_291 : decode cL_ports 291 = .ok (.invokevirtual 13, 3) := by decide +kernel
theorem dL_ports_294 : decode cL_ports 294 = .ok (.if_icmp .lt 5, 3) := by decide +kernel
theorem dL_ports_297 : decode cL_ports 297 = .ok (.iconst 0, 1) := by decide +kernel
theorem dL_ports_298 : decode cL_ports 298 = .ok (.ireturn, 1) := by decide +kernel
theorem dL_ports_299 : decode cL_ports 299 = .ok (.iinc 5 1, 3) := by decide +kernel
theorem dL_ports_302 : decode cL_ports 302 = .ok (.goto (-94), 3) := by decide +kernel
theorem dL_ports_305 : decode cL_ports 305 = .ok (.aload_n 0, 1) := by decide +kernel
theorem dL_ports_306 : decode cL_ports 306 = .ok (.iload_n 1, 1) := by decide +kernel
theorem dL_ports_307 : decode cL_ports 307 = .ok (.iconst 4, 1) := by decide +kernel
theorem dL_ports_308 : decode cL_ports 308 = .ok (.invokevirtual 19, 3) := by decide +kernel
theorem dL_ports_311 : decode cL_ports 311 = .ok (.istore 5, 2) := by decide +kernel
theorem dL_ports_313 : decode cL_ports 313 = .ok (.iload 5, 2) := by decide +kernel
theorem dL_ports_315 : decode cL_ports 315 = .ok (.bipush (-4), 2) := by decide +kernel
theorem dL_ports_317 : decode cL_ports 317 = .ok (.if_icmp .eq 20, 3) := by decide +kernel
theorem dL_ports_320 : decode cL_ports 320 = .ok (.iload 5, 2) := by decide +kernel
theorem dL_ports_322 : decode cL_ports 322 = .ok (.iload_n 1, 1) := by decide +kernel
theorem dL_ports_323 : decode cL_ports 323 = .ok (.if_icmp .eq 42, 3) := by decide +kernel
theorem dL_ports_326 : decode cL_ports 326 = .ok (.aload_n 0, 1) := by decide +kernel
theorem dL_ports_327 : decode cL_ports 327 = .ok (.iload 5, 2) := by decide +kernel
theorem dL_ports_329 : decode cL_ports 329 = .ok (.iconst 4, 1) := by decide +kernel
theorem dL_ports_330 : decode cL_ports 330 = .ok (.invokevirtual 19, 3) := by decide +kernel
theorem dL_ports_333 : decode cL_ports 333 = .ok (.iload_n 1, 1) := by decide +kernel
theorem dL_ports_334 : decode cL_ports 334 = .ok (.if_icmp .ne 31, 3) := by decide +kernel
theorem dL_ports_337 : decode cL_ports 337 = .ok (.aload_n 0, 1) := by decide +kernel
theorem dL_ports_338 : decode cL_ports 338 = .ok (.iload_n 1, 1) := by decide +kernel
theorem dL_ports_339 : decode cL_ports 339 = .ok (.iload_n 3, 1) := by decide +kernel
theorem dL_ports_340 : decode cL_ports 340 = .ok (.iconst 0, 1) := by decide +kernel
theorem dL_ports_341 : decode cL_ports 341 = .ok (.invokevirtual 28, 3) := by decide +kernel
theorem dL_ports_344 : decode cL_ports 344 = .ok (.bipush (-4), 2) := by decide +kernel
theorem dL_ports_346 : decode cL_ports 346 = .ok (.if_icmp .ne 19, 3) := by decide +kernel
theorem dL_ports_349 : decode cL_ports 349 = .ok (.aload_n 0, 1) := by decide +kernel
theorem dL_ports_350 : decode cL_ports 350 = .ok (.iload_n 1, 1) := by decide +kernel
theorem dL_ports_351 : decode cL_ports 351 = .ok (.iconst (-1), 1) := by decide +kernel
theorem dL_ports_352 : decode cL_ports 352 = .ok (.iconst 0, 1) := by decide +kernel
theorem dL_ports_353 : decode cL_ports 353 = .ok (.invokevirtual 28, 3) := by decide +kernel
theorem dL_ports_356 : decode cL_ports 356 = .ok (.bipush (-2), 2) := by decide +kernel
theorem dL_ports_358 : decode cL_ports 358 = .ok (.if_icmp .ne 7, 3) := by decide +kernel
theorem dL_ports_361 : decode cL_ports 361 = .ok (.iconst 1, 1) := by decide +kernel
theorem dL_ports_362 : decode cL_ports 362 = .ok (.goto 4, 3) := by decide +kernel
theorem dL_ports_365 : decode cL_ports 365 = .ok (.iconst 0, 1) := by decide +kernel
theorem dL_ports_366 : decode cL_ports 366 = .ok (.ireturn, 1) := by decide +kernel
theorem dL_table_0 : decode cL_table 0 = .ok (.aload_n 0, 1) := by decide +kernel
theorem dL_table_1 : decode cL_table 1 = .ok (.iconst 5, 1) := by decide +kernel
theorem dL_table_2 : decode cL_table 2 = .ok (.invokevirtual 13, 3) := by decide +kernel
theorem dL_table_5 : decode cL_table 5 = .ok (.istore_n 1, 1) := by decide +kernel
theorem dL_table_6 : decode cL_table 6 = .ok (.bipush 8, 2) := by decide +kernel
theorem dL_table_8 : decode cL_table 8 = .ok (.newarray .int, 2) := by decide +kernel
theorem dL_table_10 : decode cL_table 10 = .ok (.astore_n 2, 1) := by decide +kernel
theorem dL_table_11 : decode cL_table 11 = .ok (.iconst 0, 1) := by decide +kernel
theorem dL_table_12 : decode cL_table 12 = .ok (.istore_n 3, 1) := by decide +kernel
theorem dL_table_13 : decode cL_table 13 = .ok (.iload_n 3, 1) := by decide +kernel
theorem dL_table_14 : decode cL_table 14 = .ok (.iload_n 1, 1) := by decide +kernel
theorem dL_table_15 : decode cL_table 15 = .ok (.if_icmp .ge 87, 3) := by decide +kernel
theorem dL_table_18 : decode cL_table 18 = .ok (.aload_n 0, 1) := by decide +kernel
theorem dL_table_19 : decode cL_table 19 = .ok (.iload_n 3, 1) := by decide +kernel
theorem dL_table_20 : decode cL_table 20 = .ok (.iconst 0, 1) := by decide +kernel
theorem dL_table_21 : decode cL_table 21 = .ok (.invokevirtual 36, 3) := by decide +kernel
theorem dL_table_24 : decode cL_table 24 = .ok (.istore 4, 2) := by decide +kernel
theorem dL_table_26 : decode cL_table 26 = .ok (.aload_n 0, 1) := by decide +kernel
theorem dL_table_27 : decode cL_table 27 = .ok (.iload_n 3, 1) := by decide +kernel
theorem dL_table_28 : decode cL_table 28 = .ok (.iconst 1, 1) := by decide +kernel
theorem dL_table_29 : decode cL_table 29 = .ok (.invokevirtual 36, 3) := by decide +kernel
theorem dL_table_32 : decode cL_table 32 = .ok (.istore 5, 2) := by decide +kernel
theorem dL_table_34 : decode cL_table 34 = .ok (.iload 4, 2) := by decide +kernel
theorem dL_table_36 : decode cL_table 36 = .ok (.iconst 1, 1) := by decide +kernel
theorem dL_table_37 : decode cL_table 37 = .ok (.if_icmp .lt 49, 3) := by decide +kernel
theorem dL_table_40 : decode cL_table 40 = .ok (.iload_n 3, 1) := by decide +kernel
theorem dL_table_41 : decode cL_table 41 = .ok (.ifCond .le 16, 3) := by decide +kernel
theorem dL_table_44 : decode cL_table 44 = .ok (.iload 4, 2) := by decide +kernel
theorem dL_table_46 : decode cL_table 46 = .ok (.aload_n 0, 1) := by decide +kernel
theorem dL_table_47 : decode cL_table 47 = .ok (.iload_n 3, 1) := by decide +kernel
theorem dL_table_48 : decode cL_table 48 = .ok (.iconst 1, 1) := by decide +kernel
theorem dL_table_49 : decode cL_table 49 = .ok (.isub, 1) := by decide +kernel
theorem dL_table_50 : decode cL_table 50 = .ok (.iconst 0, 1) := by decide +kernel
theorem dL_table_51 : decode cL_table 51 = .ok (.invokevirtual 36, 3) := by decide +kernel
theorem dL_table_54 : decode cL_table 54 = .ok (.if_icmp .le 32, 3) := by decide +kernel
theorem dL_table_57 : decode cL_table 57 = .ok (.aload_n 0, 1) := by decide +kernel
theorem dL_table_58 : decode cL_table 58 = .ok (.iload 4, 2) := by decide +kernel
theorem dL_table_60 : decode cL_table 60 = .ok (.invokevirtual 39, 3) := by decide +kernel
theorem dL_table_63 : decode cL_table 63 = .ok (.iload 5, 2) := by decide +kernel
theorem dL_table_65 : decode cL_table 65 = .ok (.if_icmp .ne 21, 3) := by decide +kernel
theorem dL_table_68 : decode cL_table 68 = .ok (.aload_n 0, 1) := by decide +kernel
theorem dL_table_69 : decode cL_table 69 = .ok (.iload_n 3, 1) := by decide +kernel
theorem dL_table_70 : decode cL_table 70 = .ok (.iconst 2, 1) := by decide +kernel
theorem dL_table_71 : decode cL_table 71 = .ok (.invokevirtual 36, 3) := by decide +kernel
theorem dL_table_74 : decode cL_table 74 = .ok (.ifCond .lt 12, 3) := by decide +kernel
theorem dL_table_77 : decode cL_table 77 = .ok (.aload_n 0, 1) := by decide +kernel
theorem dL_table_78 : decode cL_table 78 = .ok (.iload_n 3, 1) := by decide +kernel
theorem dL_table_79 : decode cL_table 79 = .ok (.iconst 3, 1) := by decide +kernel
theorem dL_table_80 : decode cL_table 80 = .ok (.invokevirtual 36, 3) := by decide +kernel
theorem dL_table_83 : decode cL_table 83 = .ok (.ifCond .ge 5, 3) := by decide +kernel
theorem dL_table_86 : decode cL_table 86 = .ok (.iconst 0, 1) := by decide +kernel
theorem dL_table_87 : decode cL_table 87 = .ok (.ireturn, 1) := by decide +kernel
theorem dL_table_88 : decode cL_table 88 = .ok (.aload_n 2, 1) := by decide +kernel
theorem dL_table_89 : decode cL_table 89 = .ok (.iload 5, 2) := by decide +kernel
theorem dL_table_91 : decode cL_table 91 = .ok (.dup2, 1) := by decide +kernel
theorem dL_table_92 : decode cL_table 92 = .ok (.iaload, 1) := by decide +kernel
theorem dL_table_93 : decode cL_table 93 = .ok (.iconst 1, 1) := by decide +kernel
theorem dL_table_94 : decode cL_table 94 = .ok (.iadd, 1) := by decide +kernel
theorem dL_table_95 : decode cL_table 95 = .ok (.iastore, 1) := by decide +kernel
theorem dL_table_96 : decode cL_table 96 = .ok (.iinc 3 1, 3) := by decide +kernel
theorem dL_table_99 : decode cL_table 99 = .ok (.goto (-86), 3) := by decide +kernel
theorem dL_table_102 : decode cL_table 102 = .ok (.iconst 0, 1) := by decide +kernel
theorem dL_table_103 : decode cL_table 103 = .ok (.istore_n 3, 1) := by decide +kernel
theorem dL_table_104 : decode cL_table 104 = .ok (.iload_n 3, 1) := by decide +kernel
theorem dL_table_105 : decode cL_table 105 = .ok (.bipush 8, 2) := by decide +kernel
theorem dL_table_107 : decode cL_table 107 = .ok (.if_icmp .ge 24, 3) := by decide +kernel
theorem dL_table_110 : decode cL_table 110 = .ok (.aload_n 2, 1) := by decide +kernel
theorem dL_table_111 : decode cL_table 111 = .ok (.iload_n 3, 1) := by decide +kernel
theorem dL_table_112 : decode cL_table 112 = .ok (.iaload, 1) := by decide +kernel
theorem dL_table_113 : decode cL_table 113 = .ok (.aload_n 0, 1) := by decide +kernel
theorem dL_table_114 : decode cL_table 114 = .ok (.iload_n 3, 1) := by decide +kernel
theorem dL_table_115 : decode cL_table 115 = .ok (.bipush 6, 2) := by decide +kernel
theorem dL_table_117 : decode cL_table 117 = .ok (.invokevirtual 19, 3) := by decide +kernel
theorem dL_table_120 : decode cL_table 120 = .ok (.if_icmp .eq 5, 3) := by decide +kernel
theorem dL_table_123 : decode cL_table 123 = .ok (.iconst 0, 1) := by decide +kernel
theorem dL_table_124 : decode cL_table 124 = .ok (.ireturn, 1) := by decide +kernel
theorem dL_table_125 : decode cL_table 125 = .ok (.iinc 3 1, 3) := by decide +kernel
theorem dL_table_128 : decode cL_table 128 = .ok (.goto (-24), 3) := by decide +kernel
theorem dL_table_131 : decode cL_table 131 = .ok (.iload_n 1, 1) := by decide +kernel
theorem dL_table_132 : decode cL_table 132 = .ok (.bipush 20, 2) := by decide +kernel
theorem dL_table_134 : decode cL_table 134 = .ok (.if_icmp .gt 50, 3) := by decide +kernel
theorem dL_table_137 : decode cL_table 137 = .ok (.aload_n 0, 1) := by decide +kernel
theorem dL_table_138 : decode cL_table 138 = .ok (.iload_n 1, 1) := by decide +kernel
theorem dL_table_139 : decode cL_table 139 = .ok (.iconst 0, 1) := by decide +kernel
theorem dL_table_140 : decode cL_table 140 = .ok (.invokevirtual 36, 3) := by decide +kernel
theorem dL_table_143 : decode cL_table 143 = .ok (.bipush (-4), 2) := by decide +kernel
theorem dL_table_145 : decode cL_table 145 = .ok (.if_icmp .ne 39, 3) := by decide +kernel
theorem dL_table_148 : decode cL_table 148 = .ok (.aload_n 0, 1) := by decide +kernel
theorem dL_table_149 : decode cL_table 149 = .ok (.iconst (-1), 1) := by decide +kernel
theorem dL_table_150 : decode cL_table 150 = .ok (.iconst 0, 1) := by decide +kernel
theorem dL_table_151 : decode cL_table 151 = .ok (.invokevirtual 36, 3) := by decide +kernel
theorem dL_table_154 : decode cL_table 154 = .ok (.bipush (-2), 2) := by decide +kernel
theorem dL_table_156 : decode cL_table 156 = .ok (.if_icmp .ne 28, 3) := by decide +kernel
theorem dL_table_159 : decode cL_table 159 = .ok (.aload_n 0, 1) := by decide +kernel
theorem dL_table_160 : decode cL_table 160 = .ok (.iconst 0, 1) := by decide +kernel
theorem dL_table_161 : decode cL_table 161 = .ok (.invokevirtual 39, 3) := by decide +kernel
theorem dL_table_164 : decode cL_table 164 = .ok (.bipush (-2), 2) := by decide +kernel
theorem dL_table_166 : decode cL_table 166 = .ok (.if_icmp .ne 18, 3) := by decide +kernel
theorem dL_table_169 : decode cL_table 169 = .ok (.aload_n 0, 1) := by decide +kernel
theorem dL_table_170 : decode cL_table 170 = .ok (.bipush 100, 2) := by decide +kernel
theorem dL_table_172 : decode cL_table 172 = .ok (.invokevirtual 39, 3) := by decide +kernel
theorem dL_table_175 : decode cL_table 175 = .ok (.bipush (-2), 2) := by decide +kernel
theorem dL_table_177 : decode cL_table 177 = .ok (.if_icmp .ne 7, 3) := by decide +kernel
theorem dL_table_180 : decode cL_table 180 = .ok (.iconst 1, 1) := by decide +kernel
theorem dL_table_181 : decode cL_table 181 = .ok (.goto 4, 3) := by decide +kernel
theorem dL_table_184 : decode cL_table 184 = .ok (.iconst 0, 1) := by decide +kernel
theorem dL_table_185 : decode cL_table 185 = .ok (.ireturn, 1) := by decide +kernel
theorem dL_sound_0 : decode cL_sound 0 = .ok (.iconst 0, 1) := by decide +kernel
theorem dL_sound_1 : decode cL_sound 1 = .ok (.istore_n 1, 1) := by decide +kernel
theorem dL_sound_2 : decode cL_sound 2 = .ok (.iconst 0, 1) := by decide +kernel
theorem dL_sound_3 : decode cL_sound 3 = .ok (.istore_n 2, 1) := by decide +kernel
theorem dL_sound_4 : decode cL_sound 4 = .ok (.iconst 0, 1) := by decide +kernel
theorem dL_sound_5 : decode cL_sound 5 = .ok (.istore_n 3, 1) := by decide +kernel
theorem dL_sound_6 : decode cL_sound 6 = .ok (.iconst 0, 1) := by decide +kernel
theorem dL_sound_7 : decode cL_sound 7 = .ok (.istore 4, 2) := by decide +kernel
theorem dL_sound_9 : decode cL_sound 9 = .ok (.iconst 0, 1) := by decide +kernel
theorem dL_sound_10 : decode cL_sound 10 = .ok (.istore 5, 2) := by decide +kernel
theorem dL_sound_12 : decode cL_sound 12 = .ok (.iconst 0, 1) := by decide +kernel
theorem dL_sound_13 : decode cL_sound 13 = .ok (.istore 6, 2) := by decide +kernel
theorem dL_sound_15 : decode cL_sound 15 = .ok (.iconst 0, 1) := by decide +kernel
theorem dL_sound_16 : decode cL_sound 16 = .ok (.istore 7, 2) := by decide +kernel
theorem dL_sound_18 : decode cL_sound 18 = .ok (.iload 7, 2) := by decide +kernel
theorem dL_sound_20 : decode cL_sound 20 = .ok (.bipush 8, 2) := by decide +kernel
theorem dL_sound_22 : decode cL_sound 22 = .ok (.if_icmp .ge 134, 3) := by decide +kernel
theorem dL_sound_25 : decode cL_sound 25 = .ok (.aload_n 0, 1) := by decide +kernel
theorem dL_sound_26 : decode cL_sound 26 = .ok (.iload 7, 2) := by decide +kernel
theorem dL_sound_28 : decode cL_sound 28 = .ok (.iconst 4, 1) := by decide +kernel
theorem dL_sound_29 : decode cL_sound 29 = .ok (.invokevirtual 19, 3) := by decide +kernel
theorem dL_sound_32 : decode cL_sound 32 = .ok (.istore 8, 2) := by decide +kernel
theorem dL_sound_34 : decode cL_sound 34 = .ok (.iload_n 1, 1) := by decide +kernel
theorem dL_sound_35 : decode cL_sound 35 = .ok (.aload_n 0, 1) := by decide +kernel
theorem dL_sound_36 : decode cL_sound 36 = .ok (.iload 7, 2) := by decide +kernel
theorem dL_sound_38 : decode cL_sound 38 = .ok (.iconst 1, 1) := by decide +kernel
theorem dL_sound_39 : decode cL_sound 39 = .ok (.invokevirtual 19, 3) := by decide +kernel
theorem dL_sound_42 : decode cL_sound 42 = .ok (.iadd, 1) := by decide +kernel
theorem dL_sound_43 : decode cL_sound 43 = .ok (.istore_n 1, 1) := by decide +kernel
theorem dL_sound_44 : decode cL_sound 44 = .ok (.iload_n 2, 1) := by decide +kernel
theorem dL_sound_45 : decode cL_sound 45 = .ok (.aload_n 0, 1) := by decide +kernel
theorem dL_sound_46 : decode cL_sound 46 = .ok (.iload 7, 2) := by decide +kernel
theorem dL_sound_48 : decode cL_sound 48 = .ok (.iconst 2, 1) := by decide +kernel
theorem dL_sound_49 : decode cL_sound 49 = .ok (.invokevirtual 19, 3) := by decide +kernel
theorem dL_sound_52 : decode cL_sound 52 = .ok (.ifCond .le 7, 3) := by decide +kernel
theorem dL_sound_55 : decode cL_sound 55 = .ok (.iconst 1, 1) := by decide +kernel
theorem dL_sound_56 : decode cL_sound 56 = .ok (.goto 4, 3) := by decide +kernel
theorem dL_sound_59 : decode cL_sound 59 = .ok (.iconst 0, 1) := by decide +kernel
theorem dL_sound_60 : decode cL_sound 60 = .ok (.iadd, 1) := by decide +kernel
theorem dL_sound_61 : decode cL_sound 61 = .ok (.istore_n 2, 1) := by decide +kernel
theorem dL_sound_62 : decode cL_sound 62 = .ok (.iload_n 3, 1) := by decide +kernel
theorem dL_sound_63 : decode cL_sound 63 = .ok (.iload 8, 2) := by decide +kernel
theorem dL_sound_65 : decode cL_sound 65 = .ok (.ifCond .lt 7, 3) := by decide +kernel
theorem dL_sound_68 : decode cL_sound 68 = .ok (.iconst 1, 1) := by decide +kernel
theorem dL_sound_69 : decode cL_sound 69 = .ok (.goto 4, 3) := by decide +kernel
theorem dL_sound_72 : decode cL_sound 72 = .ok (.iconst 0, 1) := by decide +kernel
theorem dL_sound_73 : decode cL_sound 73 = .ok (.iadd, 1) := by decide +kernel
theorem dL_sound_74 : decode cL_sound 74 = .ok (.istore_n 3, 1) := by decide +kernel
theorem dL_sound_75 : decode cL_sound 75 = .ok (.iload 4, 2) := by decide +kernel
theorem dL_sound_77 : decode cL_sound 77 = .ok (.aload_n 0, 1) := by decide +kernel
theorem dL_sound_78 : decode cL_sound 78 = .ok (.iload 7, 2) := by decide +kernel
theorem dL_sound_80 : decode cL_sound 80 = .ok (.iconst 5, 1) := by decide +kernel
theorem dL_sound_81 : decode cL_sound 81 = .ok (.invokevirtual 19, 3) := by decide +kernel
theorem dL_sound_84 : decode cL_sound 84 = .ok (.iadd, 1) := by decide +kernel
theorem dL_sound_85 : decode cL_sound 85 = .ok (.istore 4, 2) := by decide +kernel
theorem dL_sound_87 : decode cL_sound 87 = .ok (.iload 5, 2) := by decide +kernel
theorem dL_sound_89 : decode cL_sound 89 = .ok (.aload_n 0, 1) := by decide +kernel
theorem dL_sound_90 : decode cL_sound 90 = .ok (.iload 7, 2) := by decide +kernel
theorem dL_sound_92 : decode cL_sound 92 = .ok (.iconst 0, 1) := by decide +kernel
theorem dL_sound_93 : decode cL_sound 93 = .ok (.invokevirtual 23, 3) := by decide +kernel
theorem dL_sound_96 : decode cL_sound 96 = .ok (.iadd, 1) := by decide +kernel
theorem dL_sound_97 : decode cL_sound 97 = .ok (.istore 5, 2) := by decide +kernel
theorem dL_sound_99 : decode cL_sound 99 = .ok (.iload 6, 2) := by decide +kernel
theorem dL_sound_101 : decode cL_sound 101 = .ok (.iload 8, 2) := by decide +kernel
theorem dL_sound_103 : decode cL_sound 103 = .ok (.ifCond .lt 32, 3) := by decide +kernel
theorem dL_sound_106 : decode cL_sound 106 = .ok (.aload_n 0, 1) := by decide +kernel
theorem dL_sound_107 : decode cL_sound 107 = .ok (.iload 7, 2) := by decide +kernel
theorem dL_sound_109 : decode cL_sound 109 = .ok (.iconst 1, 1) := by decide +kernel
theorem dL_sound_110 : decode cL_sound 110 = .ok (.invokevirtual 19, 3) := by decide +kernel
theorem dL_sound_113 : decode cL_sound 113 = .ok (.iconst 1, 1) := by decide +kernel
theorem dL_sound_114 : decode cL_sound 114 = .ok (.if_icmp .ne 21, 3) := by decide +kernel
theorem dL_sound_117 : decode cL_sound 117 = .ok (.aload_n 0, 1) := by decide +kernel
theorem dL_sound_118 : decode cL_sound 118 = .ok (.iload 8, 2) := by decide +kernel
theorem dL_sound_120 : decode cL_sound 120 = .ok (.iconst 1, 1) := by decide +kernel
theorem dL_sound_121 : decode cL_sound 121 = .ok (.invokevirtual 19, 3) := by decide +kernel
theorem dL_sound_124 : decode cL_sound 124 = .ok (.iconst 1, 1) := by decide +kernel
theorem dL_sound_125 : decode cL_sound 125 = .ok (.if_icmp .ne 10, 3) := by decide +kernel
theorem dL_sound_128 : decode cL_sound 128 = .ok (.iconst 1, 1) := by decide +kernel
theorem dL_sound_129 : decode cL_sound 129 = .ok (.iload 7, 2) := by decide +kernel
theorem dL_sound_131 : decode cL_sound 131 = .ok (.ishl, 1) := by decide +kernel
theorem dL_sound_132 : decode cL_sound 132 = .ok (.goto 4, 3) := by decide +kernel
theorem dL_sound_135 : decode cL_sound 135 = .ok (.iconst 0, 1) := by decide +kernel
theorem dL_sound_136 : decode cL_sound 136 = .ok (.ior, 1) := by decide +kernel
theorem dL_sound_137 : decode cL_sound 137 = .ok (.istore 6, 2) := by decide +kernel
theorem dL_sound_139 : decode cL_sound 139 = .ok (.aload_n 0, 1) := by decide +kernel
theorem dL_sound_140 : decode cL_sound 140 = .ok (.iload 7, 2) := by decide +kernel
theorem dL_sound_142 : decode cL_sound 142 = .ok (.invokestatic 42, 3) := by decide +kernel
theorem dL_sound_145 : decode cL_sound 145 = .ok (.ifCond .ne 5, 3) := by decide +kernel
theorem dL_sound_148 : decode cL_sound 148 = .ok (.iconst 0, 1) := by decide +kernel
theorem dL_sound_149 : decode cL_sound 149 = .ok (.ireturn, 1) := by decide +kernel
theorem dL_sound_150 : decode cL_sound 150 = .ok (.iinc 7 1, 3) := by decide +kernel
theorem dL_sound_153 : decode cL_sound 153 = .ok (.goto (-135), 3) := by decide +kernel
theorem dL_sound_156 : decode cL_sound 156 = .ok (.aload_n 0, 1) := by decide +kernel
theorem dL_sound_157 : decode cL_sound 157 = .ok (.invokestatic 48, 3) := by decide +kernel
theorem dL_sound_160 : decode cL_sound 160 = .ok (.ifCond .eq 92, 3) := by decide +kernel
theorem dL_sound_163 : decode cL_sound 163 = .ok (.aload_n 0, 1) := by decide +kernel
theorem dL_sound_164 : decode cL_sound 164 = .ok (.invokevirtual 52, 3) := by decide +kernel
theorem dL_sound_167 : decode cL_sound 167 = .ok (.iload 6, 2) := by decide +kernel
theorem dL_sound_169 : decode cL_sound 169 = .ok (.if_icmp .ne 83, 3) := by decide +kernel
theorem dL_sound_172 : decode cL_sound 172 = .ok (.aload_n 0, 1) := by decide +kernel
theorem dL_sound_173 : decode cL_sound 173 = .ok (.bipush 6, 2) := by decide +kernel
theorem dL_sound_175 : decode cL_sound 175 = .ok (.invokevirtual 13, 3) := by decide +kernel
theorem dL_sound_178 : decode cL_sound 178 = .ok (.iload_n 1, 1) := by decide +kernel
theorem dL_sound_179 : decode cL_sound 179 = .ok (.if_icmp .ne 73, 3) := by decide +kernel
theorem dL_sound_182 : decode cL_sound 182 = .ok (.aload_n 0, 1) := by decide +kernel
theorem dL_sound_183 : decode cL_sound 183 = .ok (.bipush 7, 2) := by decide +kernel
theorem dL_sound_185 : decode cL_sound 185 = .ok (.invokevirtual 13, 3) := by decide +kernel
theorem dL_sound_188 : decode cL_sound 188 = .ok (.iload_n 2, 1) := by decide +kernel
theorem dL_sound_189 : decode cL_sound 189 = .ok (.if_icmp .ne 63, 3) := by decide +kernel
theorem dL_sound_192 : decode cL_sound 192 = .ok (.iconst 2, 1) := by decide +kernel
theorem dL_sound_193 : decode cL_sound 193 = .ok (.aload_n 0, 1) := by decide +kernel
theorem dL_sound_194 : decode cL_sound 194 = .ok (.bipush 8, 2) := by decide +kernel
theorem dL_sound_196 : decode cL_sound 196 = .ok (.invokevirtual 13, 3) := by decide +kernel
theorem dL_sound_199 : decode cL_sound 199 = .ok (.imul, 1) := by decide +kernel
theorem dL_sound_200 : decode cL_sound 200 = .ok (.iload_n 3, 1) := by decide +kernel
theorem dL_sound_201 : decode cL_sound 201 = .ok (.if_icmp .ne 51, 3) := by decide +kernel
theorem dL_sound_204 : decode cL_sound 204 = .ok (.aload_n 0, 1) := by decide +kernel
theorem dL_sound_205 : decode cL_sound 205 = .ok (.bipush 9, 2) := by decide +kernel
theorem dL_sound_207 : decode cL_sound 207 = .ok (.invokevirtual 13, 3) := by decide +kernel
theorem dL_sound_210 : decode cL_sound 210 = .ok (.iload 4, 2) := by decide +kernel
theorem dL_sound_212 : decode cL_sound 212 = .ok (.if_icmp .ne 40, 3) := by decide +kernel
theorem dL_sound_215 : decode cL_sound 215 = .ok (.aload_n 0, 1) := by decide +kernel
theorem dL_sound_216 : decode cL_sound 216 = .ok (.bipush 10, 2) := by decide +kernel
theorem dL_sound_218 : decode cL_sound 218 = .ok (.invokevirtual 13, 3) := by decide +kernel
theorem dL_sound_221 : decode cL_sound 221 = .ok (.iload 5, 2) := by decide +kernel
theorem dL_sound_223 : decode cL_sound 223 = .ok (.if_icmp .ne 29, 3) := by decide +kernel
theorem dL_sound_226 : decode cL_sound 226 = .ok (.aload_n 0, 1) := by decide +kernel
theorem dL_sound_227 : decode cL_sound 227 = .ok (.bipush 8, 2) := by decide +kernel
theorem dL_sound_229 : decode cL_sound 229 = .ok (.iconst 0, 1) := by decide +kernel
theorem dL_sound_230 : decode cL_sound 230 = .ok (.invokevirtual 19, 3) := by decide +kernel
theorem dL_sound_233 : decode cL_sound 233 = .ok (.iconst (-1), 1) := by decide +kernel
theorem dL_sound_234 : decode cL_sound 234 = .ok (.if_icmp .ne 18, 3) := by decide +kernel
theorem dL_sound_237 : decode cL_sound 237 = .ok (.aload_n 0, 1) := by decide +kernel
theorem dL_sound_238 : decode cL_sound 238 = .ok (.bipush 15, 2) := by decide +kernel
theorem dL_sound_240 : decode cL_sound 240 = .ok (.invokevirtual 13, 3) := by decide +kernel
theorem dL_sound_243 : decode cL_sound 243 = .ok (.bipush (-2), 2) := by decide +kernel
theorem dL_sound_245 : decode cL_sound 245 = .ok (.if_icmp .ne 7, 3) := by decide +kernel
theorem dL_sound_248 : decode cL_sound 248 = .ok (.iconst 1, 1) := by decide +kernel
theorem dL_sound_249 : decode cL_sound 249 = .ok (.goto 4, 3) := by decide +kernel
theorem dL_sound_252 : decode cL_sound 252 = .ok (.iconst 0, 1) := by decide +kernel
theorem dL_sound_253 : decode cL_sound 253 = .ok (.ireturn, 1) := by decide +kernel
theorem dL_frames_0 : decode cL_frames 0 = .ok (.bipush 8, 2) := by decide +kernel
theorem dL_frames_2 : decode cL_frames 2 = .ok (.newarray .int, 2) := by decide +kernel
theorem dL_frames_4 : decode cL_frames 4 = .ok (.astore 5, 2) := by decide +kernel
theorem dL_frames_6 : decode cL_frames 6 = .ok (.bipush 8, 2) := by decide +kernel
theorem dL_frames_8 : decode cL_frames 8 = .ok (.newarray .int, 2) := by decide +kernel
theorem dL_frames_10 : decode cL_frames 10 = .ok (.astore 6, 2) := by decide +kernel
theorem dL_frames_12 : decode cL_frames 12 = .ok (.aload_n 0, 1) := by decide +kernel
theorem dL_frames_13 : decode cL_frames 13 = .ok (.invokestatic 56, 3) := by decide +kernel
theorem dL_frames_16 : decode cL_frames 16 = .ok (.istore 7, 2) := by decide +kernel
theorem dL_frames_18 : decode cL_frames 18 = .ok (.aload_n 0, 1) := by decide +kernel
theorem dL_frames_19 : decode cL_frames 19 = .ok (.iload_n 1, 1) := by decide +kernel
theorem dL_frames_20 : decode cL_frames 20 = .ok (.iload_n 2, 1) := by decide +kernel
theorem dL_frames_21 : decode cL_frames 21 = .ok (.iload_n 3, 1) := by decide +kernel
theorem dL_frames_22 : decode cL_frames 22 = .ok (.invokevirtual 60, 3) := by decide +kernel
theorem dL_frames_25 : decode cL_frames 25 = .ok (.istore 8, 2) := by decide +kernel
theorem dL_frames_27 : decode cL_frames 27 = .ok (.aload_n 0, 1) := by decide +kernel
theorem dL_frames_28 : decode cL_frames 28 = .ok (.iload_n 2, 1) := by decide +kernel
theorem dL_frames_29 : decode cL_frames 29 = .ok (.invokevirtual 39, 3) := by decide +kernel
theorem dL_frames_32 : decode cL_frames 32 = .ok (.istore 9, 2) := by decide +kernel
theorem dL_frames_34 : decode cL_frames 34 = .ok (.aload_n 0, 1) := by decide +kernel
theorem dL_frames_35 : decode cL_frames 35 = .ok (.iload_n 1, 1) := by decide +kernel
theorem dL_frames_36 : decode cL_frames 36 = .ok (.bipush 7, 2) := by decide +kernel
theorem dL_frames_38 : decode cL_frames 38 = .ok (.invokevirtual 19, 3) := by decide +kernel
theorem dL_frames_41 : decode cL_frames 41 = .ok (.istore 10, 2) := by decide +kernel
theorem dL_frames_43 : decode cL_frames 43 = .ok (.aload_n 0, 1) := by decide +kernel
theorem dL_frames_44 : decode cL_frames 44 = .ok (.bipush 11, 2) := by decide +kernel
theorem dL_frames_46 : decode cL_frames 46 = .ok (.invokevirtual 13, 3) := by decide +kernel
theorem dL_frames_49 : decode cL_frames 49 = .ok (.istore 11, 2) := by decide +kernel
theorem dL_frames_51 : decode cL_frames 51 = .ok (.iconst 0, 1) := by decide +kernel
theorem dL_frames_52 : decode cL_frames 52 = .ok (.istore 12, 2) := by decide +kernel
theorem dL_frames_54 : decode cL_frames 54 = .ok (.iload 12, 2) := by decide +kernel
theorem dL_frames_56 : decode cL_frames 56 = .ok (.bipush 8, 2) := by decide +kernel
theorem dL_frames_58 : decode cL_frames 58 = .ok (.if_icmp .ge 34, 3) := by decide +kernel
theorem dL_frames_61 : decode cL_frames 61 = .ok (.aload 5, 2) := by decide +kernel
theorem dL_frames_63 : decode cL_frames 63 = .ok (.iload 12, 2) := by decide +kernel
theorem dL_frames_65 : decode cL_frames 65 = .ok (.aload_n 0, 1) := by decide +kernel
theorem dL_frames_66 : decode cL_frames 66 = .ok (.iload 12, 2) := by decide +kernel
theorem dL_frames_68 : decode cL_frames 68 = .ok (.iconst 5, 1) := by decide +kernel
theorem dL_frames_69 : decode cL_frames 69 = .ok (.invokevirtual 19, 3) := by decide +kernel
theorem dL_frames_72 : decode cL_frames 72 = .ok (.iastore, 1) := by decide +kernel
theorem dL_frames_73 : decode cL_frames 73 = .ok (.aload 6, 2) := by decide +kernel
theorem dL_frames_75 : decode cL_frames 75 = .ok (.iload 12, 2) := by decide +kernel
theorem dL_frames_77 : decode cL_frames 77 = .ok (.aload_n 0, 1) := by decide +kernel
theorem dL_frames_78 : decode cL_frames 78 = .ok (.iload 12, 2) := by decide +kernel
theorem dL_frames_80 : decode cL_frames 80 = .ok (.bipush 8, 2) := by decide +kernel
theorem dL_frames_82 : decode cL_frames 82 = .ok (.invokevirtual 23, 3) := by decide +kernel
theorem dL_frames_85 : decode cL_frames 85 = .ok (.iastore, 1) := by decide +kernel
theorem dL_frames_86 : decode cL_frames 86 = .ok (.iinc 12 1, 3) := by decide +kernel
theorem dL_frames_89 : decode cL_frames 89 = .ok (.goto (-35), 3) := by decide +kernel
theorem dL_frames_92 : decode cL_frames 92 = .ok (.aload_n 0, 1) := by decide +kernel
theorem dL_frames_93 : decode cL_frames 93 = .ok (.iload_n 1, 1) := by decide +kernel
theorem dL_frames_94 : decode cL_frames 94 = .ok (.iload_n 2, 1) := by decide +kernel
theorem dL_frames_95 : decode cL_frames 95 = .ok (.iload_n 3, 1) := by decide +kernel
theorem dL_frames_96 : decode cL_frames 96 = .ok (.iload 4, 2) := by decide +kernel
theorem dL_frames_98 : decode cL_frames 98 = .ok (.invokevirtual 63, 3) := by decide +kernel
theorem dL_frames_101 : decode cL_frames 101 = .ok (.istore 12, 2) := by decide +kernel
theorem dL_frames_103 : decode cL_frames 103 = .ok (.iload 7, 2) := by decide +kernel
theorem dL_frames_105 : decode cL_frames 105 = .ok (.iload_n 1, 1) := by decide +kernel
theorem dL_frames_106 : decode cL_frames 106 = .ok (.ishr, 1) := by decide +kernel
theorem dL_frames_107 : decode cL_frames 107 = .ok (.iconst 1, 1) := by decide +kernel
theorem dL_frames_108 : decode cL_frames 108 = .ok (.iand, 1) := by decide +kernel
theorem dL_frames_109 : decode cL_frames 109 = .ok (.iconst 1, 1) := by decide +kernel
theorem dL_frames_110 : decode cL_frames 110 = .ok (.if_icmp .ne 7, 3) := by decide +kernel
theorem dL_frames_113 : decode cL_frames 113 = .ok (.iconst 1, 1) := by decide +kernel
theorem dL_frames_114 : decode cL_frames 114 = .ok (.goto 4, 3) := by decide +kernel
theorem dL_frames_117 : decode cL_frames 117 = .ok (.iconst 0, 1) := by decide +kernel
theorem dL_frames_118 : decode cL_frames 118 = .ok (.istore 13, 2) := by decide +kernel
theorem dL_frames_120 : decode cL_frames 120 = .ok (.iload 12, 2) := by decide +kernel
theorem dL_frames_122 : decode cL_frames 122 = .ok (.ifCond .lt 45, 3) := by decide +kernel
theorem dL_frames_125 : decode cL_frames 125 = .ok (.iload 12, 2) := by decide +kernel
theorem dL_frames_127 : decode cL_frames 127 = .ok (.bipush 6, 2) := by decide +kernel
theorem dL_frames_129 : decode cL_frames 129 = .ok (.if_icmp .gt 38, 3) := by decide +kernel
theorem dL_frames_132 : decode cL_frames 132 = .ok (.iload 13, 2) := by decide +kernel
theorem dL_frames_134 : decode cL_frames 134 = .ok (.iload 12, 2) := by decide +kernel
theorem dL_frames_136 : decode cL_frames 136 = .ok (.ifCond .ne 7, 3) := by decide +kernel
theorem dL_frames_139 : decode cL_frames 139 = .ok (.iconst 1, 1) := by decide +kernel
theorem dL_frames_140 : decode cL_frames 140 = .ok (.goto 4, 3) := by decide +kernel
theorem dL_frames_143 : decode cL_frames 143 = .ok (.iconst 0, 1) := by decide +kernel
theorem dL_frames_144 : decode cL_frames 144 = .ok (.if_icmp .eq 23, 3) := by decide +kernel
theorem dL_frames_147 : decode cL_frames 147 = .ok (.iload 8, 2) := by decide +kernel
theorem dL_frames_149 : decode cL_frames 149 = .ok (.iload_n 1, 1) := by decide +kernel
theorem dL_frames_150 : decode cL_frames 150 = .ok (.ishr, 1) := by decide +kernel
theorem dL_frames_151 : decode cL_frames 151 = .ok (.iconst 1, 1) := by decide +kernel
theorem dL_frames_152 : decode cL_frames 152 = .ok (.iand, 1) := by decide +kernel
theorem dL_frames_153 : decode cL_frames 153 = .ok (.iconst 1, 1) := by decide +kernel
theorem dL_frames_154 : decode cL_frames 154 = .ok (.if_icmp .eq 13, 3) := by decide +kernel
theorem dL_frames_157 : decode cL_frames 157 = .ok (.iload 8, 2) := by decide +kernel
theorem dL_frames_159 : decode cL_frames 159 = .ok (.iload 7, 2) := by decide +kernel
theorem dL_frames_161 : decode cL_frames 161 = .ok (.iconst (-1), 1) := by decide +kernel
theorem dL_frames_162 : decode cL_frames 162 = .ok (.ixor, 1) := by decide +kernel
theorem dL_frames_163 : decode cL_frames 163 = .ok (.iand, 1) := by decide +kernel
theorem dL_frames_164 : decode cL_frames 164 = .ok (.ifCond .eq 5, 3) := by decide +kernel
theorem dL_frames_167 : decode cL_frames 167 = .ok (.iconst 0, 1) := by decide +kernel
theorem dL_frames_168 : decode cL_frames 168 = .ok (.ireturn, 1) := by decide +kernel
theorem dL_frames_169 : decode cL_frames 169 = .ok (.iload 12, 2) := by decide +kernel
theorem dL_frames_171 : decode cL_frames 171 = .ok (.iconst 3, 1) := by decide +kernel
theorem dL_frames_172 : decode cL_frames 172 = .ok (.if_icmp .ne 33, 3) := by decide +kernel
theorem dL_frames_175 : decode cL_frames 175 = .ok (.iload 8, 2) := by decide +kernel
theorem dL_frames_177 : decode cL_frames 177 = .ok (.iload 7, 2) := by decide +kernel
theorem dL_frames_179 : decode cL_frames 179 = .ok (.iconst 1, 1) := by decide +kernel
theorem dL_frames_180 : decode cL_frames 180 = .ok (.iload_n 1, 1) := by decide +kernel
theorem dL_frames_181 : decode cL_frames 181 = .ok (.ishl, 1) := by decide +kernel
theorem dL_frames_182 : decode cL_frames 182 = .ok (.iconst (-1), 1) := by decide +kernel
theorem dL_frames_183 : decode cL_frames 183 = .ok (.ixor, 1) := by decide +kernel
theorem dL_frames_184 : decode cL_frames 184 = .ok (.iand, 1) := by decide +kernel
theorem dL_frames_185 : decode cL_frames 185 = .ok (.if_icmp .ne 49, 3) := by decide +kernel
theorem dL_frames_188 : decode cL_frames 188 = .ok (.aload_n 0, 1) := by decide +kernel
theorem dL_frames_189 : decode cL_frames 189 = .ok (.iload_n 1, 1) := by decide +kernel
theorem dL_frames_190 : decode cL_frames 190 = .ok (.bipush 7, 2) := by decide +kernel
theorem dL_frames_192 : decode cL_frames 192 = .ok (.invokevirtual 19, 3) := by decide +kernel
theorem dL_frames_195 : decode cL_frames 195 = .ok (.iload 10, 2) := by decide +kernel
theorem dL_frames_197 : decode cL_frames 197 = .ok (.iconst 1, 1) := by decide +kernel
theorem dL_frames_198 : decode cL_frames 198 = .ok (.iadd, 1) := by decide +kernel
theorem dL_frames_199 : decode cL_frames 199 = .ok (.if_icmp .eq 37, 3) := by decide +kernel
theorem dL_frames_202 : decode cL_frames 202 = .ok (.goto 32, 3) := by decide +kernel
theorem dL_frames_205 : decode cL_frames 205 = .ok (.iload 12, 2) := by decide +kernel
theorem dL_frames_207 : decode cL_frames 207 = .ok (.iconst 2, 1) := by decide +kernel
theorem dL_frames_208 : decode cL_frames 208 = .ok (.if_icmp .ne 21, 3) := by decide +kernel
theorem dL_frames_211 : decode cL_frames 211 = .ok (.iload 8, 2) := by decide +kernel
theorem dL_frames_213 : decode cL_frames 213 = .ok (.ifCond .eq 21, 3) := by decide +kernel
theorem dL_frames_216 : decode cL_frames 216 = .ok (.iload 8, 2) := by decide +kernel
theorem dL_frames_218 : decode cL_frames 218 = .ok (.iload 8, 2) := by decide +kernel
theorem dL_frames_220 : decode cL_frames 220 = .ok (.iconst 1, 1) := by decide +kernel
theorem dL_frames_221 : decode cL_frames 221 = .ok (.isub, 1) := by decide +kernel
theorem dL_frames_222 : decode cL_frames 222 = .ok (.iand, 1) := by decide +kernel
theorem dL_frames_223 : decode cL_frames 223 = .ok (.ifCond .eq 13, 3) := by decide +kernel
theorem dL_frames_226 : decode cL_frames 226 = .ok (.goto 8, 3) := by decide +kernel
theorem dL_frames_229 : decode cL_frames 229 = .ok (.iload 8, 2) := by decide +kernel
theorem dL_frames_231 : decode cL_frames 231 = .ok (.ifCond .eq 5, 3) := by decide +kernel
theorem dL_frames_234 : decode cL_frames 234 = .ok (.iconst 0, 1) := by decide +kernel
theorem dL_frames_235 : decode cL_frames 235 = .ok (.ireturn, 1) := by decide +kernel
theorem dL_frames_236 : decode cL_frames 236 = .ok (.iload 12, 2) := by decide +kernel
theorem dL_frames_238 : decode cL_frames 238 = .ok (.iconst 4, 1) := by decide +kernel
theorem dL_frames_239 : decode cL_frames 239 = .ok (.if_icmp .eq 9, 3) := by decide +kernel
theorem dL_frames_242 : decode cL_frames 242 = .ok (.iload 12, 2) := by decide +kernel
theorem dL_frames_244 : decode cL_frames 244 = .ok (.iconst 5, 1) := by decide +kernel
theorem dL_frames_245 : decode cL_frames 245 = .ok (.if_icmp .ne 56, 3) := by decide +kernel
theorem dL_frames_248 : decode cL_frames 248 = .ok (.aload_n 0, 1) := by decide +kernel
theorem dL_frames_249 : decode cL_frames 249 = .ok (.iload_n 1, 1) := by decide +kernel
theorem dL_frames_250 : decode cL_frames 250 = .ok (.iconst 2, 1) := by decide +kernel
theorem dL_frames_251 : decode cL_frames 251 = .ok (.invokevirtual 19, 3) := by decide +kernel
theorem dL_frames_254 : decode cL_frames 254 = .ok (.aload_n 0, 1) := by decide +kernel
theorem dL_frames_255 : decode cL_frames 255 = .ok (.iconst 1, 1) := by decide +kernel
theorem dL_frames_256 : decode cL_frames 256 = .ok (.invokevirtual 13, 3) := by decide +kernel
theorem dL_frames_259 : decode cL_frames 259 = .ok (.if_icmp .ne 67, 3) := by decide +kernel
theorem dL_frames_262 : decode cL_frames 262 = .ok (.aload_n 0, 1) := by decide +kernel
theorem dL_frames_263 : decode cL_frames 263 = .ok (.iload_n 1, 1) := by decide +kernel
theorem dL_frames_264 : decode cL_frames 264 = .ok (.iconst 3, 1) := by decide +kernel
theorem dL_frames_265 : decode cL_frames 265 = .ok (.invokevirtual 19, 3) := by decide +kernel
theorem dL_frames_268 : decode cL_frames 268 = .ok (.iload 12, 2) := by decide +kernel
theorem dL_frames_270 : decode cL_frames 270 = .ok (.iconst 3, 1) := by decide +kernel
theorem dL_frames_271 : decode cL_frames 271 = .ok (.isub, 1) := by decide +kernel
theorem dL_frames_272 : decode cL_frames 272 = .ok (.if_icmp .ne 54, 3) := by decide +kernel
theorem dL_frames_275 : decode cL_frames 275 = .ok (.aload_n 0, 1) := by decide +kernel
theorem dL_frames_276 : decode cL_frames 276 = .ok (.bipush 11, 2) := by decide +kernel
theorem dL_frames_278 : decode cL_frames 278 = .ok (.invokevirtual 13, 3) := by decide +kernel
theorem dL_frames_281 : decode cL_frames 281 = .ok (.iload 11, 2) := by decide +kernel
theorem dL_frames_283 : decode cL_frames 283 = .ok (.iconst 1, 1) := by decide +kernel
theorem dL_frames_284 : decode cL_frames 284 = .ok (.iadd, 1) := by decide +kernel
theorem dL_frames_285 : decode cL_frames 285 = .ok (.if_icmp .ne 41, 3) := by decide +kernel
theorem dL_frames_288 : decode cL_frames 288 = .ok (.aload_n 0, 1) := by decide +kernel
theorem dL_frames_289 : decode cL_frames 289 = .ok (.iload_n 1, 1) := by decide +kernel
theorem dL_frames_290 : decode cL_frames 290 = .ok (.bipush 6, 2) := by decide +kernel
theorem dL_frames_292 : decode cL_frames 292 = .ok (.invokevirtual 19, 3) := by decide +kernel
theorem dL_frames_295 : decode cL_frames 295 = .ok (.ifCond .eq 33, 3) := by decide +kernel
theorem dL_frames_298 : decode cL_frames 298 = .ok (.goto 28, 3) := by decide +kernel
theorem dL_frames_301 : decode cL_frames 301 = .ok (.aload_n 0, 1) := by decide +kernel
theorem dL_frames_302 : decode cL_frames 302 = .ok (.bipush 11, 2) := by decide +kernel
theorem dL_frames_304 : decode cL_frames 304 = .ok (.invokevirtual 13, 3) := by decide +kernel
theorem dL_frames_307 : decode cL_frames 307 = .ok (.iload 11, 2) := by decide +kernel
theorem dL_frames_309 : decode cL_frames 309 = .ok (.if_icmp .ne 17, 3) := by decide +kernel
theorem dL_frames_312 : decode cL_frames 312 = .ok (.iload 13, 2) := by decide +kernel
theorem dL_frames_314 : decode cL_frames 314 = .ok (.ifCond .eq 14, 3) := by decide +kernel
theorem dL_frames_317 : decode cL_frames 317 = .ok (.aload_n 0, 1) := by decide +kernel
theorem dL_frames_318 : decode cL_frames 318 = .ok (.iload_n 2, 1) := by decide +kernel
theorem dL_frames_319 : decode cL_frames 319 = .ok (.invokevirtual 39, 3) := by decide +kernel
theorem dL_frames_322 : decode cL_frames 322 = .ok (.iload_n 1, 1) := by decide +kernel
theorem dL_frames_323 : decode cL_frames 323 = .ok (.if_icmp .eq 5, 3) := by decide +kernel
theorem dL_frames_326 : decode cL_frames 326 = .ok (.iconst 0, 1) := by decide +kernel
theorem dL_frames_327 : decode cL_frames 327 = .ok (.ireturn, 1) := by decide +kernel
theorem dL_frames_328 : decode cL_frames 328 = .ok (.iload 12, 2) := by decide +kernel
theorem dL_frames_330 : decode cL_frames 330 = .ok (.iconst 4, 1) := by decide +kernel
theorem dL_frames_331 : decode cL_frames 331 = .ok (.if_icmp .ne 14, 3) := by decide +kernel
theorem dL_frames_334 : decode cL_frames 334 = .ok (.iload 9, 2) := by decide +kernel
theorem dL_frames_336 : decode cL_frames 336 = .ok (.ifCond .lt 25, 3) := by decide +kernel
theorem dL_frames_339 : decode cL_frames 339 = .ok (.iload 9, 2) := by decide +kernel
theorem dL_frames_341 : decode cL_frames 341 = .ok (.iload_n 1, 1) := by decide +kernel
theorem dL_frames_342 : decode cL_frames 342 = .ok (.if_icmp .eq 19, 3) := by decide +kernel
theorem dL_frames_345 : decode cL_frames 345 = .ok (.iload 12, 2) := by decide +kernel
theorem dL_frames_347 : decode cL_frames 347 = .ok (.iconst 5, 1) := by decide +kernel
theorem dL_frames_348 : decode cL_frames 348 = .ok (.if_icmp .ne 15, 3) := by decide +kernel
theorem dL_frames_351 : decode cL_frames 351 = .ok (.iload 10, 2) := by decide +kernel
theorem dL_frames_353 : decode cL_frames 353 = .ok (.aload_n 0, 1) := by decide +kernel
theorem dL_frames_354 : decode cL_frames 354 = .ok (.iconst 2, 1) := by decide +kernel
theorem dL_frames_355 : decode cL_frames 355 = .ok (.invokevirtual 13, 3) := by decide +kernel
theorem dL_frames_358 : decode cL_frames 358 = .ok (.if_icmp .ge 5, 3) := by decide +kernel
theorem dL_frames_361 : decode cL_frames 361 = .ok (.iconst 0, 1) := by decide +kernel
theorem dL_frames_362 : decode cL_frames 362 = .ok (.ireturn, 1) := by decide +kernel
theorem dL_frames_363 : decode cL_frames 363 = .ok (.iconst 0, 1) := by decide +kernel
theorem dL_frames_364 : decode cL_frames 364 = .ok (.istore 14, 2) := by decide +kernel
theorem dL_frames_366 : decode cL_frames 366 = .ok (.iload 14, 2) := by decide +kernel
theorem dL_frames_368 : decode cL_frames 368 = .ok (.bipush 8, 2) := by decide +kernel
theorem dL_frames_370 : decode cL_frames 370 = .ok (.if_icmp .ge 100, 3) := by decide +kernel
theorem dL_frames_373 : decode cL_frames 373 = .ok (.aload_n 0, 1) := by decide +kernel
theorem dL_frames_374 : decode cL_frames 374 = .ok (.iload 14, 2) := by decide +kernel
theorem dL_frames_376 : decode cL_frames 376 = .ok (.iconst 5, 1) := by decide +kernel
theorem dL_frames_377 : decode cL_frames 377 = .ok (.invokevirtual 19, 3) := by decide +kernel
theorem dL_frames_380 : decode cL_frames 380 = .ok (.aload 5, 2) := by decide +kernel
theorem dL_frames_382 : decode cL_frames 382 = .ok (.iload 14, 2) := by decide +kernel
theorem dL_frames_384 : decode cL_frames 384 = .ok (.iaload, 1) := by decide +kernel
theorem dL_frames_385 : decode cL_frames 385 = .ok (.isub, 1) := by decide +kernel
theorem dL_frames_386 : decode cL_frames 386 = .ok (.istore 15, 2) := by decide +kernel
theorem dL_frames_388 : decode cL_frames 388 = .ok (.aload_n 0, 1) := by decide +kernel
theorem dL_frames_389 : decode cL_frames 389 = .ok (.iload 14, 2) := by decide +kernel
theorem dL_frames_391 : decode cL_frames 391 = .ok (.bipush 8, 2) := by decide +kernel
theorem dL_frames_393 : decode cL_frames 393 = .ok (.invokevirtual 23, 3) := by decide +kernel
theorem dL_frames_396 : decode cL_frames 396 = .ok (.aload 6, 2) := by decide +kernel
theorem dL_frames_398 : decode cL_frames 398 = .ok (.iload 14, 2) := by decide +kernel
theorem dL_frames_400 : decode cL_frames 400 = .ok (.iaload, 1) := by decide +kernel
theorem dL_frames_401 : decode cL_frames 401 = .ok (.isub, 1) := by decide +kernel
theorem dL_frames_402 : decode cL_frames 402 = .ok (.istore 16, 2) := by decide +kernel
theorem dL_frames_404 : decode cL_frames 404 = .ok (.iload 8, 2) := by decide +kernel
theorem dL_frames_406 : decode cL_frames 406 = .ok (.iload 14, 2) := by decide +kernel
theorem dL_frames_408 : decode cL_frames 408 = .ok (.ishr, 1) := by decide +kernel
theorem dL_frames_409 : decode cL_frames 409 = .ok (.iconst 1, 1) := by decide +kernel
theorem dL_frames_410 : decode cL_frames 410 = .ok (.iand, 1) := by decide +kernel
theorem dL_frames_411 : decode cL_frames 411 = .ok (.ifCond .ne 16, 3) := by decide +kernel
theorem dL_frames_414 : decode cL_frames 414 = .ok (.iload 15, 2) := by decide +kernel
theorem dL_frames_416 : decode cL_frames 416 = .ok (.ifCond .ne 46, 3) := by decide +kernel
theorem dL_frames_419 : decode cL_frames 419 = .ok (.iload 16, 2) := by decide +kernel
theorem dL_frames_421 : decode cL_frames 421 = .ok (.ifCond .eq 43, 3) := by decide +kernel
theorem dL_frames_424 : decode cL_frames 424 = .ok (.goto 38, 3) := by decide +kernel
theorem dL_frames_427 : decode cL_frames 427 = .ok (.aload 5, 2) := by decide +kernel
theorem dL_frames_429 : decode cL_frames 429 = .ok (.iload 14, 2) := by decide +kernel
theorem dL_frames_431 : decode cL_frames 431 = .ok (.iaload, 1) := by decide +kernel
theorem dL_frames_432 : decode cL_frames 432 = .ok (.bipush 12, 2) := by decide +kernel
theorem dL_frames_434 : decode cL_frames 434 = .ok (.if_icmp .ne 17, 3) := by decide +kernel
theorem dL_frames_437 : decode cL_frames 437 = .ok (.iload 15, 2) := by decide +kernel
theorem dL_frames_439 : decode cL_frames 439 = .ok (.ifCond .ne 23, 3) := by decide +kernel
theorem dL_frames_442 : decode cL_frames 442 = .ok (.iload 16, 2) := by decide +kernel
theorem dL_frames_444 : decode cL_frames 444 = .ok (.iconst 1, 1) := by decide +kernel
theorem dL_frames_445 : decode cL_frames 445 = .ok (.if_icmp .eq 19, 3) := by decide +kernel
theorem dL_frames_448 : decode cL_frames 448 = .ok (.goto 14, 3) := by decide +kernel
theorem dL_frames_451 : decode cL_frames 451 = .ok (.iload 15, 2) := by decide +kernel
theorem dL_frames_453 : decode cL_frames 453 = .ok (.iconst 1, 1) := by decide +kernel
theorem dL_frames_454 : decode cL_frames 454 = .ok (.if_icmp .ne 8, 3) := by decide +kernel
theorem dL_frames_457 : decode cL_frames 457 = .ok (.iload 16, 2) := by decide +kernel
theorem dL_frames_459 : decode cL_frames 459 = .ok (.ifCond .eq 5, 3) := by decide +kernel
theorem dL_frames_462 : decode cL_frames 462 = .ok (.iconst 0, 1) := by decide +kernel
theorem dL_frames_463 : decode cL_frames 463 = .ok (.ireturn, 1) := by decide +kernel
theorem dL_frames_464 : decode cL_frames 464 = .ok (.iinc 14 1, 3) := by decide +kernel
theorem dL_frames_467 : decode cL_frames 467 = .ok (.goto (-101), 3) := by decide +kernel
theorem dL_frames_470 : decode cL_frames 470 = .ok (.iconst 1, 1) := by decide +kernel
theorem dL_frames_471 : decode cL_frames 471 = .ok (.ireturn, 1) := by decide +kernel
theorem dL_parts_0 : decode cL_parts 0 = .ok (.aload_n 0, 1) := by decide +kernel
theorem dL_parts_1 : decode cL_parts 1 = .ok (.invokevirtual 67, 3) := by decide +kernel
theorem dL_parts_4 : decode cL_parts 4 = .ok (.istore_n 3, 1) := by decide +kernel
theorem dL_parts_5 : decode cL_parts 5 = .ok (.aload_n 0, 1) := by decide +kernel
theorem dL_parts_6 : decode cL_parts 6 = .ok (.iload_n 1, 1) := by decide +kernel
theorem dL_parts_7 : decode cL_parts 7 = .ok (.iload_n 2, 1) := by decide +kernel
theorem dL_parts_8 : decode cL_parts 8 = .ok (.iadd, 1) := by decide +kernel
theorem dL_parts_9 : decode cL_parts 9 = .ok (.invokevirtual 70, 3) := by decide +kernel
theorem dL_parts_12 : decode cL_parts 12 = .ok (.istore 4, 2) := by decide +kernel
theorem dL_parts_14 : decode cL_parts 14 = .ok (.aload_n 0, 1) := by decide +kernel
theorem dL_parts_15 : decode cL_parts 15 = .ok (.invokestatic 73, 3) := by decide +kernel
theorem dL_parts_18 : decode cL_parts 18 = .ok (.lstore 5, 2) := by decide +kernel
theorem dL_parts_20 : decode cL_parts 20 = .ok (.iconst 0, 1) := by decide +kernel
theorem dL_parts_21 : decode cL_parts 21 = .ok (.istore 7, 2) := by decide +kernel
theorem dL_parts_23 : decode cL_parts 23 = .ok (.iload 7, 2) := by decide +kernel
theorem dL_parts_25 : decode cL_parts 25 = .ok (.aload_n 0, 1) := by decide +kernel
theorem dL_parts_26 : decode cL_parts 26 = .ok (.iconst 5, 1) := by decide +kernel
theorem dL_parts_27 : decode cL_parts 27 = .ok (.invokevirtual 13, 3) := by decide +kernel
theorem dL_parts_30 : decode cL_parts 30 = .ok (.if_icmp .ge 26, 3) := by decide +kernel
theorem dL_parts_33 : decode cL_parts 33 = .ok (.aload_n 0, 1) := by decide +kernel
theorem dL_parts_34 : decode cL_parts 34 = .ok (.iload 7, 2) := by decide +kernel
theorem dL_parts_36 : decode cL_parts 36 = .ok (.iconst 2, 1) := by decide +kernel
theorem dL_parts_37 : decode cL_parts 37 = .ok (.invokevirtual 36, 3) := by decide +kernel
theorem dL_parts_40 : decode cL_parts 40 = .ok (.aload_n 0, 1) := by decide +kernel
theorem dL_parts_41 : decode cL_parts 41 = .ok (.iconst 0, 1) := by decide +kernel
theorem dL_parts_42 : decode cL_parts 42 = .ok (.invokevirtual 13, 3) := by decide +kernel
theorem dL_parts_45 : decode cL_parts 45 = .ok (.if_icmp .lt 5, 3) := by decide +kernel
theorem dL_parts_48 : decode cL_parts 48 = .ok (.iconst 0, 1) := by decide +kernel
theorem dL_parts_49 : decode cL_parts 49 = .ok (.ireturn, 1) := by decide +kernel
theorem dL_parts_50 : decode cL_parts 50 = .ok (.iinc 7 1, 3) := by decide +kernel
theorem dL_parts_53 : decode cL_parts 53 = .ok (.goto (-30), 3) := by decide +kernel
theorem dL_parts_56 : decode cL_parts 56 = .ok (.aload_n 0, 1) := by decide +kernel
theorem dL_parts_57 : decode cL_parts 57 = .ok (.iconst 4, 1) := by decide +kernel
theorem dL_parts_58 : decode cL_parts 58 = .ok (.invokevirtual 13, 3) := by decide +kernel
theorem dL_parts_61 : decode cL_parts 61 = .ok (.iload_n 3, 1) := by decide +kernel
theorem dL_parts_62 : decode cL_parts 62 = .ok (.iload_n 1, 1) := by decide +kernel
theorem dL_parts_63 : decode cL_parts 63 = .ok (.iadd, 1) := by decide +kernel
theorem dL_parts_64 : decode cL_parts 64 = .ok (.iload_n 2, 1) := by decide +kernel
theorem dL_parts_65 : decode cL_parts 65 = .ok (.iadd, 1) := by decide +kernel
theorem dL_parts_66 : decode cL_parts 66 = .ok (.if_icmp .ne 11, 3) := by decide +kernel
theorem dL_parts_69 : decode cL_parts 69 = .ok (.aload_n 0, 1) := by decide +kernel
theorem dL_parts_70 : decode cL_parts 70 = .ok (.invokevirtual 77, 3) := by decide +kernel
theorem dL_parts_73 : decode cL_parts 73 = .ok (.iload_n 3, 1) := by decide +kernel
theorem dL_parts_74 : decode cL_parts 74 = .ok (.if_icmp .eq 5, 3) := by decide +kernel
theorem dL_parts_77 : decode cL_parts 77 = .ok (.iconst 0, 1) := by decide +kernel
theorem dL_parts_78 : decode cL_parts 78 = .ok (.ireturn, 1) := by decide +kernel
theorem dL_parts_79 : decode cL_parts 79 = .ok (.aload_n 0, 1) := by decide +kernel
theorem dL_parts_80 : decode cL_parts 80 = .ok (.iload_n 1, 1) := by decide +kernel
theorem dL_parts_81 : decode cL_parts 81 = .ok (.invokevirtual 70, 3) := by decide +kernel
theorem dL_parts_84 : decode cL_parts 84 = .ok (.istore 7, 2) := by decide +kernel
theorem dL_parts_86 : decode cL_parts 86 = .ok (.iload 7, 2) := by decide +kernel
theorem dL_parts_88 : decode cL_parts 88 = .ok (.aload_n 0, 1) := by decide +kernel
theorem dL_parts_89 : decode cL_parts 89 = .ok (.iload_n 2, 1) := by decide +kernel
theorem dL_parts_90 : decode cL_parts 90 = .ok (.invokevirtual 70, 3) := by decide +kernel
theorem dL_parts_93 : decode cL_parts 93 = .ok (.iadd, 1) := by decide +kernel
theorem dL_parts_94 : decode cL_parts 94 = .ok (.iload 4, 2) := by decide +kernel
theorem dL_parts_96 : decode cL_parts 96 = .ok (.if_icmp .ne 17, 3) := by decide +kernel
theorem dL_parts_99 : decode cL_parts 99 = .ok (.aload_n 0, 1) := by decide +kernel
theorem dL_parts_100 : decode cL_parts 100 = .ok (.invokestatic 73, 3) := by decide +kernel
theorem dL_parts_103 : decode cL_parts 103 = .ok (.lload 5, 2) := by decide +kernel
theorem dL_parts_105 : decode cL_parts 105 = .ok (.lcmp, 1) := by decide +kernel
theorem dL_parts_106 : decode cL_parts 106 = .ok (.ifCond .ne 7, 3) := by decide +kernel
theorem dL_parts_109 : decode cL_parts 109 = .ok (.iconst 1, 1) := by decide +kernel
theorem dL_parts_110 : decode cL_parts 110 = .ok (.goto 4, 3) := by decide +kernel
theorem dL_parts_113 : decode cL_parts 113 = .ok (.iconst 0, 1) := by decide +kernel
theorem dL_parts_114 : decode cL_parts 114 = .ok (.ireturn, 1) := by decide +kernel
theorem dL_cables_0 : decode cL_cables 0 = .ok (.iload_n 2, 1) := by decide +kernel
theorem dL_cables_1 : decode cL_cables 1 = .ok (.bipush 8, 2) := by decide +kernel
theorem dL_cables_3 : decode cL_cables 3 = .ok (.invokestatic 80, 3) := by decide +kernel
theorem dL_cables_6 : decode cL_cables 6 = .ok (.istore_n 3, 1) := by decide +kernel
theorem dL_cables_7 : decode cL_cables 7 = .ok (.aload_n 0, 1) := by decide +kernel
theorem dL_cables_8 : decode cL_cables 8 = .ok (.bipush 8, 2) := by decide +kernel
theorem dL_cables_10 : decode cL_cables 10 = .ok (.invokevirtual 13, 3) := by decide +kernel
theorem dL_cables_13 : decode cL_cables 13 = .ok (.istore 4, 2) := by decide +kernel
theorem dL_cables_15 : decode cL_cables 15 = .ok (.iload_n 1, 1) := by decide +kernel
theorem dL_cables_16 : decode cL_cables 16 = .ok (.iload_n 3, 1) := by decide +kernel
theorem dL_cables_17 : decode cL_cables 17 = .ok (.if_icmp .eq 29, 3) := by decide +kernel
theorem dL_cables_20 : decode cL_cables 20 = .ok (.aload_n 0, 1) := by decide +kernel
theorem dL_cables_21 : decode cL_cables 21 = .ok (.iload_n 1, 1) := by decide +kernel
theorem dL_cables_22 : decode cL_cables 22 = .ok (.iconst 4, 1) := by decide +kernel
theorem dL_cables_23 : decode cL_cables 23 = .ok (.invokevirtual 19, 3) := by decide +kernel
theorem dL_cables_26 : decode cL_cables 26 = .ok (.bipush (-4), 2) := by decide +kernel
theorem dL_cables_28 : decode cL_cables 28 = .ok (.if_icmp .ne 18, 3) := by decide +kernel
theorem dL_cables_31 : decode cL_cables 31 = .ok (.aload_n 0, 1) := by decide +kernel
theorem dL_cables_32 : decode cL_cables 32 = .ok (.iload_n 3, 1) := by decide +kernel
theorem dL_cables_33 : decode cL_cables 33 = .ok (.iconst 4, 1) := by decide +kernel
theorem dL_cables_34 : decode cL_cables 34 = .ok (.invokevirtual 19, 3) := by decide +kernel
theorem dL_cables_37 : decode cL_cables 37 = .ok (.bipush (-4), 2) := by decide +kernel
theorem dL_cables_39 : decode cL_cables 39 = .ok (.if_icmp .ne 7, 3) := by decide +kernel
theorem dL_cables_42 : decode cL_cables 42 = .ok (.iconst 1, 1) := by decide +kernel
theorem dL_cables_43 : decode cL_cables 43 = .ok (.goto 4, 3) := by decide +kernel
theorem dL_cables_46 : decode cL_cables 46 = .ok (.iconst 0, 1) := by decide +kernel
theorem dL_cables_47 : decode cL_cables 47 = .ok (.istore 5, 2) := by decide +kernel
theorem dL_cables_49 : decode cL_cables 49 = .ok (.iload_n 2, 1) := by decide +kernel
theorem dL_cables_50 : decode cL_cables 50 = .ok (.sipush 256, 3) := by decide +kernel
theorem dL_cables_53 : decode cL_cables 53 = .ok (.iand, 1) := by decide +kernel
theorem dL_cables_54 : decode cL_cables 54 = .ok (.ifCond .ne 57, 3) := by decide +kernel
theorem dL_cables_57 : decode cL_cables 57 = .ok (.aload_n 0, 1) := by decide +kernel
theorem dL_cables_58 : decode cL_cables 58 = .ok (.iload_n 1, 1) := by decide +kernel
theorem dL_cables_59 : decode cL_cables 59 = .ok (.iload_n 3, 1) := by decide +kernel
theorem dL_cables_60 : decode cL_cables 60 = .ok (.invokevirtual 83, 3) := by decide +kernel
theorem dL_cables_63 : decode cL_cables 63 = .ok (.iload_n 1, 1) := by decide +kernel
theorem dL_cables_64 : decode cL_cables 64 = .ok (.iload_n 3, 1) := by decide +kernel
theorem dL_cables_65 : decode cL_cables 65 = .ok (.if_icmp .ne 8, 3) := by decide +kernel
theorem dL_cables_68 : decode cL_cables 68 = .ok (.bipush (-2), 2) := by decide +kernel
theorem dL_cables_70 : decode cL_cables 70 = .ok (.goto 17, 3) := by decide +kernel
theorem dL_cables_73 : decode cL_cables 73 = .ok (.iload 5, 2) := by decide +kernel
theorem dL_cables_75 : decode cL_cables 75 = .ok (.ifCond .eq 10, 3) := by decide +kernel
theorem dL_cables_78 : decode cL_cables 78 = .ok (.iload 4, 2) := by decide +kernel
theorem dL_cables_80 : decode cL_cables 80 = .ok (.iconst 1, 1) := by decide +kernel
theorem dL_cables_81 : decode cL_cables 81 = .ok (.iadd, 1) := by decide +kernel
theorem dL_cables_82 : decode cL_cables 82 = .ok (.goto 5, 3) := by decide +kernel
theorem dL_cables_85 : decode cL_cables 85 = .ok (.bipush (-3), 2) := by decide +kernel
theorem dL_cables_87 : decode cL_cables 87 = .ok (.if_icmp .ne 22, 3) := by decide +kernel
theorem dL_cables_90 : decode cL_cables 90 = .ok (.iload 5, 2) := by decide +kernel
theorem dL_cables_92 : decode cL_cables 92 = .ok (.ifCond .eq 13, 3) := by decide +kernel
theorem dL_cables_95 : decode cL_cables 95 = .ok (.aload_n 0, 1) := by decide +kernel
theorem dL_cables_96 : decode cL_cables 96 = .ok (.iload_n 1, 1) := by decide +kernel
theorem dL_cables_97 : decode cL_cables 97 = .ok (.iconst 4, 1) := by decide +kernel
theorem dL_cables_98 : decode cL_cables 98 = .ok (.invokevirtual 19, 3) := by decide +kernel
theorem dL_cables_101 : decode cL_cables 101 = .ok (.iload_n 3, 1) := by decide +kernel
theorem dL_cables_102 : decode cL_cables 102 = .ok (.if_icmp .ne 7, 3) := by decide +kernel
theorem dL_cables_105 : decode cL_cables 105 = .ok (.iconst 1, 1) := by decide +kernel
theorem dL_cables_106 : decode cL_cables 106 = .ok (.goto 4, 3) := by decide +kernel
theorem dL_cables_109 : decode cL_cables 109 = .ok (.iconst 0, 1) := by decide +kernel
theorem dL_cables_110 : decode cL_cables 110 = .ok (.ireturn, 1) := by decide +kernel
theorem dL_cables_111 : decode cL_cables 111 = .ok (.aload_n 0, 1) := by decide +kernel
theorem dL_cables_112 : decode cL_cables 112 = .ok (.iload_n 1, 1) := by decide +kernel
theorem dL_cables_113 : decode cL_cables 113 = .ok (.iconst 4, 1) := by decide +kernel
theorem dL_cables_114 : decode cL_cables 114 = .ok (.invokevirtual 19, 3) := by decide +kernel
theorem dL_cables_117 : decode cL_cables 117 = .ok (.istore 6, 2) := by decide +kernel
theorem dL_cables_119 : decode cL_cables 119 = .ok (.aload_n 0, 1) := by decide +kernel
theorem dL_cables_120 : decode cL_cables 120 = .ok (.iload_n 1, 1) := by decide +kernel
theorem dL_cables_121 : decode cL_cables 121 = .ok (.invokevirtual 86, 3) := by decide +kernel
theorem dL_cables_124 : decode cL_cables 124 = .ok (.iload 6, 2) := by decide +kernel
theorem dL_cables_126 : decode cL_cables 126 = .ok (.if_icmp .ne 35, 3) := by decide +kernel
theorem dL_cables_129 : decode cL_cables 129 = .ok (.aload_n 0, 1) := by decide +kernel
theorem dL_cables_130 : decode cL_cables 130 = .ok (.iload_n 1, 1) := by decide +kernel
theorem dL_cables_131 : decode cL_cables 131 = .ok (.iconst 4, 1) := by decide +kernel
theorem dL_cables_132 : decode cL_cables 132 = .ok (.invokevirtual 19, 3) := by decide +kernel
theorem dL_cables_135 : decode cL_cables 135 = .ok (.bipush (-4), 2) := by decide +kernel
theorem dL_cables_137 : decode cL_cables 137 = .ok (.if_icmp .ne 24, 3) := by decide +kernel
theorem dL_cables_140 : decode cL_cables 140 = .ok (.iload 6, 2) := by decide +kernel
theorem dL_cables_142 : decode cL_cables 142 = .ok (.ifCond .lt 15, 3) := by decide +kernel
theorem dL_cables_145 : decode cL_cables 145 = .ok (.aload_n 0, 1) := by decide +kernel
theorem dL_cables_146 : decode cL_cables 146 = .ok (.iload 6, 2) := by decide +kernel
theorem dL_cables_148 : decode cL_cables 148 = .ok (.iconst 4, 1) := by decide +kernel
theorem dL_cables_149 : decode cL_cables 149 = .ok (.invokevirtual 19, 3) := by decide +kernel
theorem dL_cables_152 : decode cL_cables 152 = .ok (.bipush (-4), 2) := by decide +kernel
theorem dL_cables_154 : decode cL_cables 154 = .ok (.if_icmp .ne 7, 3) := by decide +kernel
theorem dL_cables_157 : decode cL_cables 157 = .ok (.iconst 1, 1) := by decide +kernel
theorem dL_cables_158 : decode cL_cables 158 = .ok (.goto 4, 3) := by decide +kernel
theorem dL_cables_161 : decode cL_cables 161 = .ok (.iconst 0, 1) := by decide +kernel
theorem dL_cables_162 : decode cL_cables 162 = .ok (.ireturn, 1) := by decide +kernel
theorem dL_sets_0 : decode cL_sets 0 = .ok (.iload_n 1, 1) := by decide +kernel
theorem dL_sets_1 : decode cL_sets 1 = .ok (.ifCond .ne 97, 3) := by decide +kernel
theorem dL_sets_4 : decode cL_sets 4 = .ok (.aload_n 0, 1) := by decide +kernel
theorem dL_sets_5 : decode cL_sets 5 = .ok (.iload_n 2, 1) := by decide +kernel
theorem dL_sets_6 : decode cL_sets 6 = .ok (.iconst 0, 1) := by decide +kernel
theorem dL_sets_7 : decode cL_sets 7 = .ok (.invokevirtual 19, 3) := by decide +kernel
theorem dL_sets_10 : decode cL_sets 10 = .ok (.istore 4, 2) := by decide +kernel
theorem dL_sets_12 : decode cL_sets 12 = .ok (.iload_n 3, 1) := by decide +kernel
theorem dL_sets_13 : decode cL_sets 13 = .ok (.iconst 3, 1) := by decide +kernel
theorem dL_sets_14 : decode cL_sets 14 = .ok (.iand, 1) := by decide +kernel
theorem dL_sets_15 : decode cL_sets 15 = .ok (.ifCond .ne 7, 3) := by decide +kernel
theorem dL_sets_18 : decode cL_sets 18 = .ok (.iconst 0, 1) := by decide +kernel
theorem dL_sets_19 : decode cL_sets 19 = .ok (.goto 4, 3) := by decide +kernel
theorem dL_sets_22 : decode cL_sets 22 = .ok (.iconst 1, 1) := by decide +kernel
theorem dL_sets_23 : decode cL_sets 23 = .ok (.istore 5, 2) := by decide +kernel
theorem dL_sets_25 : decode cL_sets 25 = .ok (.aload_n 0, 1) := by decide +kernel
theorem dL_sets_26 : decode cL_sets 26 = .ok (.iload_n 2, 1) := by decide +kernel
theorem dL_sets_27 : decode cL_sets 27 = .ok (.iload 5, 2) := by decide +kernel
theorem dL_sets_29 : decode cL_sets 29 = .ok (.iconst 1, 1) := by decide +kernel
theorem dL_sets_30 : decode cL_sets 30 = .ok (.if_icmp .ne 7, 3) := by decide +kernel
theorem dL_sets_33 : decode cL_sets 33 = .ok (.iconst 1, 1) := by decide +kernel
theorem dL_sets_34 : decode cL_sets 34 = .ok (.goto 4, 3) := by decide +kernel
theorem dL_sets_37 : decode cL_sets 37 = .ok (.iconst 0, 1) := by decide +kernel
theorem dL_sets_38 : decode cL_sets 38 = .ok (.invokevirtual 89, 3) := by decide +kernel
