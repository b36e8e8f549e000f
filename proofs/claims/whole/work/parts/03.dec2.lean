theorem dX2_anew_0 : decode cX2_anew 0 = .ok (.aload_n 0, 1) := by decide +kernel
theorem dX2_anew_1 : decode cX2_anew 1 = .ok (.iconst 0, 1) := by decide +kernel
theorem dX2_anew_2 : decode cX2_anew 2 = .ok (.putfield 114, 3) := by decide +kernel
theorem dX2_anew_5 : decode cX2_anew 5 = .ok (.iconst 0, 1) := by decide +kernel
theorem dX2_anew_6 : decode cX2_anew 6 = .ok (.istore_n 1, 1) := by decide +kernel
theorem dX2_anew_7 : decode cX2_anew 7 = .ok (.iload_n 1, 1) := by decide +kernel
theorem dX2_anew_8 : decode cX2_anew 8 = .ok (.iconst 4, 1) := by decide +kernel
theorem dX2_anew_9 : decode cX2_anew 9 = .ok (.if_icmp .ge 21, 3) := by decide +kernel
theorem dX2_anew_12 : decode cX2_anew 12 = .ok (.aload_n 0, 1) := by decide +kernel
theorem dX2_anew_13 : decode cX2_anew 13 = .ok (.getfield 102, 3) := by decide +kernel
theorem dX2_anew_16 : decode cX2_anew 16 = .ok (.iload_n 1, 1) := by decide +kernel
theorem dX2_anew_17 : decode cX2_anew 17 = .ok (.aload_n 0, 1) := by decide +kernel
theorem dX2_anew_18 : decode cX2_anew 18 = .ok (.getfield 84, 3) := by decide +kernel
theorem dX2_anew_21 : decode cX2_anew 21 = .ok (.iload_n 1, 1) := by decide +kernel
theorem dX2_anew_22 : decode cX2_anew 22 = .ok (.iaload, 1) := by decide +kernel
theorem dX2_anew_23 : decode cX2_anew 23 = .ok (.iastore, 1) := by decide +kernel
theorem dX2_anew_24 : decode cX2_anew 24 = .ok (.iinc 1 1, 3) := by decide +kernel
theorem dX2_anew_27 : decode cX2_anew 27 = .ok (.goto (-20), 3) := by decide +kernel
theorem dX2_anew_30 : decode cX2_anew 30 = .ok (.return_, 1) := by decide +kernel
theorem dX2_lay_0 : decode cX2_lay 0 = .ok (.bipush 24, 2) := by decide +kernel
theorem dX2_lay_2 : decode cX2_lay 2 = .ok (.istore_n 2, 1) := by decide +kernel
theorem dX2_lay_3 : decode cX2_lay 3 = .ok (.iload_n 2, 1) := by decide +kernel
theorem dX2_lay_4 : decode cX2_lay 4 = .ok (.ifCond .lt 35, 3) := by decide +kernel
theorem dX2_lay_7 : decode cX2_lay 7 = .ok (.aload_n 0, 1) := by decide +kernel
theorem dX2_lay_8 : decode cX2_lay 8 = .ok (.getfield 93, 3) := by decide +kernel
theorem dX2_lay_11 : decode cX2_lay 11 = .ok (.aload_n 0, 1) := by decide +kernel
theorem dX2_lay_12 : decode cX2_lay 12 = .ok (.getfield 118, 3) := by decide +kernel
theorem dX2_lay_15 : decode cX2_lay 15 = .ok (.iload_n 1, 1) := by decide +kernel
theorem dX2_lay_16 : decode cX2_lay 16 = .ok (.iload_n 2, 1) := by decide +kernel
theorem dX2_lay_17 : decode cX2_lay 17 = .ok (.ishr, 1) := by decide +kernel
theorem dX2_lay_18 : decode cX2_lay 18 = .ok (.sipush 255, 3) := by decide +kernel
theorem dX2_lay_21 : decode cX2_lay 21 = .ok (.iand, 1) := by decide +kernel
theorem dX2_lay_22 : decode cX2_lay 22 = .ok (.iastore, 1) := by decide +kernel
theorem dX2_lay_23 : decode cX2_lay 23 = .ok (.aload_n 0, 1) := by decide +kernel
theorem dX2_lay_24 : decode cX2_lay 24 = .ok (.dup, 1) := by decide +kernel
theorem dX2_lay_25 : decode cX2_lay 25 = .ok (.getfield 118, 3) := by decide +kernel
theorem dX2_lay_28 : decode cX2_lay 28 = .ok (.iconst 1, 1) := by decide +kernel
theorem dX2_lay_29 : decode cX2_lay 29 = .ok (.iadd, 1) := by decide +kernel
theorem dX2_lay_30 : decode cX2_lay 30 = .ok (.putfield 118, 3) := by decide +kernel
theorem dX2_lay_33 : decode cX2_lay 33 = .ok (.iinc 2 (-8), 3) := by decide +kernel
theorem dX2_lay_36 : decode cX2_lay 36 = .ok (.goto (-33), 3) := by decide +kernel
theorem dX2_lay_39 : decode cX2_lay 39 = .ok (.return_, 1) := by decide +kernel
theorem dX2_feed_0 : decode cX2_feed 0 = .ok (.aload_n 0, 1) := by decide +kernel
theorem dX2_feed_1 : decode cX2_feed 1 = .ok (.getfield 118, 3) := by decide +kernel
theorem dX2_feed_4 : decode cX2_feed 4 = .ok (.bipush 20, 2) := by decide +kernel
theorem dX2_feed_6 : decode cX2_feed 6 = .ok (.iadd, 1) := by decide +kernel
theorem dX2_feed_7 : decode cX2_feed 7 = .ok (.sipush 2000, 3) := by decide +kernel
theorem dX2_feed_10 : decode cX2_feed 10 = .ok (.if_icmp .le 5, 3) := by decide +kernel
theorem dX2_feed_13 : decode cX2_feed 13 = .ok (.iconst 0, 1) := by decide +kernel
theorem dX2_feed_14 : decode cX2_feed 14 = .ok (.ireturn, 1) := by decide +kernel
theorem dX2_feed_15 : decode cX2_feed 15 = .ok (.aload_n 0, 1) := by decide +kernel
theorem dX2_feed_16 : decode cX2_feed 16 = .ok (.iload_n 1, 1) := by decide +kernel
theorem dX2_feed_17 : decode cX2_feed 17 = .ok (.invokevirtual 121, 3) := by decide +kernel
theorem dX2_feed_20 : decode cX2_feed 20 = .ok (.aload_n 0, 1) := by decide +kernel
theorem dX2_feed_21 : decode cX2_feed 21 = .ok (.iload_n 2, 1) := by decide +kernel
theorem dX2_feed_22 : decode cX2_feed 22 = .ok (.invokevirtual 121, 3) := by decide +kernel
theorem dX2_feed_25 : decode cX2_feed 25 = .ok (.aload_n 0, 1) := by decide +kernel
theorem dX2_feed_26 : decode cX2_feed 26 = .ok (.iload_n 3, 1) := by decide +kernel
theorem dX2_feed_27 : decode cX2_feed 27 = .ok (.invokevirtual 121, 3) := by decide +kernel
theorem dX2_feed_30 : decode cX2_feed 30 = .ok (.aload_n 0, 1) := by decide +kernel
theorem dX2_feed_31 : decode cX2_feed 31 = .ok (.iload 4, 2) := by decide +kernel
theorem dX2_feed_33 : decode cX2_feed 33 = .ok (.invokevirtual 121, 3) := by decide +kernel
theorem dX2_feed_36 : decode cX2_feed 36 = .ok (.aload_n 0, 1) := by decide +kernel
theorem dX2_feed_37 : decode cX2_feed 37 = .ok (.iload 5, 2) := by decide +kernel
theorem dX2_feed_39 : decode cX2_feed 39 = .ok (.invokevirtual 121, 3) := by decide +kernel
theorem dX2_feed_42 : decode cX2_feed 42 = .ok (.iconst 1, 1) := by decide +kernel
theorem dX2_feed_43 : decode cX2_feed 43 = .ok (.ireturn, 1) := by decide +kernel
theorem dX2_end_0 : decode cX2_end 0 = .ok (.iload_n 1, 1) := by decide +kernel
theorem dX2_end_1 : decode cX2_end 1 = .ok (.ifCond .lt 11, 3) := by decide +kernel
theorem dX2_end_4 : decode cX2_end 4 = .ok (.iload_n 1, 1) := by decide +kernel
theorem dX2_end_5 : decode cX2_end 5 = .ok (.aload_n 0, 1) := by decide +kernel
theorem dX2_end_6 : decode cX2_end 6 = .ok (.getfield 118, 3) := by decide +kernel
theorem dX2_end_9 : decode cX2_end 9 = .ok (.if_icmp .le 5, 3) := by decide +kernel
theorem dX2_end_12 : decode cX2_end 12 = .ok (.iconst 0, 1) := by decide +kernel
theorem dX2_end_13 : decode cX2_end 13 = .ok (.ireturn, 1) := by decide +kernel
theorem dX2_end_14 : decode cX2_end 14 = .ok (.aload_n 0, 1) := by decide +kernel
theorem dX2_end_15 : decode cX2_end 15 = .ok (.iload_n 1, 1) := by decide +kernel
theorem dX2_end_16 : decode cX2_end 16 = .ok (.putfield 118, 3) := by decide +kernel
theorem dX2_end_19 : decode cX2_end 19 = .ok (.iconst 1, 1) := by decide +kernel
theorem dX2_end_20 : decode cX2_end 20 = .ok (.ireturn, 1) := by decide +kernel
theorem dX2_word_0 : decode cX2_word 0 = .ok (.aload_n 0, 1) := by decide +kernel
theorem dX2_word_1 : decode cX2_word 1 = .ok (.getfield 99, 3) := by decide +kernel
theorem dX2_word_4 : decode cX2_word 4 = .ok (.iconst 4, 1) := by decide +kernel
theorem dX2_word_5 : decode cX2_word 5 = .ok (.iload_n 1, 1) := by decide +kernel
theorem dX2_word_6 : decode cX2_word 6 = .ok (.imul, 1) := by decide +kernel
theorem dX2_word_7 : decode cX2_word 7 = .ok (.iaload, 1) := by decide +kernel
theorem dX2_word_8 : decode cX2_word 8 = .ok (.aload_n 0, 1) := by decide +kernel
theorem dX2_word_9 : decode cX2_word 9 = .ok (.getfield 99, 3) := by decide +kernel
theorem dX2_word_12 : decode cX2_word 12 = .ok (.iconst 4, 1) := by decide +kernel
theorem dX2_word_13 : decode cX2_word 13 = .ok (.iload_n 1, 1) := by decide +kernel
theorem dX2_word_14 : decode cX2_word 14 = .ok (.imul, 1) := by decide +kernel
theorem dX2_word_15 : decode cX2_word 15 = .ok (.iconst 1, 1) := by decide +kernel
theorem dX2_word_16 : decode cX2_word 16 = .ok (.iadd, 1) := by decide +kernel
theorem dX2_word_17 : decode cX2_word 17 = .ok (.iaload, 1) := by decide +kernel
theorem dX2_word_18 : decode cX2_word 18 = .ok (.bipush 8, 2) := by decide +kernel
theorem dX2_word_20 : decode cX2_word 20 = .ok (.ishl, 1) := by decide +kernel
theorem dX2_word_21 : decode cX2_word 21 = .ok (.ior, 1) := by decide +kernel
theorem dX2_word_22 : decode cX2_word 22 = .ok (.aload_n 0, 1) := by decide +kernel
theorem dX2_word_23 : decode cX2_word 23 = .ok (.getfield 99, 3) := by decide +kernel
theorem dX2_word_26 : decode cX2_word 26 = .ok (.iconst 4, 1) := by decide +kernel
theorem dX2_word_27 : decode cX2_word 27 = .ok (.iload_n 1, 1) := by decide +kernel
theorem dX2_word_28 : decode cX2_word 28 = .ok (.imul, 1) := by decide +kernel
theorem dX2_word_29 : decode cX2_word 29 = .ok (.iconst 2, 1) := by decide +kernel
theorem dX2_word_30 : decode cX2_word 30 = .ok (.iadd, 1) := by decide +kernel
theorem dX2_word_31 : decode cX2_word 31 = .ok (.iaload, 1) := by decide +kernel
theorem dX2_word_32 : decode cX2_word 32 = .ok (.bipush 16, 2) := by decide +kernel
theorem dX2_word_34 : decode cX2_word 34 = .ok (.ishl, 1) := by decide +kernel
theorem dX2_word_35 : decode cX2_word 35 = .ok (.ior, 1) := by decide +kernel
theorem dX2_word_36 : decode cX2_word 36 = .ok (.aload_n 0, 1) := by decide +kernel
theorem dX2_word_37 : decode cX2_word 37 = .ok (.getfield 99, 3) := by decide +kernel
theorem dX2_word_40 : decode cX2_word 40 = .ok (.iconst 4, 1) := by decide +kernel
theorem dX2_word_41 : decode cX2_word 41 = .ok (.iload_n 1, 1) := by decide +kernel
theorem dX2_word_42 : decode cX2_word 42 = .ok (.imul, 1) := by decide +kernel
theorem dX2_word_43 : decode cX2_word 43 = .ok (.iconst 3, 1) := by decide +kernel
theorem dX2_word_44 : decode cX2_word 44 = .ok (.iadd, 1) := by decide +kernel
theorem dX2_word_45 : decode cX2_word 45 = .ok (.iaload, 1) := by decide +kernel
theorem dX2_word_46 : decode cX2_word 46 = .ok (.bipush 24, 2) := by decide +kernel
theorem dX2_word_48 : decode cX2_word 48 = .ok (.ishl, 1) := by decide +kernel
theorem dX2_word_49 : decode cX2_word 49 = .ok (.ior, 1) := by decide +kernel
theorem dX2_word_50 : decode cX2_word 50 = .ok (.ireturn, 1) := by decide +kernel
theorem dX2_mixed_0 : decode cX2_mixed 0 = .ok (.aload_n 0, 1) := by decide +kernel
theorem dX2_mixed_1 : decode cX2_mixed 1 = .ok (.getfield 105, 3) := by decide +kernel
theorem dX2_mixed_4 : decode cX2_mixed 4 = .ok (.iconst 1, 1) := by decide +kernel
theorem dX2_mixed_5 : decode cX2_mixed 5 = .ok (.iaload, 1) := by decide +kernel
theorem dX2_mixed_6 : decode cX2_mixed 6 = .ok (.istore_n 2, 1) := by decide +kernel
theorem dX2_mixed_7 : decode cX2_mixed 7 = .ok (.aload_n 0, 1) := by decide +kernel
theorem dX2_mixed_8 : decode cX2_mixed 8 = .ok (.getfield 105, 3) := by decide +kernel
theorem dX2_mixed_11 : decode cX2_mixed 11 = .ok (.iconst 2, 1) := by decide +kernel
theorem dX2_mixed_12 : decode cX2_mixed 12 = .ok (.iaload, 1) := by decide +kernel
theorem dX2_mixed_13 : decode cX2_mixed 13 = .ok (.istore_n 3, 1) := by decide +kernel
theorem dX2_mixed_14 : decode cX2_mixed 14 = .ok (.aload_n 0, 1) := by decide +kernel
theorem dX2_mixed_15 : decode cX2_mixed 15 = .ok (.getfield 105, 3) := by decide +kernel
theorem dX2_mixed_18 : decode cX2_mixed 18 = .ok (.iconst 3, 1) := by decide +kernel
theorem dX2_mixed_19 : decode cX2_mixed 19 = .ok (.iaload, 1) := by decide +kernel
theorem dX2_mixed_20 : decode cX2_mixed 20 = .ok (.istore 4, 2) := by decide +kernel
theorem dX2_mixed_22 : decode cX2_mixed 22 = .ok (.iload_n 1, 1) := by decide +kernel
theorem dX2_mixed_23 : decode cX2_mixed 23 = .ok (.tableswitch 55 0 2 #[25, 36, 48], 25) := by decide +kernel
theorem dX2_mixed_48 : decode cX2_mixed 48 = .ok (.iload_n 2, 1) := by decide +kernel
theorem dX2_mixed_49 : decode cX2_mixed 49 = .ok (.iload_n 3, 1) := by decide +kernel
theorem dX2_mixed_50 : decode cX2_mixed 50 = .ok (.iand, 1) := by decide +kernel
theorem dX2_mixed_51 : decode cX2_mixed 51 = .ok (.iload_n 2, 1) := by decide +kernel
theorem dX2_mixed_52 : decode cX2_mixed 52 = .ok (.iconst (-1), 1) := by decide +kernel
theorem dX2_mixed_53 : decode cX2_mixed 53 = .ok (.ixor, 1) := by decide +kernel
theorem dX2_mixed_54 : decode cX2_mixed 54 = .ok (.iload 4, 2) := by decide +kernel
theorem dX2_mixed_56 : decode cX2_mixed 56 = .ok (.iand, 1) := by decide +kernel
theorem dX2_mixed_57 : decode cX2_mixed 57 = .ok (.ior, 1) := by decide +kernel
theorem dX2_mixed_58 : decode cX2_mixed 58 = .ok (.ireturn, 1) := by decide +kernel
theorem dX2_mixed_59 : decode cX2_mixed 59 = .ok (.iload 4, 2) := by decide +kernel
theorem dX2_mixed_61 : decode cX2_mixed 61 = .ok (.iload_n 2, 1) := by decide +kernel
theorem dX2_mixed_62 : decode cX2_mixed 62 = .ok (.iand, 1) := by decide +kernel
theorem dX2_mixed_63 : decode cX2_mixed 63 = .ok (.iload 4, 2) := by decide +kernel
theorem dX2_mixed_65 : decode cX2_mixed 65 = .ok (.iconst (-1), 1) := by decide +kernel
theorem dX2_mixed_66 : decode cX2_mixed 66 = .ok (.ixor, 1) := by decide +kernel
theorem dX2_mixed_67 : decode cX2_mixed 67 = .ok (.iload_n 3, 1) := by decide +kernel
theorem dX2_mixed_68 : decode cX2_mixed 68 = .ok (.iand, 1) := by decide +kernel
theorem dX2_mixed_69 : decode cX2_mixed 69 = .ok (.ior, 1) := by decide +kernel
theorem dX2_mixed_70 : decode cX2_mixed 70 = .ok (.ireturn, 1) := by decide +kernel
theorem dX2_mixed_71 : decode cX2_mixed 71 = .ok (.iload_n 2, 1) := by decide +kernel
theorem dX2_mixed_72 : decode cX2_mixed 72 = .ok (.iload_n 3, 1) := by decide +kernel
theorem dX2_mixed_73 : decode cX2_mixed 73 = .ok (.ixor, 1) := by decide +kernel
theorem dX2_mixed_74 : decode cX2_mixed 74 = .ok (.iload 4, 2) := by decide +kernel
theorem dX2_mixed_76 : decode cX2_mixed 76 = .ok (.ixor, 1) := by decide +kernel
theorem dX2_mixed_77 : decode cX2_mixed 77 = .ok (.ireturn, 1) := by decide +kernel
theorem dX2_mixed_78 : decode cX2_mixed 78 = .ok (.iload_n 3, 1) := by decide +kernel
theorem dX2_mixed_79 : decode cX2_mixed 79 = .ok (.iload_n 2, 1) := by decide +kernel
theorem dX2_mixed_80 : decode cX2_mixed 80 = .ok (.iload 4, 2) := by decide +kernel
theorem dX2_mixed_82 : decode cX2_mixed 82 = .ok (.iconst (-1), 1) := by decide +kernel
theorem dX2_mixed_83 : decode cX2_mixed 83 = .ok (.ixor, 1) := by decide +kernel
theorem dX2_mixed_84 : decode cX2_mixed 84 = .ok (.ior, 1) := by decide +kernel
theorem dX2_mixed_85 : decode cX2_mixed 85 = .ok (.ixor, 1) := by decide +kernel
theorem dX2_mixed_86 : decode cX2_mixed 86 = .ok (.ireturn, 1) := by decide +kernel
theorem dX2_step_0 : decode cX2_step 0 = .ok (.iload_n 1, 1) := by decide +kernel
theorem dX2_step_1 : decode cX2_step 1 = .ok (.bipush 16, 2) := by decide +kernel
theorem dX2_step_3 : decode cX2_step 3 = .ok (.idiv, 1) := by decide +kernel
theorem dX2_step_4 : decode cX2_step 4 = .ok (.istore_n 2, 1) := by decide +kernel
theorem dX2_step_5 : decode cX2_step 5 = .ok (.aload_n 0, 1) := by decide +kernel
theorem dX2_step_6 : decode cX2_step 6 = .ok (.getfield 77, 3) := by decide +kernel
theorem dX2_step_9 : decode cX2_step 9 = .ok (.iconst 4, 1) := by decide +kernel
theorem dX2_step_10 : decode cX2_step 10 = .ok (.iload_n 2, 1) := by decide +kernel
theorem dX2_step_11 : decode cX2_step 11 = .ok (.imul, 1) := by decide +kernel
theorem dX2_step_12 : decode cX2_step 12 = .ok (.iload_n 1, 1) := by decide +kernel
theorem dX2_step_13 : decode cX2_step 13 = .ok (.iconst 4, 1) := by decide +kernel
theorem dX2_step_14 : decode cX2_step 14 = .ok (.irem, 1) := by decide +kernel
theorem dX2_step_15 : decode cX2_step 15 = .ok (.iadd, 1) := by decide +kernel
theorem dX2_step_16 : decode cX2_step 16 = .ok (.iaload, 1) := by decide +kernel
theorem dX2_step_17 : decode cX2_step 17 = .ok (.istore_n 3, 1) := by decide +kernel
theorem dX2_step_18 : decode cX2_step 18 = .ok (.aload_n 0, 1) := by decide +kernel
theorem dX2_step_19 : decode cX2_step 19 = .ok (.getfield 105, 3) := by decide +kernel
theorem dX2_step_22 : decode cX2_step 22 = .ok (.iconst 0, 1) := by decide +kernel
theorem dX2_step_23 : decode cX2_step 23 = .ok (.iaload, 1) := by decide +kernel
theorem dX2_step_24 : decode cX2_step 24 = .ok (.aload_n 0, 1) := by decide +kernel
theorem dX2_step_25 : decode cX2_step 25 = .ok (.iload_n 2, 1) := by decide +kernel
theorem dX2_step_26 : decode cX2_step 26 = .ok (.invokevirtual 125, 3) := by decide +kernel
theorem dX2_step_29 : decode cX2_step 29 = .ok (.iadd, 1) := by decide +kernel
theorem dX2_step_30 : decode cX2_step 30 = .ok (.aload_n 0, 1) := by decide +kernel
theorem dX2_step_31 : decode cX2_step 31 = .ok (.getfield 71, 3) := by decide +kernel
theorem dX2_step_34 : decode cX2_step 34 = .ok (.iload_n 1, 1) := by decide +kernel
theorem dX2_step_35 : decode cX2_step 35 = .ok (.iaload, 1) := by decide +kernel
theorem dX2_step_36 : decode cX2_step 36 = .ok (.iadd, 1) := by decide +kernel
theorem dX2_step_37 : decode cX2_step 37 = .ok (.aload_n 0, 1) := by decide +kernel
theorem dX2_step_38 : decode cX2_step 38 = .ok (.aload_n 0, 1) := by decide +kernel
theorem dX2_step_39 : decode cX2_step 39 = .ok (.getfield 87, 3) := by decide +kernel
theorem dX2_step_42 : decode cX2_step 42 = .ok (.iload_n 2, 1) := by decide +kernel
theorem dX2_step_43 : decode cX2_step 43 = .ok (.iaload, 1) := by decide +kernel
theorem dX2_step_44 : decode cX2_step 44 = .ok (.iload_n 1, 1) := by decide +kernel
theorem dX2_step_45 : decode cX2_step 45 = .ok (.imul, 1) := by decide +kernel
theorem dX2_step_46 : decode cX2_step 46 = .ok (.aload_n 0, 1) := by decide +kernel
theorem dX2_step_47 : decode cX2_step 47 = .ok (.getfield 90, 3) := by decide +kernel
theorem dX2_step_50 : decode cX2_step 50 = .ok (.iload_n 2, 1) := by decide +kernel
theorem dX2_step_51 : decode cX2_step 51 = .ok (.iaload, 1) := by decide +kernel
theorem dX2_step_52 : decode cX2_step 52 = .ok (.iadd, 1) := by decide +kernel
theorem dX2_step_53 : decode cX2_step 53 = .ok (.bipush 16, 2) := by decide +kernel
theorem dX2_step_55 : decode cX2_step 55 = .ok (.irem, 1) := by decide +kernel
theorem dX2_step_56 : decode cX2_step 56 = .ok (.invokevirtual 129, 3) := by decide +kernel
theorem dX2_step_59 : decode cX2_step 59 = .ok (.iadd, 1) := by decide +kernel
theorem dX2_step_60 : decode cX2_step 60 = .ok (.istore 4, 2) := by decide +kernel
theorem dX2_step_62 : decode cX2_step 62 = .ok (.aload_n 0, 1) := by decide +kernel
theorem dX2_step_63 : decode cX2_step 63 = .ok (.getfield 105, 3) := by decide +kernel
theorem dX2_step_66 : decode cX2_step 66 = .ok (.iconst 0, 1) := by decide +kernel
theorem dX2_step_67 : decode cX2_step 67 = .ok (.aload_n 0, 1) := by decide +kernel
theorem dX2_step_68 : decode cX2_step 68 = .ok (.getfield 105, 3) := by decide +kernel
theorem dX2_step_71 : decode cX2_step 71 = .ok (.iconst 3, 1) := by decide +kernel
theorem dX2_step_72 : decode cX2_step 72 = .ok (.iaload, 1) := by decide +kernel
theorem dX2_step_73 : decode cX2_step 73 = .ok (.iastore, 1) := by decide +kernel
theorem dX2_step_74 : decode cX2_step 74 = .ok (.aload_n 0, 1) := by decide +kernel
theorem dX2_step_75 : decode cX2_step 75 = .ok (.getfield 105, 3) := by decide +kernel
theorem dX2_step_78 : decode cX2_step 78 = .ok (.iconst 3, 1) := by decide +kernel
theorem dX2_step_79 : decode cX2_step 79 = .ok (.aload_n 0, 1) := by decide +kernel
theorem dX2_step_80 : decode cX2_step 80 = .ok (.getfield 105, 3) := by decide +kernel
theorem dX2_step_83 : decode cX2_step 83 = .ok (.iconst 2, 1) := by decide +kernel
theorem dX2_step_84 : decode cX2_step 84 = .ok (.iaload, 1) := by decide +kernel
theorem dX2_step_85 : decode cX2_step 85 = .ok (.iastore, 1) := by decide +kernel
theorem dX2_step_86 : decode cX2_step 86 = .ok (.aload_n 0, 1) := by decide +kernel
theorem dX2_step_87 : decode cX2_step 87 = .ok (.getfield 105, 3) := by decide +kernel
theorem dX2_step_90 : decode cX2_step 90 = .ok (.iconst 2, 1) := by decide +kernel
theorem dX2_step_91 : decode cX2_step 91 = .ok (.aload_n 0, 1) := by decide +kernel
theorem dX2_step_92 : decode cX2_step 92 = .ok (.getfield 105, 3) := by decide +kernel
theorem dX2_step_95 : decode cX2_step 95 = .ok (.iconst 1, 1) := by decide +kernel
theorem dX2_step_96 : decode cX2_step 96 = .ok (.iaload, 1) := by decide +kernel
theorem dX2_step_97 : decode cX2_step 97 = .ok (.iastore, 1) := by decide +kernel
theorem dX2_step_98 : decode cX2_step 98 = .ok (.aload_n 0, 1) := by decide +kernel
theorem dX2_step_99 : decode cX2_step 99 = .ok (.getfield 105, 3) := by decide +kernel
theorem dX2_step_102 : decode cX2_step 102 = .ok (.iconst 1, 1) := by decide +kernel
theorem dX2_step_103 : decode cX2_step 103 = .ok (.aload_n 0, 1) := by decide +kernel
theorem dX2_step_104 : decode cX2_step 104 = .ok (.getfield 105, 3) := by decide +kernel
theorem dX2_step_107 : decode cX2_step 107 = .ok (.iconst 1, 1) := by decide +kernel
theorem dX2_step_108 : decode cX2_step 108 = .ok (.iaload, 1) := by decide +kernel
theorem dX2_step_109 : decode cX2_step 109 = .ok (.iload 4, 2) := by decide +kernel
theorem dX2_step_111 : decode cX2_step 111 = .ok (.iload_n 3, 1) := by decide +kernel
theorem dX2_step_112 : decode cX2_step 112 = .ok (.ishl, 1) := by decide +kernel
theorem dX2_step_113 : decode cX2_step 113 = .ok (.iload 4, 2) := by decide +kernel
theorem dX2_step_115 : decode cX2_step 115 = .ok (.bipush 32, 2) := by decide +kernel
theorem dX2_step_117 : decode cX2_step 117 = .ok (.iload_n 3, 1) := by decide +kernel
theorem dX2_step_118 : decode cX2_step 118 = .ok (.isub, 1) := by decide +kernel
theorem dX2_step_119 : decode cX2_step 119 = .ok (.iushr, 1) := by decide +kernel
theorem dX2_step_120 : decode cX2_step 120 = .ok (.ior, 1) := by decide +kernel
theorem dX2_step_121 : decode cX2_step 121 = .ok (.iadd, 1) := by decide +kernel
theorem dX2_step_122 : decode cX2_step 122 = .ok (.iastore, 1) := by decide +kernel
theorem dX2_step_123 : decode cX2_step 123 = .ok (.return_, 1) := by decide +kernel
theorem dX2_come_0 : decode cX2_come 0 = .ok (.aload_n 0, 1) := by decide +kernel
theorem dX2_come_1 : decode cX2_come 1 = .ok (.getfield 99, 3) := by decide +kernel
theorem dX2_come_4 : decode cX2_come 4 = .ok (.aload_n 0, 1) := by decide +kernel
theorem dX2_come_5 : decode cX2_come 5 = .ok (.getfield 114, 3) := by decide +kernel
theorem dX2_come_8 : decode cX2_come 8 = .ok (.bipush 64, 2) := by decide +kernel
theorem dX2_come_10 : decode cX2_come 10 = .ok (.irem, 1) := by decide +kernel
theorem dX2_come_11 : decode cX2_come 11 = .ok (.iload_n 1, 1) := by decide +kernel
theorem dX2_come_12 : decode cX2_come 12 = .ok (.sipush 255, 3) := by decide +kernel
theorem dX2_come_15 : decode cX2_come 15 = .ok (.iand, 1) := by decide +kernel
theorem dX2_come_16 : decode cX2_come 16 = .ok (.iastore, 1) := by decide +kernel
theorem dX2_come_17 : decode cX2_come 17 = .ok (.aload_n 0, 1) := by decide +kernel
theorem dX2_come_18 : decode cX2_come 18 = .ok (.dup, 1) := by decide +kernel
theorem dX2_come_19 : decode cX2_come 19 = .ok (.getfield 114, 3) := by decide +kernel
theorem dX2_come_22 : decode cX2_come 22 = .ok (.iconst 1, 1) := by decide +kernel
theorem dX2_come_23 : decode cX2_come 23 = .ok (.iadd, 1) := by decide +kernel
theorem dX2_come_24 : decode cX2_come 24 = .ok (.putfield 114, 3) := by decide +kernel
theorem dX2_come_27 : decode cX2_come 27 = .ok (.aload_n 0, 1) := by decide +kernel
theorem dX2_come_28 : decode cX2_come 28 = .ok (.getfield 114, 3) := by decide +kernel
theorem dX2_come_31 : decode cX2_come 31 = .ok (.bipush 64, 2) := by decide +kernel
theorem dX2_come_33 : decode cX2_come 33 = .ok (.irem, 1) := by decide +kernel
theorem dX2_come_34 : decode cX2_come 34 = .ok (.ifCond .le 4, 3) := by decide +kernel
theorem dX2_come_37 : decode cX2_come 37 = .ok (.return_, 1) := by decide +kernel
theorem dX2_come_38 : decode cX2_come 38 = .ok (.iconst 0, 1) := by decide +kernel
theorem dX2_come_39 : decode cX2_come 39 = .ok (.istore_n 2, 1) := by decide +kernel
theorem dX2_come_40 : decode cX2_come 40 = .ok (.iload_n 2, 1) := by decide +kernel
theorem dX2_come_41 : decode cX2_come 41 = .ok (.iconst 4, 1) := by decide +kernel
theorem dX2_come_42 : decode cX2_come 42 = .ok (.if_icmp .ge 21, 3) := by decide +kernel
theorem dX2_come_45 : decode cX2_come 45 = .ok (.aload_n 0, 1) := by decide +kernel
theorem dX2_come_46 : decode cX2_come 46 = .ok (.getfield 105, 3) := by decide +kernel
theorem dX2_come_49 : decode cX2_come 49 = .ok (.iload_n 2, 1) := by decide +kernel
theorem dX2_come_50 : decode cX2_come 50 = .ok (.aload_n 0, 1) := by decide +kernel
theorem dX2_come_51 : decode cX2_come 51 = .ok (.getfield 102, 3) := by decide +kernel
theorem dX2_come_54 : decode cX2_come 54 = .ok (.iload_n 2, 1) := by decide +kernel
theorem dX2_come_55 : decode cX2_come 55 = .ok (.iaload, 1) := by decide +kernel
theorem dX2_come_56 : decode cX2_come 56 = .ok (.iastore, 1) := by decide +kernel
theorem dX2_come_57 : decode cX2_come 57 = .ok (.iinc 2 1, 3) := by decide +kernel
theorem dX2_come_60 : decode cX2_come 60 = .ok (.goto (-20), 3) := by decide +kernel
theorem dX2_come_63 : decode cX2_come 63 = .ok (.iconst 0, 1) := by decide +kernel
theorem dX2_come_64 : decode cX2_come 64 = .ok (.istore_n 2, 1) := by decide +kernel
theorem dX2_come_65 : decode cX2_come 65 = .ok (.iload_n 2, 1) := by decide +kernel
theorem dX2_come_66 : decode cX2_come 66 = .ok (.bipush 64, 2) := by decide +kernel
theorem dX2_come_68 : decode cX2_come 68 = .ok (.if_icmp .ge 14, 3) := by decide +kernel
theorem dX2_come_71 : decode cX2_come 71 = .ok (.aload_n 0, 1) := by decide +kernel
theorem dX2_come_72 : decode cX2_come 72 = .ok (.iload_n 2, 1) := by decide +kernel
theorem dX2_come_73 : decode cX2_come 73 = .ok (.invokevirtual 132, 3) := by decide +kernel
theorem dX2_come_76 : decode cX2_come 76 = .ok (.iinc 2 1, 3) := by decide +kernel
theorem dX2_come_79 : decode cX2_come 79 = .ok (.goto (-14), 3) := by decide +kernel
theorem dX2_come_82 : decode cX2_come 82 = .ok (.iconst 0, 1) := by decide +kernel
theorem dX2_come_83 : decode cX2_come 83 = .ok (.istore_n 2, 1) := by decide +kernel
theorem dX2_come_84 : decode cX2_come 84 = .ok (.iload_n 2, 1) := by decide +kernel
theorem dX2_come_85 : decode cX2_come 85 = .ok (.iconst 4, 1) := by decide +kernel
theorem dX2_come_86 : decode cX2_come 86 = .ok (.if_icmp .ge 24, 3) := by decide +kernel
theorem dX2_come_89 : decode cX2_come 89 = .ok (.aload_n 0, 1) := by decide +kernel
theorem dX2_come_90 : decode cX2_come 90 = .ok (.getfield 102, 3) := by decide +kernel
theorem dX2_come_93 : decode cX2_come 93 = .ok (.iload_n 2, 1) := by decide +kernel
theorem dX2_come_94 : decode cX2_come 94 = .ok (.dup2, 1) := by decide +kernel
theorem dX2_come_95 : decode cX2_come 95 = .ok (.iaload, 1) := by decide +kernel
theorem dX2_come_96 : decode cX2_come 96 = .ok (.aload_n 0, 1) := by decide +kernel
theorem dX2_come_97 : decode cX2_come 97 = .ok (.getfield 105, 3) := by decide +kernel
theorem dX2_come_100 : decode cX2_come 100 = .ok (.iload_n 2, 1) := by decide +kernel
theorem dX2_come_101 : decode cX2_come 101 = .ok (.iaload, 1) := by decide +kernel
theorem dX2_come_102 : decode cX2_come 102 = .ok (.iadd, 1) := by decide +kernel
theorem dX2_come_103 : decode cX2_come 103 = .ok (.iastore, 1) := by decide +kernel
theorem dX2_come_104 : decode cX2_come 104 = .ok (.iinc 2 1, 3) := by decide +kernel
theorem dX2_come_107 : decode cX2_come 107 = .ok (.goto (-23), 3) := by decide +kernel
theorem dX2_come_110 : decode cX2_come 110 = .ok (.return_, 1) := by decide +kernel
theorem dX2_add_0 : decode cX2_add 0 = .ok (.iconst 0, 1) := by decide +kernel
theorem dX2_add_1 : decode cX2_add 1 = .ok (.istore_n 1, 1) := by decide +kernel
theorem dX2_add_2 : decode cX2_add 2 = .ok (.iload_n 1, 1) := by decide +kernel
theorem dX2_add_3 : decode cX2_add 3 = .ok (.aload_n 0, 1) := by decide +kernel
theorem dX2_add_4 : decode cX2_add 4 = .ok (.getfield 118, 3) := by decide +kernel
theorem dX2_add_7 : decode cX2_add 7 = .ok (.if_icmp .ge 19, 3) := by decide +kernel
theorem dX2_add_10 : decode cX2_add 10 = .ok (.aload_n 0, 1) := by decide +kernel
theorem dX2_add_11 : decode cX2_add 11 = .ok (.aload_n 0, 1) := by decide +kernel
theorem dX2_add_12 : decode cX2_add 12 = .ok (.getfield 93, 3) := by decide +kernel
theorem dX2_add_15 : decode cX2_add 15 = .ok (.iload_n 1, 1) := by decide +kernel
theorem dX2_add_16 : decode cX2_add 16 = .ok (.iaload, 1) := by decide +kernel
theorem dX2_add_17 : decode cX2_add 17 = .ok (.invokevirtual 135, 3) := by decide +kernel
theorem dX2_add_20 : decode cX2_add 20 = .ok (.iinc 1 1, 3) := by decide +kernel
theorem dX2_add_23 : decode cX2_add 23 = .ok (.goto (-21), 3) := by decide +kernel
theorem dX2_add_26 : decode cX2_add 26 = .ok (.aload_n 0, 1) := by decide +kernel
theorem dX2_add_27 : decode cX2_add 27 = .ok (.iconst 0, 1) := by decide +kernel
theorem dX2_add_28 : decode cX2_add 28 = .ok (.putfield 118, 3) := by decide +kernel
theorem dX2_add_31 : decode cX2_add 31 = .ok (.aload_n 0, 1) := by decide +kernel
theorem dX2_add_32 : decode cX2_add 32 = .ok (.getfield 114, 3) := by decide +kernel
theorem dX2_add_35 : decode cX2_add 35 = .ok (.ireturn, 1) := by decide +kernel
theorem dX2_fill_0 : decode cX2_fill 0 = .ok (.iload_n 1, 1) := by decide +kernel
theorem dX2_fill_1 : decode cX2_fill 1 = .ok (.ifCond .lt 10, 3) := by decide +kernel
theorem dX2_fill_4 : decode cX2_fill 4 = .ok (.iload_n 1, 1) := by decide +kernel
theorem dX2_fill_5 : decode cX2_fill 5 = .ok (.sipush 4000, 3) := by decide +kernel
theorem dX2_fill_8 : decode cX2_fill 8 = .ok (.if_icmp .le 5, 3) := by decide +kernel
theorem dX2_fill_11 : decode cX2_fill 11 = .ok (.iconst (-1), 1) := by decide +kernel
theorem dX2_fill_12 : decode cX2_fill 12 = .ok (.ireturn, 1) := by decide +kernel
theorem dX2_fill_13 : decode cX2_fill 13 = .ok (.iconst 0, 1) := by decide +kernel
theorem dX2_fill_14 : decode cX2_fill 14 = .ok (.istore_n 3, 1) := by decide +kernel
theorem dX2_fill_15 : decode cX2_fill 15 = .ok (.iload_n 3, 1) := by decide +kernel
theorem dX2_fill_16 : decode cX2_fill 16 = .ok (.iload_n 1, 1) := by decide +kernel
theorem dX2_fill_17 : decode cX2_fill 17 = .ok (.if_icmp .ge 18, 3) := by decide +kernel
theorem dX2_fill_20 : decode cX2_fill 20 = .ok (.aload_n 0, 1) := by decide +kernel
theorem dX2_fill_21 : decode cX2_fill 21 = .ok (.iload_n 2, 1) := by decide +kernel
theorem dX2_fill_22 : decode cX2_fill 22 = .ok (.iconst 3, 1) := by decide +kernel
theorem dX2_fill_23 : decode cX2_fill 23 = .ok (.iload_n 3, 1) := by decide +kernel
theorem dX2_fill_24 : decode cX2_fill 24 = .ok (.imul, 1) := by decide +kernel
theorem dX2_fill_25 : decode cX2_fill 25 = .ok (.iadd, 1) := by decide +kernel
theorem dX2_fill_26 : decode cX2_fill 26 = .ok (.invokevirtual 135, 3) := by decide +kernel
theorem dX2_fill_29 : decode cX2_fill 29 = .ok (.iinc 3 1, 3) := by decide +kernel
theorem dX2_fill_32 : decode cX2_fill 32 = .ok (.goto (-17), 3) := by decide +kernel
theorem dX2_fill_35 : decode cX2_fill 35 = .ok (.aload_n 0, 1) := by decide +kernel
theorem dX2_fill_36 : decode cX2_fill 36 = .ok (.getfield 114, 3) := by decide +kernel
theorem dX2_fill_39 : decode cX2_fill 39 = .ok (.ireturn, 1) := by decide +kernel
theorem dX2_key_0 : decode cX2_key 0 = .ok (.aload_n 0, 1) := by decide +kernel
theorem dX2_key_1 : decode cX2_key 1 = .ok (.getfield 118, 3) := by decide +kernel
theorem dX2_key_4 : decode cX2_key 4 = .ok (.istore_n 1, 1) := by decide +kernel
theorem dX2_key_5 : decode cX2_key 5 = .ok (.aload_n 0, 1) := by decide +kernel
theorem dX2_key_6 : decode cX2_key 6 = .ok (.iconst 0, 1) := by decide +kernel
theorem dX2_key_7 : decode cX2_key 7 = .ok (.putfield 118, 3) := by decide +kernel
theorem dX2_key_10 : decode cX2_key 10 = .ok (.iload_n 1, 1) := by decide +kernel
theorem dX2_key_11 : decode cX2_key 11 = .ok (.bipush 16, 2) := by decide +kernel
theorem dX2_key_13 : decode cX2_key 13 = .ok (.if_icmp .le 5, 3) := by decide +kernel
theorem dX2_key_16 : decode cX2_key 16 = .ok (.iconst (-1), 1) := by decide +kernel
theorem dX2_key_17 : decode cX2_key 17 = .ok (.ireturn, 1) := by decide +kernel
theorem dX2_key_18 : decode cX2_key 18 = .ok (.iconst 0, 1) := by decide +kernel
theorem dX2_key_19 : decode cX2_key 19 = .ok (.istore_n 2, 1) := by decide +kernel
theorem dX2_key_20 : decode cX2_key 20 = .ok (.iload_n 2, 1) := by decide +kernel
theorem dX2_key_21 : decode cX2_key 21 = .ok (.bipush 16, 2) := by decide +kernel
theorem dX2_key_23 : decode cX2_key 23 = .ok (.if_icmp .ge 30, 3) := by decide +kernel
theorem dX2_key_26 : decode cX2_key 26 = .ok (.aload_n 0, 1) := by decide +kernel
theorem dX2_key_27 : decode cX2_key 27 = .ok (.getfield 96, 3) := by decide +kernel
theorem dX2_key_30 : decode cX2_key 30 = .ok (.iload_n 2, 1) := by decide +kernel
theorem dX2_key_31 : decode cX2_key 31 = .ok (.iload_n 2, 1) := by decide +kernel
theorem dX2_key_32 : decode cX2_key 32 = .ok (.iload_n 1, 1) := by decide +kernel
theorem dX2_key_33 : decode cX2_key 33 = .ok (.if_icmp .ge 12, 3) := by decide +kernel
theorem dX2_key_36 : decode cX2_key 36 = .ok (.aload_n 0, 1) := by decide +kernel
theorem dX2_key_37 : decode cX2_key 37 = .ok (.getfield 93, 3) := by decide +kernel
theorem dX2_key_40 : decode cX2_key 40 = .ok (.iload_n 2, 1) := by decide +kernel
theorem dX2_key_41 : decode cX2_key 41 = .ok (.iaload, 1) := by decide +kernel
theorem dX2_key_42 : decode cX2_key 42 = .ok (.goto 4, 3) := by decide +kernel
theorem dX2_key_45 : decode cX2_key 45 = .ok (.iconst 0, 1) := by decide +kernel
theorem dX2_key_46 : decode cX2_key 46 = .ok (.iastore, 1) := by decide +kernel
theorem dX2_key_47 : decode cX2_key 47 = .ok (.iinc 2 1, 3) := by decide +kernel
theorem dX2_key_50 : decode cX2_key 50 = .ok (.goto (-30), 3) := by decide +kernel
theorem dX2_key_53 : decode cX2_key 53 = .ok (.iload_n 1, 1) := by decide +kernel
theorem dX2_key_54 : decode cX2_key 54 = .ok (.ireturn, 1) := by decide +kernel
theorem dX2_sum_0 : decode cX2_sum 0 = .ok (.aload_n 0, 1) := by decide +kernel
theorem dX2_sum_1 : decode cX2_sum 1 = .ok (.getfield 114, 3) := by decide +kernel
theorem dX2_sum_4 : decode cX2_sum 4 = .ok (.istore_n 2, 1) := by decide +kernel
theorem dX2_sum_5 : decode cX2_sum 5 = .ok (.iconst 0, 1) := by decide +kernel
theorem dX2_sum_6 : decode cX2_sum 6 = .ok (.istore_n 3, 1) := by decide +kernel
theorem dX2_sum_7 : decode cX2_sum 7 = .ok (.iload_n 3, 1) := by decide +kernel
theorem dX2_sum_8 : decode cX2_sum 8 = .ok (.bipush 16, 2) := by decide +kernel
theorem dX2_sum_10 : decode cX2_sum 10 = .ok (.if_icmp .ge 23, 3) := by decide +kernel
theorem dX2_sum_13 : decode cX2_sum 13 = .ok (.iload_n 1, 1) := by decide +kernel
theorem dX2_sum_14 : decode cX2_sum 14 = .ok (.ifCond .eq 19, 3) := by decide +kernel
theorem dX2_sum_17 : decode cX2_sum 17 = .ok (.aload_n 0, 1) := by decide +kernel
theorem dX2_sum_18 : decode cX2_sum 18 = .ok (.aload_n 0, 1) := by decide +kernel
theorem dX2_sum_19 : decode cX2_sum 19 = .ok (.getfield 96, 3) := by decide +kernel
theorem dX2_sum_22 : decode cX2_sum 22 = .ok (.iload_n 3, 1) := by decide +kernel
theorem dX2_sum_23 : decode cX2_sum 23 = .ok (.iaload, 1) := by decide +kernel
theorem dX2_sum_24 : decode cX2_sum 24 = .ok (.invokevirtual 135, 3) := by decide +kernel
theorem dX2_sum_27 : decode cX2_sum 27 = .ok (.iinc 3 1, 3) := by decide +kernel
theorem dX2_sum_30 : decode cX2_sum 30 = .ok (.goto (-23), 3) := by decide +kernel
theorem dX2_sum_33 : decode cX2_sum 33 = .ok (.ldc2_w 138, 3) := by decide +kernel
theorem dX2_sum_36 : decode cX2_sum 36 = .ok (.aload_n 0, 1) := by decide +kernel
theorem dX2_sum_37 : decode cX2_sum 37 = .ok (.getfield 114, 3) := by decide +kernel
theorem dX2_sum_40 : decode cX2_sum 40 = .ok (.i2l, 1) := by decide +kernel
theorem dX2_sum_41 : decode cX2_sum 41 = .ok (.lmul, 1) := by decide +kernel
theorem dX2_sum_42 : decode cX2_sum 42 = .ok (.lstore_n 3, 1) := by decide +kernel
theorem dX2_sum_43 : decode cX2_sum 43 = .ok (.aload_n 0, 1) := by decide +kernel
theorem dX2_sum_44 : decode cX2_sum 44 = .ok (.sipush 128, 3) := by decide +kernel
theorem dX2_sum_47 : decode cX2_sum 47 = .ok (.invokevirtual 135, 3) := by decide +kernel
theorem dX2_sum_50 : decode cX2_sum 50 = .ok (.aload_n 0, 1) := by decide +kernel
theorem dX2_sum_51 : decode cX2_sum 51 = .ok (.getfield 114, 3) := by decide +kernel
theorem dX2_sum_54 : decode cX2_sum 54 = .ok (.bipush 64, 2) := by decide +kernel
theorem dX2_sum_56 : decode cX2_sum 56 = .ok (.irem, 1) := by decide +kernel
theorem dX2_sum_57 : decode cX2_sum 57 = .ok (.bipush 56, 2) := by decide +kernel
theorem dX2_sum_59 : decode cX2_sum 59 = .ok (.if_icmp .eq 11, 3) := by decide +kernel
theorem dX2_sum_62 : decode cX2_sum 62 = .ok (.aload_n 0, 1) := by decide +kernel
theorem dX2_sum_63 : decode cX2_sum 63 = .ok (.iconst 0, 1) := by decide +kernel
theorem dX2_sum_64 : decode cX2_sum 64 = .ok (.invokevirtual 135, 3) := by decide +kernel
theorem dX2_sum_67 : decode cX2_sum 67 = .ok (.goto (-17), 3) := by decide +kernel
theorem dX2_sum_70 : decode cX2_sum 70 = .ok (.iconst 0, 1) := by decide +kernel
theorem dX2_sum_71 : decode cX2_sum 71 = .ok (.istore 5, 2) := by decide +kernel
theorem dX2_sum_73 : decode cX2_sum 73 = .ok (.iload 5, 2) := by decide +kernel
theorem dX2_sum_75 : decode cX2_sum 75 = .ok (.bipush 8, 2) := by decide +kernel
theorem dX2_sum_77 : decode cX2_sum 77 = .ok (.if_icmp .ge 25, 3) := by decide +kernel
theorem dX2_sum_80 : decode cX2_sum 80 = .ok (.aload_n 0, 1) := by decide +kernel
theorem dX2_sum_81 : decode cX2_sum 81 = .ok (.lload_n 3, 1) := by decide +kernel
theorem dX2_sum_82 : decode cX2_sum 82 = .ok (.bipush 8, 2) := by decide +kernel
theorem dX2_sum_84 : decode cX2_sum 84 = .ok (.iload 5, 2) := by decide +kernel
theorem dX2_sum_86 : decode cX2_sum 86 = .ok (.imul, 1) := by decide +kernel
theorem dX2_sum_87 : decode cX2_sum 87 = .ok (.lshr, 1) := by decide +kernel
theorem dX2_sum_88 : decode cX2_sum 88 = .ok (.l2i, 1) := by decide +kernel
theorem dX2_sum_89 : decode cX2_sum 89 = .ok (.sipush 255, 3) := by decide +kernel
theorem dX2_sum_92 : decode cX2_sum 92 = .ok (.iand, 1) := by decide +kernel
theorem dX2_sum_93 : decode cX2_sum 93 = .ok (.invokevirtual 135, 3) := by decide +kernel
theorem dX2_sum_96 : decode cX2_sum 96 = .ok (.iinc 5 1, 3) := by decide +kernel
theorem dX2_sum_99 : decode cX2_sum 99 = .ok (.goto (-26), 3) := by decide +kernel
theorem dX2_sum_102 : decode cX2_sum 102 = .ok (.iconst 0, 1) := by decide +kernel
theorem dX2_sum_103 : decode cX2_sum 103 = .ok (.istore 5, 2) := by decide +kernel
theorem dX2_sum_105 : decode cX2_sum 105 = .ok (.iload 5, 2) := by decide +kernel
theorem dX2_sum_107 : decode cX2_sum 107 = .ok (.bipush 16, 2) := by decide +kernel
theorem dX2_sum_109 : decode cX2_sum 109 = .ok (.if_icmp .ge 37, 3) := by decide +kernel
theorem dX2_sum_112 : decode cX2_sum 112 = .ok (.aload_n 0, 1) := by decide +kernel
theorem dX2_sum_113 : decode cX2_sum 113 = .ok (.getfield 108, 3) := by decide +kernel
theorem dX2_sum_116 : decode cX2_sum 116 = .ok (.iload 5, 2) := by decide +kernel
theorem dX2_sum_118 : decode cX2_sum 118 = .ok (.aload_n 0, 1) := by decide +kernel
theorem dX2_sum_119 : decode cX2_sum 119 = .ok (.getfield 102, 3) := by decide +kernel
theorem dX2_sum_122 : decode cX2_sum 122 = .ok (.iload 5, 2) := by decide +kernel
theorem dX2_sum_124 : decode cX2_sum 124 = .ok (.iconst 4, 1) := by decide +kernel
theorem dX2_sum_125 : decode cX2_sum 125 = .ok (.idiv, 1) := by decide +kernel
theorem dX2_sum_126 : decode cX2_sum 126 = .ok (.iaload, 1) := by decide +kernel
theorem dX2_sum_127 : decode cX2_sum 127 = .ok (.bipush 8, 2) := by decide +kernel
theorem dX2_sum_129 : decode cX2_sum 129 = .ok (.iload 5, 2) := by decide +kernel
theorem dX2_sum_131 : decode cX2_sum 131 = .ok (.iconst 4, 1) := by decide +kernel
theorem dX2_sum_132 : decode cX2_sum 132 = .ok (.irem, 1) := by decide +kernel
theorem dX2_sum_133 : decode cX2_sum 133 = .ok (.imul, 1) := by decide +kernel
theorem dX2_sum_134 : decode cX2_sum 134 = .ok (.ishr, 1) := by decide +kernel
theorem dX2_sum_135 : decode cX2_sum 135 = .ok (.sipush 255, 3) := by decide +kernel
theorem dX2_sum_138 : decode cX2_sum 138 = .ok (.iand, 1) := by decide +kernel
theorem dX2_sum_139 : decode cX2_sum 139 = .ok (.iastore, 1) := by decide +kernel
theorem dX2_sum_140 : decode cX2_sum 140 = .ok (.iinc 5 1, 3) := by decide +kernel
theorem dX2_sum_143 : decode cX2_sum 143 = .ok (.goto (-38), 3) := by decide +kernel
theorem dX2_sum_146 : decode cX2_sum 146 = .ok (.aload_n 0, 1) := by decide +kernel
theorem dX2_sum_147 : decode cX2_sum 147 = .ok (.iconst 1, 1) := by decide +kernel
theorem dX2_sum_148 : decode cX2_sum 148 = .ok (.putfield 140, 3) := by decide +kernel
theorem dX2_sum_151 : decode cX2_sum 151 = .ok (.aload_n 0, 1) := by decide +kernel
theorem dX2_sum_152 : decode cX2_sum 152 = .ok (.invokevirtual 111, 3) := by decide +kernel
theorem dX2_sum_155 : decode cX2_sum 155 = .ok (.iload_n 2, 1) := by decide +kernel
theorem dX2_sum_156 : decode cX2_sum 156 = .ok (.ireturn, 1) := by decide +kernel
theorem dX2_sumAt_0 : decode cX2_sumAt 0 = .ok (.aload_n 0, 1) := by decide +kernel
theorem dX2_sumAt_1 : decode cX2_sumAt 1 = .ok (.getfield 140, 3) := by decide +kernel
theorem dX2_sumAt_4 : decode cX2_sumAt 4 = .ok (.ifCond .eq 22, 3) := by decide +kernel
theorem dX2_sumAt_7 : decode cX2_sumAt 7 = .ok (.iload_n 1, 1) := by decide +kernel
theorem dX2_sumAt_8 : decode cX2_sumAt 8 = .ok (.ifCond .lt 18, 3) := by decide +kernel
theorem dX2_sumAt_11 : decode cX2_sumAt 11 = .ok (.iload_n 1, 1) := by decide +kernel
theorem dX2_sumAt_12 : decode cX2_sumAt 12 = .ok (.bipush 16, 2) := by decide +kernel
theorem dX2_sumAt_14 : decode cX2_sumAt 14 = .ok (.if_icmp .ge 12, 3) := by decide +kernel
theorem dX2_sumAt_17 : decode cX2_sumAt 17 = .ok (.aload_n 0, 1) := by decide +kernel
theorem dX2_sumAt_18 : decode cX2_sumAt 18 = .ok (.getfield 108, 3) := by decide +kernel
theorem dX2_sumAt_21 : decode cX2_sumAt 21 = .ok (.iload_n 1, 1) := by decide +kernel
theorem dX2_sumAt_22 : decode cX2_sumAt 22 = .ok (.iaload, 1) := by decide +kernel
theorem dX2_sumAt_23 : decode cX2_sumAt 23 = .ok (.goto 4, 3) := by decide +kernel
theorem dX2_sumAt_26 : decode cX2_sumAt 26 = .ok (.iconst (-1), 1) := by decide +kernel
theorem dX2_sumAt_27 : decode cX2_sumAt 27 = .ok (.ireturn, 1) := by decide +kernel
