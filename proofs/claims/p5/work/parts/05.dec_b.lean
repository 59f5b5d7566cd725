theorem dX10_init_0 : decode cX10_init 0 = .ok (.aload_n 0, 1) := by decide +kernel
theorem dX10_init_1 : decode cX10_init 1 = .ok (.invokespecial 1, 3) := by decide +kernel
theorem dX10_init_4 : decode cX10_init 4 = .ok (.aload_n 0, 1) := by decide +kernel
theorem dX10_init_5 : decode cX10_init 5 = .ok (.new 7, 3) := by decide +kernel
theorem dX10_init_8 : decode cX10_init 8 = .ok (.dup, 1) := by decide +kernel
theorem dX10_init_9 : decode cX10_init 9 = .ok (.invokespecial 9, 3) := by decide +kernel
theorem dX10_init_12 : decode cX10_init 12 = .ok (.putfield 10, 3) := by decide +kernel
theorem dX10_init_15 : decode cX10_init 15 = .ok (.aload_n 0, 1) := by decide +kernel
theorem dX10_init_16 : decode cX10_init 16 = .ok (.new 16, 3) := by decide +kernel
theorem dX10_init_19 : decode cX10_init 19 = .ok (.dup, 1) := by decide +kernel
theorem dX10_init_20 : decode cX10_init 20 = .ok (.invokespecial 18, 3) := by decide +kernel
theorem dX10_init_23 : decode cX10_init 23 = .ok (.putfield 19, 3) := by decide +kernel
theorem dX10_init_26 : decode cX10_init 26 = .ok (.aload_n 0, 1) := by decide +kernel
theorem dX10_init_27 : decode cX10_init 27 = .ok (.new 16, 3) := by decide +kernel
theorem dX10_init_30 : decode cX10_init 30 = .ok (.dup, 1) := by decide +kernel
theorem dX10_init_31 : decode cX10_init 31 = .ok (.invokespecial 18, 3) := by decide +kernel
theorem dX10_init_34 : decode cX10_init 34 = .ok (.putfield 23, 3) := by decide +kernel
theorem dX10_init_37 : decode cX10_init 37 = .ok (.aload_n 0, 1) := by decide +kernel
theorem dX10_init_38 : decode cX10_init 38 = .ok (.iconst 2, 1) := by decide +kernel
theorem dX10_init_39 : decode cX10_init 39 = .ok (.anewarray 16, 3) := by decide +kernel
theorem dX10_init_42 : decode cX10_init 42 = .ok (.putfield 26, 3) := by decide +kernel
theorem dX10_init_45 : decode cX10_init 45 = .ok (.iconst 0, 1) := by decide +kernel
theorem dX10_init_46 : decode cX10_init 46 = .ok (.istore_n 1, 1) := by decide +kernel
theorem dX10_init_47 : decode cX10_init 47 = .ok (.iload_n 1, 1) := by decide +kernel
theorem dX10_init_48 : decode cX10_init 48 = .ok (.iconst 2, 1) := by decide +kernel
theorem dX10_init_49 : decode cX10_init 49 = .ok (.if_icmp .ge 22, 3) := by decide +kernel
theorem dX10_init_52 : decode cX10_init 52 = .ok (.aload_n 0, 1) := by decide +kernel
theorem dX10_init_53 : decode cX10_init 53 = .ok (.getfield 26, 3) := by decide +kernel
theorem dX10_init_56 : decode cX10_init 56 = .ok (.iload_n 1, 1) := by decide +kernel
theorem dX10_init_57 : decode cX10_init 57 = .ok (.new 16, 3) := by decide +kernel
theorem dX10_init_60 : decode cX10_init 60 = .ok (.dup, 1) := by decide +kernel
theorem dX10_init_61 : decode cX10_init 61 = .ok (.invokespecial 18, 3) := by decide +kernel
theorem dX10_init_64 : decode cX10_init 64 = .ok (.aastore, 1) := by decide +kernel
theorem dX10_init_65 : decode cX10_init 65 = .ok (.iinc 1 1, 3) := by decide +kernel
theorem dX10_init_68 : decode cX10_init 68 = .ok (.goto (-21), 3) := by decide +kernel
theorem dX10_init_71 : decode cX10_init 71 = .ok (.aload_n 0, 1) := by decide +kernel
theorem dX10_init_72 : decode cX10_init 72 = .ok (.iconst 2, 1) := by decide +kernel
theorem dX10_init_73 : decode cX10_init 73 = .ok (.newarray .boolean, 2) := by decide +kernel
theorem dX10_init_75 : decode cX10_init 75 = .ok (.putfield 30, 3) := by decide +kernel
theorem dX10_init_78 : decode cX10_init 78 = .ok (.aload_n 0, 1) := by decide +kernel
theorem dX10_init_79 : decode cX10_init 79 = .ok (.new 34, 3) := by decide +kernel
theorem dX10_init_82 : decode cX10_init 82 = .ok (.dup, 1) := by decide +kernel
theorem dX10_init_83 : decode cX10_init 83 = .ok (.invokespecial 36, 3) := by decide +kernel
theorem dX10_init_86 : decode cX10_init 86 = .ok (.putfield 37, 3) := by decide +kernel
theorem dX10_init_89 : decode cX10_init 89 = .ok (.aload_n 0, 1) := by decide +kernel
theorem dX10_init_90 : decode cX10_init 90 = .ok (.new 41, 3) := by decide +kernel
theorem dX10_init_93 : decode cX10_init 93 = .ok (.dup, 1) := by decide +kernel
theorem dX10_init_94 : decode cX10_init 94 = .ok (.invokespecial 43, 3) := by decide +kernel
theorem dX10_init_97 : decode cX10_init 97 = .ok (.putfield 44, 3) := by decide +kernel
theorem dX10_init_100 : decode cX10_init 100 = .ok (.aload_n 0, 1) := by decide +kernel
theorem dX10_init_101 : decode cX10_init 101 = .ok (.new 48, 3) := by decide +kernel
theorem dX10_init_104 : decode cX10_init 104 = .ok (.dup, 1) := by decide +kernel
theorem dX10_init_105 : decode cX10_init 105 = .ok (.invokespecial 50, 3) := by decide +kernel
theorem dX10_init_108 : decode cX10_init 108 = .ok (.putfield 51, 3) := by decide +kernel
theorem dX10_init_111 : decode cX10_init 111 = .ok (.aload_n 0, 1) := by decide +kernel
theorem dX10_init_112 : decode cX10_init 112 = .ok (.new 55, 3) := by decide +kernel
theorem dX10_init_115 : decode cX10_init 115 = .ok (.dup, 1) := by decide +kernel
theorem dX10_init_116 : decode cX10_init 116 = .ok (.invokespecial 57, 3) := by decide +kernel
theorem dX10_init_119 : decode cX10_init 119 = .ok (.putfield 58, 3) := by decide +kernel
theorem dX10_init_122 : decode cX10_init 122 = .ok (.aload_n 0, 1) := by decide +kernel
theorem dX10_init_123 : decode cX10_init 123 = .ok (.new 62, 3) := by decide +kernel
theorem dX10_init_126 : decode cX10_init 126 = .ok (.dup, 1) := by decide +kernel
theorem dX10_init_127 : decode cX10_init 127 = .ok (.invokespecial 64, 3) := by decide +kernel
theorem dX10_init_130 : decode cX10_init 130 = .ok (.putfield 65, 3) := by decide +kernel
theorem dX10_init_133 : decode cX10_init 133 = .ok (.aload_n 0, 1) := by decide +kernel
theorem dX10_init_134 : decode cX10_init 134 = .ok (.new 69, 3) := by decide +kernel
theorem dX10_init_137 : decode cX10_init 137 = .ok (.dup, 1) := by decide +kernel
theorem dX10_init_138 : decode cX10_init 138 = .ok (.invokespecial 71, 3) := by decide +kernel
theorem dX10_init_141 : decode cX10_init 141 = .ok (.putfield 72, 3) := by decide +kernel
theorem dX10_init_144 : decode cX10_init 144 = .ok (.aload_n 0, 1) := by decide +kernel
theorem dX10_init_145 : decode cX10_init 145 = .ok (.new 76, 3) := by decide +kernel
theorem dX10_init_148 : decode cX10_init 148 = .ok (.dup, 1) := by decide +kernel
theorem dX10_init_149 : decode cX10_init 149 = .ok (.invokespecial 78, 3) := by decide +kernel
theorem dX10_init_152 : decode cX10_init 152 = .ok (.putfield 79, 3) := by decide +kernel
theorem dX10_init_155 : decode cX10_init 155 = .ok (.return_, 1) := by decide +kernel
theorem dX10_feed_0 : decode cX10_feed 0 = .ok (.aload_n 0, 1) := by decide +kernel
theorem dX10_feed_1 : decode cX10_feed 1 = .ok (.getfield 10, 3) := by decide +kernel
theorem dX10_feed_4 : decode cX10_feed 4 = .ok (.getfield 83, 3) := by decide +kernel
theorem dX10_feed_7 : decode cX10_feed 7 = .ok (.lload_n 1, 1) := by decide +kernel
theorem dX10_feed_8 : decode cX10_feed 8 = .ok (.invokevirtual 87, 3) := by decide +kernel
theorem dX10_feed_11 : decode cX10_feed 11 = .ok (.ifCond .eq 16, 3) := by decide +kernel
theorem dX10_feed_14 : decode cX10_feed 14 = .ok (.aload_n 0, 1) := by decide +kernel
theorem dX10_feed_15 : decode cX10_feed 15 = .ok (.getfield 10, 3) := by decide +kernel
theorem dX10_feed_18 : decode cX10_feed 18 = .ok (.getfield 83, 3) := by decide +kernel
theorem dX10_feed_21 : decode cX10_feed 21 = .ok (.getfield 93, 3) := by decide +kernel
theorem dX10_feed_24 : decode cX10_feed 24 = .ok (.goto 5, 3) := by decide +kernel
theorem dX10_feed_27 : decode cX10_feed 27 = .ok (.bipush (-3), 2) := by decide +kernel
theorem dX10_feed_29 : decode cX10_feed 29 = .ok (.ireturn, 1) := by decide +kernel
theorem dX10_end_0 : decode cX10_end 0 = .ok (.iload_n 1, 1) := by decide +kernel
theorem dX10_end_1 : decode cX10_end 1 = .ok (.ifCond .lt 17, 3) := by decide +kernel
theorem dX10_end_4 : decode cX10_end 4 = .ok (.iload_n 1, 1) := by decide +kernel
theorem dX10_end_5 : decode cX10_end 5 = .ok (.aload_n 0, 1) := by decide +kernel
theorem dX10_end_6 : decode cX10_end 6 = .ok (.getfield 10, 3) := by decide +kernel
theorem dX10_end_9 : decode cX10_end 9 = .ok (.getfield 83, 3) := by decide +kernel
theorem dX10_end_12 : decode cX10_end 12 = .ok (.getfield 93, 3) := by decide +kernel
theorem dX10_end_15 : decode cX10_end 15 = .ok (.if_icmp .le 5, 3) := by decide +kernel
theorem dX10_end_18 : decode cX10_end 18 = .ok (.iconst (-1), 1) := by decide +kernel
theorem dX10_end_19 : decode cX10_end 19 = .ok (.ireturn, 1) := by decide +kernel
theorem dX10_end_20 : decode cX10_end 20 = .ok (.aload_n 0, 1) := by decide +kernel
theorem dX10_end_21 : decode cX10_end 21 = .ok (.getfield 10, 3) := by decide +kernel
theorem dX10_end_24 : decode cX10_end 24 = .ok (.getfield 83, 3) := by decide +kernel
theorem dX10_end_27 : decode cX10_end 27 = .ok (.getfield 93, 3) := by decide +kernel
theorem dX10_end_30 : decode cX10_end 30 = .ok (.istore_n 2, 1) := by decide +kernel
theorem dX10_end_31 : decode cX10_end 31 = .ok (.aload_n 0, 1) := by decide +kernel
theorem dX10_end_32 : decode cX10_end 32 = .ok (.getfield 10, 3) := by decide +kernel
theorem dX10_end_35 : decode cX10_end 35 = .ok (.getfield 83, 3) := by decide +kernel
theorem dX10_end_38 : decode cX10_end 38 = .ok (.iload_n 1, 1) := by decide +kernel
theorem dX10_end_39 : decode cX10_end 39 = .ok (.putfield 93, 3) := by decide +kernel
theorem dX10_end_42 : decode cX10_end 42 = .ok (.iload_n 2, 1) := by decide +kernel
theorem dX10_end_43 : decode cX10_end 43 = .ok (.ireturn, 1) := by decide +kernel
theorem dX10_text_0 : decode cX10_text 0 = .ok (.aload_n 0, 1) := by decide +kernel
theorem dX10_text_1 : decode cX10_text 1 = .ok (.getfield 10, 3) := by decide +kernel
theorem dX10_text_4 : decode cX10_text 4 = .ok (.invokevirtual 97, 3) := by decide +kernel
theorem dX10_text_7 : decode cX10_text 7 = .ok (.aload_n 0, 1) := by decide +kernel
theorem dX10_text_8 : decode cX10_text 8 = .ok (.getfield 10, 3) := by decide +kernel
theorem dX10_text_11 : decode cX10_text 11 = .ok (.getfield 83, 3) := by decide +kernel
theorem dX10_text_14 : decode cX10_text 14 = .ok (.iconst 0, 1) := by decide +kernel
theorem dX10_text_15 : decode cX10_text 15 = .ok (.putfield 93, 3) := by decide +kernel
theorem dX10_text_18 : decode cX10_text 18 = .ok (.aload_n 0, 1) := by decide +kernel
theorem dX10_text_19 : decode cX10_text 19 = .ok (.aload_n 0, 1) := by decide +kernel
theorem dX10_text_20 : decode cX10_text 20 = .ok (.getfield 10, 3) := by decide +kernel
theorem dX10_text_23 : decode cX10_text 23 = .ok (.getfield 100, 3) := by decide +kernel
theorem dX10_text_26 : decode cX10_text 26 = .ok (.putfield 103, 3) := by decide +kernel
theorem dX10_text_29 : decode cX10_text 29 = .ok (.aload_n 0, 1) := by decide +kernel
theorem dX10_text_30 : decode cX10_text 30 = .ok (.getfield 103, 3) := by decide +kernel
theorem dX10_text_33 : decode cX10_text 33 = .ok (.ifCond .eq 14, 3) := by decide +kernel
theorem dX10_text_36 : decode cX10_text 36 = .ok (.bipush (-10), 2) := by decide +kernel
theorem dX10_text_38 : decode cX10_text 38 = .ok (.aload_n 0, 1) := by decide +kernel
theorem dX10_text_39 : decode cX10_text 39 = .ok (.getfield 10, 3) := by decide +kernel
theorem dX10_text_42 : decode cX10_text 42 = .ok (.getfield 106, 3) := by decide +kernel
theorem dX10_text_45 : decode cX10_text 45 = .ok (.isub, 1) := by decide +kernel
theorem dX10_text_46 : decode cX10_text 46 = .ok (.ireturn, 1) := by decide +kernel
theorem dX10_text_47 : decode cX10_text 47 = .ok (.aload_n 0, 1) := by decide +kernel
theorem dX10_text_48 : decode cX10_text 48 = .ok (.getfield 19, 3) := by decide +kernel
theorem dX10_text_51 : decode cX10_text 51 = .ok (.aload_n 0, 1) := by decide +kernel
theorem dX10_text_52 : decode cX10_text 52 = .ok (.getfield 10, 3) := by decide +kernel
theorem dX10_text_55 : decode cX10_text 55 = .ok (.getfield 109, 3) := by decide +kernel
theorem dX10_text_58 : decode cX10_text 58 = .ok (.invokevirtual 112, 3) := by decide +kernel
theorem dX10_text_61 : decode cX10_text 61 = .ok (.aload_n 0, 1) := by decide +kernel
theorem dX10_text_62 : decode cX10_text 62 = .ok (.getfield 58, 3) := by decide +kernel
theorem dX10_text_65 : decode cX10_text 65 = .ok (.iconst 0, 1) := by decide +kernel
theorem dX10_text_66 : decode cX10_text 66 = .ok (.putfield 116, 3) := by decide +kernel
theorem dX10_text_69 : decode cX10_text 69 = .ok (.aload_n 0, 1) := by decide +kernel
theorem dX10_text_70 : decode cX10_text 70 = .ok (.getfield 65, 3) := by decide +kernel
theorem dX10_text_73 : decode cX10_text 73 = .ok (.iconst 0, 1) := by decide +kernel
theorem dX10_text_74 : decode cX10_text 74 = .ok (.putfield 119, 3) := by decide +kernel
theorem dX10_text_77 : decode cX10_text 77 = .ok (.iconst 0, 1) := by decide +kernel
theorem dX10_text_78 : decode cX10_text 78 = .ok (.istore_n 1, 1) := by decide +kernel
theorem dX10_text_79 : decode cX10_text 79 = .ok (.iload_n 1, 1) := by decide +kernel
theorem dX10_text_80 : decode cX10_text 80 = .ok (.iconst 2, 1) := by decide +kernel
theorem dX10_text_81 : decode cX10_text 81 = .ok (.if_icmp .ge 16, 3) := by decide +kernel
theorem dX10_text_84 : decode cX10_text 84 = .ok (.aload_n 0, 1) := by decide +kernel
theorem dX10_text_85 : decode cX10_text 85 = .ok (.getfield 30, 3) := by decide +kernel
theorem dX10_text_88 : decode cX10_text 88 = .ok (.iload_n 1, 1) := by decide +kernel
theorem dX10_text_89 : decode cX10_text 89 = .ok (.iconst 0, 1) := by decide +kernel
theorem dX10_text_90 : decode cX10_text 90 = .ok (.bastore, 1) := by decide +kernel
theorem dX10_text_91 : decode cX10_text 91 = .ok (.iinc 1 1, 3) := by decide +kernel
theorem dX10_text_94 : decode cX10_text 94 = .ok (.goto (-15), 3) := by decide +kernel
theorem dX10_text_97 : decode cX10_text 97 = .ok (.aload_n 0, 1) := by decide +kernel
theorem dX10_text_98 : decode cX10_text 98 = .ok (.getfield 10, 3) := by decide +kernel
theorem dX10_text_101 : decode cX10_text 101 = .ok (.getfield 120, 3) := by decide +kernel
theorem dX10_text_104 : decode cX10_text 104 = .ok (.ireturn, 1) := by decide +kernel
theorem dX10_fault_0 : decode cX10_fault 0 = .ok (.aload_n 0, 1) := by decide +kernel
theorem dX10_fault_1 : decode cX10_fault 1 = .ok (.getfield 103, 3) := by decide +kernel
theorem dX10_fault_4 : decode cX10_fault 4 = .ok (.ireturn, 1) := by decide +kernel
theorem dX10_rule_0 : decode cX10_rule 0 = .ok (.iload_n 1, 1) := by decide +kernel
theorem dX10_rule_1 : decode cX10_rule 1 = .ok (.tableswitch 51 0 2 #[27, 35, 43], 27) := by decide +kernel
theorem dX10_rule_28 : decode cX10_rule 28 = .ok (.aload_n 0, 1) := by decide +kernel
theorem dX10_rule_29 : decode cX10_rule 29 = .ok (.getfield 19, 3) := by decide +kernel
theorem dX10_rule_32 : decode cX10_rule 32 = .ok (.getfield 123, 3) := by decide +kernel
theorem dX10_rule_35 : decode cX10_rule 35 = .ok (.ireturn, 1) := by decide +kernel
theorem dX10_rule_36 : decode cX10_rule 36 = .ok (.aload_n 0, 1) := by decide +kernel
theorem dX10_rule_37 : decode cX10_rule 37 = .ok (.getfield 19, 3) := by decide +kernel
theorem dX10_rule_40 : decode cX10_rule 40 = .ok (.getfield 126, 3) := by decide +kernel
theorem dX10_rule_43 : decode cX10_rule 43 = .ok (.ireturn, 1) := by decide +kernel
theorem dX10_rule_44 : decode cX10_rule 44 = .ok (.aload_n 0, 1) := by decide +kernel
theorem dX10_rule_45 : decode cX10_rule 45 = .ok (.getfield 19, 3) := by decide +kernel
theorem dX10_rule_48 : decode cX10_rule 48 = .ok (.getfield 129, 3) := by decide +kernel
theorem dX10_rule_51 : decode cX10_rule 51 = .ok (.ireturn, 1) := by decide +kernel
theorem dX10_rule_52 : decode cX10_rule 52 = .ok (.iconst (-1), 1) := by decide +kernel
theorem dX10_rule_53 : decode cX10_rule 53 = .ok (.ireturn, 1) := by decide +kernel
theorem dX10_stretch_0 : decode cX10_stretch 0 = .ok (.aload_n 0, 1) := by decide +kernel
theorem dX10_stretch_1 : decode cX10_stretch 1 = .ok (.getfield 19, 3) := by decide +kernel
theorem dX10_stretch_4 : decode cX10_stretch 4 = .ok (.iload_n 1, 1) := by decide +kernel
theorem dX10_stretch_5 : decode cX10_stretch 5 = .ok (.invokevirtual 132, 3) := by decide +kernel
theorem dX10_stretch_8 : decode cX10_stretch 8 = .ok (.ifCond .ne 5, 3) := by decide +kernel
theorem dX10_stretch_11 : decode cX10_stretch 11 = .ok (.iconst (-1), 1) := by decide +kernel
theorem dX10_stretch_12 : decode cX10_stretch 12 = .ok (.ireturn, 1) := by decide +kernel
theorem dX10_stretch_13 : decode cX10_stretch 13 = .ok (.iload_n 2, 1) := by decide +kernel
theorem dX10_stretch_14 : decode cX10_stretch 14 = .ok (.tableswitch 56 0 2 #[26, 36, 46], 26) := by decide +kernel
theorem dX10_stretch_40 : decode cX10_stretch 40 = .ok (.aload_n 0, 1) := by decide +kernel
theorem dX10_stretch_41 : decode cX10_stretch 41 = .ok (.getfield 19, 3) := by decide +kernel
theorem dX10_stretch_44 : decode cX10_stretch 44 = .ok (.getfield 136, 3) := by decide +kernel
theorem dX10_stretch_47 : decode cX10_stretch 47 = .ok (.iload_n 1, 1) := by decide +kernel
theorem dX10_stretch_48 : decode cX10_stretch 48 = .ok (.iaload, 1) := by decide +kernel
theorem dX10_stretch_49 : decode cX10_stretch 49 = .ok (.ireturn, 1) := by decide +kernel
theorem dX10_stretch_50 : decode cX10_stretch 50 = .ok (.aload_n 0, 1) := by decide +kernel
theorem dX10_stretch_51 : decode cX10_stretch 51 = .ok (.getfield 19, 3) := by decide +kernel
theorem dX10_stretch_54 : decode cX10_stretch 54 = .ok (.getfield 140, 3) := by decide +kernel
theorem dX10_stretch_57 : decode cX10_stretch 57 = .ok (.iload_n 1, 1) := by decide +kernel
theorem dX10_stretch_58 : decode cX10_stretch 58 = .ok (.iaload, 1) := by decide +kernel
theorem dX10_stretch_59 : decode cX10_stretch 59 = .ok (.ireturn, 1) := by decide +kernel
theorem dX10_stretch_60 : decode cX10_stretch 60 = .ok (.aload_n 0, 1) := by decide +kernel
theorem dX10_stretch_61 : decode cX10_stretch 61 = .ok (.getfield 19, 3) := by decide +kernel
theorem dX10_stretch_64 : decode cX10_stretch 64 = .ok (.getfield 143, 3) := by decide +kernel
theorem dX10_stretch_67 : decode cX10_stretch 67 = .ok (.iload_n 1, 1) := by decide +kernel
theorem dX10_stretch_68 : decode cX10_stretch 68 = .ok (.iaload, 1) := by decide +kernel
theorem dX10_stretch_69 : decode cX10_stretch 69 = .ok (.ireturn, 1) := by decide +kernel
theorem dX10_stretch_70 : decode cX10_stretch 70 = .ok (.iconst (-1), 1) := by decide +kernel
theorem dX10_stretch_71 : decode cX10_stretch 71 = .ok (.ireturn, 1) := by decide +kernel
theorem dX10_bearer_0 : decode cX10_bearer 0 = .ok (.aload_n 0, 1) := by decide +kernel
theorem dX10_bearer_1 : decode cX10_bearer 1 = .ok (.getfield 19, 3) := by decide +kernel
theorem dX10_bearer_4 : decode cX10_bearer 4 = .ok (.iload_n 1, 1) := by decide +kernel
theorem dX10_bearer_5 : decode cX10_bearer 5 = .ok (.invokevirtual 146, 3) := by decide +kernel
theorem dX10_bearer_8 : decode cX10_bearer 8 = .ok (.ifCond .ne 5, 3) := by decide +kernel
theorem dX10_bearer_11 : decode cX10_bearer 11 = .ok (.iconst (-1), 1) := by decide +kernel
theorem dX10_bearer_12 : decode cX10_bearer 12 = .ok (.ireturn, 1) := by decide +kernel
theorem dX10_bearer_13 : decode cX10_bearer 13 = .ok (.iload_n 2, 1) := by decide +kernel
theorem dX10_bearer_14 : decode cX10_bearer 14 = .ok (.tableswitch 56 0 2 #[26, 36, 46], 26) := by decide +kernel
theorem dX10_bearer_40 : decode cX10_bearer 40 = .ok (.aload_n 0, 1) := by decide +kernel
theorem dX10_bearer_41 : decode cX10_bearer 41 = .ok (.getfield 19, 3) := by decide +kernel
theorem dX10_bearer_44 : decode cX10_bearer 44 = .ok (.getfield 149, 3) := by decide +kernel
theorem dX10_bearer_47 : decode cX10_bearer 47 = .ok (.iload_n 1, 1) := by decide +kernel
theorem dX10_bearer_48 : decode cX10_bearer 48 = .ok (.iaload, 1) := by decide +kernel
theorem dX10_bearer_49 : decode cX10_bearer 49 = .ok (.ireturn, 1) := by decide +kernel
theorem dX10_bearer_50 : decode cX10_bearer 50 = .ok (.aload_n 0, 1) := by decide +kernel
theorem dX10_bearer_51 : decode cX10_bearer 51 = .ok (.getfield 19, 3) := by decide +kernel
theorem dX10_bearer_54 : decode cX10_bearer 54 = .ok (.getfield 152, 3) := by decide +kernel
theorem dX10_bearer_57 : decode cX10_bearer 57 = .ok (.iload_n 1, 1) := by decide +kernel
theorem dX10_bearer_58 : decode cX10_bearer 58 = .ok (.iaload, 1) := by decide +kernel
theorem dX10_bearer_59 : decode cX10_bearer 59 = .ok (.ireturn, 1) := by decide +kernel
theorem dX10_bearer_60 : decode cX10_bearer 60 = .ok (.aload_n 0, 1) := by decide +kernel
theorem dX10_bearer_61 : decode cX10_bearer 61 = .ok (.getfield 19, 3) := by decide +kernel
theorem dX10_bearer_64 : decode cX10_bearer 64 = .ok (.getfield 155, 3) := by decide +kernel
theorem dX10_bearer_67 : decode cX10_bearer 67 = .ok (.iload_n 1, 1) := by decide +kernel
theorem dX10_bearer_68 : decode cX10_bearer 68 = .ok (.iaload, 1) := by decide +kernel
theorem dX10_bearer_69 : decode cX10_bearer 69 = .ok (.ireturn, 1) := by decide +kernel
theorem dX10_bearer_70 : decode cX10_bearer 70 = .ok (.iconst (-1), 1) := by decide +kernel
theorem dX10_bearer_71 : decode cX10_bearer 71 = .ok (.ireturn, 1) := by decide +kernel
theorem dX10_start_0 : decode cX10_start 0 = .ok (.iload_n 1, 1) := by decide +kernel
theorem dX10_start_1 : decode cX10_start 1 = .ok (.iconst 1, 1) := by decide +kernel
theorem dX10_start_2 : decode cX10_start 2 = .ok (.if_icmp .lt 9, 3) := by decide +kernel
theorem dX10_start_5 : decode cX10_start 5 = .ok (.iload_n 1, 1) := by decide +kernel
theorem dX10_start_6 : decode cX10_start 6 = .ok (.bipush 9, 2) := by decide +kernel
theorem dX10_start_8 : decode cX10_start 8 = .ok (.if_icmp .le 5, 3) := by decide +kernel
theorem dX10_start_11 : decode cX10_start 11 = .ok (.iconst (-1), 1) := by decide +kernel
theorem dX10_start_12 : decode cX10_start 12 = .ok (.ireturn, 1) := by decide +kernel
theorem dX10_start_13 : decode cX10_start 13 = .ok (.aload_n 0, 1) := by decide +kernel
theorem dX10_start_14 : decode cX10_start 14 = .ok (.getfield 19, 3) := by decide +kernel
theorem dX10_start_17 : decode cX10_start 17 = .ok (.getfield 129, 3) := by decide +kernel
theorem dX10_start_20 : decode cX10_start 20 = .ok (.istore_n 2, 1) := by decide +kernel
theorem dX10_start_21 : decode cX10_start 21 = .ok (.aload_n 0, 1) := by decide +kernel
theorem dX10_start_22 : decode cX10_start 22 = .ok (.getfield 19, 3) := by decide +kernel
theorem dX10_start_25 : decode cX10_start 25 = .ok (.iload_n 1, 1) := by decide +kernel
theorem dX10_start_26 : decode cX10_start 26 = .ok (.putfield 129, 3) := by decide +kernel
theorem dX10_start_29 : decode cX10_start 29 = .ok (.iload_n 2, 1) := by decide +kernel
theorem dX10_start_30 : decode cX10_start 30 = .ok (.ireturn, 1) := by decide +kernel
theorem dX10_noise_0 : decode cX10_noise 0 = .ok (.aload_n 0, 1) := by decide +kernel
theorem dX10_noise_1 : decode cX10_noise 1 = .ok (.getfield 19, 3) := by decide +kernel
theorem dX10_noise_4 : decode cX10_noise 4 = .ok (.iload_n 1, 1) := by decide +kernel
theorem dX10_noise_5 : decode cX10_noise 5 = .ok (.invokevirtual 132, 3) := by decide +kernel
theorem dX10_noise_8 : decode cX10_noise 8 = .ok (.ifCond .eq 18, 3) := by decide +kernel
theorem dX10_noise_11 : decode cX10_noise 11 = .ok (.aload_n 0, 1) := by decide +kernel
theorem dX10_noise_12 : decode cX10_noise 12 = .ok (.getfield 19, 3) := by decide +kernel
theorem dX10_noise_15 : decode cX10_noise 15 = .ok (.getfield 136, 3) := by decide +kernel
theorem dX10_noise_18 : decode cX10_noise 18 = .ok (.iload_n 1, 1) := by decide +kernel
theorem dX10_noise_19 : decode cX10_noise 19 = .ok (.iload_n 2, 1) := by decide +kernel
theorem dX10_noise_20 : decode cX10_noise 20 = .ok (.invokestatic 158, 3) := by decide +kernel
theorem dX10_noise_23 : decode cX10_noise 23 = .ok (.goto 4, 3) := by decide +kernel
theorem dX10_noise_26 : decode cX10_noise 26 = .ok (.iconst (-1), 1) := by decide +kernel
theorem dX10_noise_27 : decode cX10_noise 27 = .ok (.ireturn, 1) := by decide +kernel
theorem dX10_cold_0 : decode cX10_cold 0 = .ok (.aload_n 0, 1) := by decide +kernel
theorem dX10_cold_1 : decode cX10_cold 1 = .ok (.getfield 19, 3) := by decide +kernel
theorem dX10_cold_4 : decode cX10_cold 4 = .ok (.iload_n 1, 1) := by decide +kernel
theorem dX10_cold_5 : decode cX10_cold 5 = .ok (.invokevirtual 132, 3) := by decide +kernel
theorem dX10_cold_8 : decode cX10_cold 8 = .ok (.ifCond .eq 18, 3) := by decide +kernel
theorem dX10_cold_11 : decode cX10_cold 11 = .ok (.aload_n 0, 1) := by decide +kernel
theorem dX10_cold_12 : decode cX10_cold 12 = .ok (.getfield 19, 3) := by decide +kernel
theorem dX10_cold_15 : decode cX10_cold 15 = .ok (.getfield 140, 3) := by decide +kernel
theorem dX10_cold_18 : decode cX10_cold 18 = .ok (.iload_n 1, 1) := by decide +kernel
theorem dX10_cold_19 : decode cX10_cold 19 = .ok (.iload_n 2, 1) := by decide +kernel
theorem dX10_cold_20 : decode cX10_cold 20 = .ok (.invokestatic 158, 3) := by decide +kernel
theorem dX10_cold_23 : decode cX10_cold 23 = .ok (.goto 4, 3) := by decide +kernel
theorem dX10_cold_26 : decode cX10_cold 26 = .ok (.iconst (-1), 1) := by decide +kernel
theorem dX10_cold_27 : decode cX10_cold 27 = .ok (.ireturn, 1) := by decide +kernel
theorem dX10_step_0 : decode cX10_step 0 = .ok (.aload_n 0, 1) := by decide +kernel
theorem dX10_step_1 : decode cX10_step 1 = .ok (.getfield 19, 3) := by decide +kernel
theorem dX10_step_4 : decode cX10_step 4 = .ok (.iload_n 1, 1) := by decide +kernel
theorem dX10_step_5 : decode cX10_step 5 = .ok (.invokevirtual 146, 3) := by decide +kernel
theorem dX10_step_8 : decode cX10_step 8 = .ok (.ifCond .eq 18, 3) := by decide +kernel
theorem dX10_step_11 : decode cX10_step 11 = .ok (.aload_n 0, 1) := by decide +kernel
theorem dX10_step_12 : decode cX10_step 12 = .ok (.getfield 19, 3) := by decide +kernel
theorem dX10_step_15 : decode cX10_step 15 = .ok (.getfield 152, 3) := by decide +kernel
theorem dX10_step_18 : decode cX10_step 18 = .ok (.iload_n 1, 1) := by decide +kernel
theorem dX10_step_19 : decode cX10_step 19 = .ok (.iload_n 2, 1) := by decide +kernel
theorem dX10_step_20 : decode cX10_step 20 = .ok (.invokestatic 158, 3) := by decide +kernel
theorem dX10_step_23 : decode cX10_step 23 = .ok (.goto 4, 3) := by decide +kernel
theorem dX10_step_26 : decode cX10_step 26 = .ok (.iconst (-1), 1) := by decide +kernel
theorem dX10_step_27 : decode cX10_step 27 = .ok (.ireturn, 1) := by decide +kernel
theorem dX10_warm_0 : decode cX10_warm 0 = .ok (.aload_n 0, 1) := by decide +kernel
theorem dX10_warm_1 : decode cX10_warm 1 = .ok (.getfield 19, 3) := by decide +kernel
theorem dX10_warm_4 : decode cX10_warm 4 = .ok (.iload_n 1, 1) := by decide +kernel
theorem dX10_warm_5 : decode cX10_warm 5 = .ok (.invokevirtual 146, 3) := by decide +kernel
theorem dX10_warm_8 : decode cX10_warm 8 = .ok (.ifCond .eq 18, 3) := by decide +kernel
theorem dX10_warm_11 : decode cX10_warm 11 = .ok (.aload_n 0, 1) := by decide +kernel
theorem dX10_warm_12 : decode cX10_warm 12 = .ok (.getfield 19, 3) := by decide +kernel
theorem dX10_warm_15 : decode cX10_warm 15 = .ok (.getfield 155, 3) := by decide +kernel
theorem dX10_warm_18 : decode cX10_warm 18 = .ok (.iload_n 1, 1) := by decide +kernel
theorem dX10_warm_19 : decode cX10_warm 19 = .ok (.iload_n 2, 1) := by decide +kernel
theorem dX10_warm_20 : decode cX10_warm 20 = .ok (.invokestatic 158, 3) := by decide +kernel
theorem dX10_warm_23 : decode cX10_warm 23 = .ok (.goto 4, 3) := by decide +kernel
theorem dX10_warm_26 : decode cX10_warm 26 = .ok (.iconst (-1), 1) := by decide +kernel
theorem dX10_warm_27 : decode cX10_warm 27 = .ok (.ireturn, 1) := by decide +kernel
theorem dX10_put_0 : decode cX10_put 0 = .ok (.aload_n 0, 1) := by decide +kernel
theorem dX10_put_1 : decode cX10_put 1 = .ok (.getfield 19, 3) := by decide +kernel
theorem dX10_put_4 : decode cX10_put 4 = .ok (.iload_n 1, 1) := by decide +kernel
theorem dX10_put_5 : decode cX10_put 5 = .ok (.invokevirtual 132, 3) := by decide +kernel
theorem dX10_put_8 : decode cX10_put 8 = .ok (.ifCond .eq 14, 3) := by decide +kernel
theorem dX10_put_11 : decode cX10_put 11 = .ok (.aload_n 0, 1) := by decide +kernel
theorem dX10_put_12 : decode cX10_put 12 = .ok (.getfield 19, 3) := by decide +kernel
theorem dX10_put_15 : decode cX10_put 15 = .ok (.iload_n 2, 1) := by decide +kernel
theorem dX10_put_16 : decode cX10_put 16 = .ok (.invokevirtual 146, 3) := by decide +kernel
theorem dX10_put_19 : decode cX10_put 19 = .ok (.ifCond .ne 5, 3) := by decide +kernel
theorem dX10_put_22 : decode cX10_put 22 = .ok (.iconst (-1), 1) := by decide +kernel
theorem dX10_put_23 : decode cX10_put 23 = .ok (.ireturn, 1) := by decide +kernel
theorem dX10_put_24 : decode cX10_put 24 = .ok (.aload_n 0, 1) := by decide +kernel
theorem dX10_put_25 : decode cX10_put 25 = .ok (.getfield 19, 3) := by decide +kernel
theorem dX10_put_28 : decode cX10_put 28 = .ok (.getfield 143, 3) := by decide +kernel
theorem dX10_put_31 : decode cX10_put 31 = .ok (.iload_n 1, 1) := by decide +kernel
theorem dX10_put_32 : decode cX10_put 32 = .ok (.iaload, 1) := by decide +kernel
theorem dX10_put_33 : decode cX10_put 33 = .ok (.istore_n 3, 1) := by decide +kernel
theorem dX10_put_34 : decode cX10_put 34 = .ok (.aload_n 0, 1) := by decide +kernel
theorem dX10_put_35 : decode cX10_put 35 = .ok (.getfield 19, 3) := by decide +kernel
theorem dX10_put_38 : decode cX10_put 38 = .ok (.getfield 143, 3) := by decide +kernel
theorem dX10_put_41 : decode cX10_put 41 = .ok (.iload_n 1, 1) := by decide +kernel
theorem dX10_put_42 : decode cX10_put 42 = .ok (.iload_n 2, 1) := by decide +kernel
theorem dX10_put_43 : decode cX10_put 43 = .ok (.iastore, 1) := by decide +kernel
theorem dX10_put_44 : decode cX10_put 44 = .ok (.iload_n 3, 1) := by decide +kernel
theorem dX10_put_45 : decode cX10_put 45 = .ok (.ireturn, 1) := by decide +kernel
theorem dX10_change_0 : decode cX10_change 0 = .ok (.iload_n 2, 1) := by decide +kernel
theorem dX10_change_1 : decode cX10_change 1 = .ok (.ifCond .lt 19, 3) := by decide +kernel
theorem dX10_change_4 : decode cX10_change 4 = .ok (.iload_n 2, 1) := by decide +kernel
theorem dX10_change_5 : decode cX10_change 5 = .ok (.bipush 9, 2) := by decide +kernel
theorem dX10_change_7 : decode cX10_change 7 = .ok (.if_icmp .gt 13, 3) := by decide +kernel
theorem dX10_change_10 : decode cX10_change 10 = .ok (.iload_n 1, 1) := by decide +kernel
theorem dX10_change_11 : decode cX10_change 11 = .ok (.ifCond .lt 9, 3) := by decide +kernel
theorem dX10_change_14 : decode cX10_change 14 = .ok (.iload_n 1, 1) := by decide +kernel
theorem dX10_change_15 : decode cX10_change 15 = .ok (.aload_n 0, 1) := by decide +kernel
theorem dX10_change_16 : decode cX10_change 16 = .ok (.arraylength, 1) := by decide +kernel
theorem dX10_change_17 : decode cX10_change 17 = .ok (.if_icmp .lt 5, 3) := by decide +kernel
theorem dX10_change_20 : decode cX10_change 20 = .ok (.iconst (-1), 1) := by decide +kernel
theorem dX10_change_21 : decode cX10_change 21 = .ok (.ireturn, 1) := by decide +kernel
theorem dX10_change_22 : decode cX10_change 22 = .ok (.aload_n 0, 1) := by decide +kernel
theorem dX10_change_23 : decode cX10_change 23 = .ok (.iload_n 1, 1) := by decide +kernel
theorem dX10_change_24 : decode cX10_change 24 = .ok (.iaload, 1) := by decide +kernel
theorem dX10_change_25 : decode cX10_change 25 = .ok (.istore_n 3, 1) := by decide +kernel
theorem dX10_change_26 : decode cX10_change 26 = .ok (.aload_n 0, 1) := by decide +kernel
theorem dX10_change_27 : decode cX10_change 27 = .ok (.iload_n 1, 1) := by decide +kernel
theorem dX10_change_28 : decode cX10_change 28 = .ok (.iload_n 2, 1) := by decide +kernel
theorem dX10_change_29 : decode cX10_change 29 = .ok (.iastore, 1) := by decide +kernel
theorem dX10_change_30 : decode cX10_change 30 = .ok (.iload_n 3, 1) := by decide +kernel
theorem dX10_change_31 : decode cX10_change 31 = .ok (.ireturn, 1) := by decide +kernel
theorem dX10_harm_0 : decode cX10_harm 0 = .ok (.aload_n 0, 1) := by decide +kernel
theorem dX10_harm_1 : decode cX10_harm 1 = .ok (.getfield 19, 3) := by decide +kernel
theorem dX10_harm_4 : decode cX10_harm 4 = .ok (.iload_n 1, 1) := by decide +kernel
theorem dX10_harm_5 : decode cX10_harm 5 = .ok (.iload_n 2, 1) := by decide +kernel
theorem dX10_harm_6 : decode cX10_harm 6 = .ok (.iload_n 3, 1) := by decide +kernel
theorem dX10_harm_7 : decode cX10_harm 7 = .ok (.invokevirtual 162, 3) := by decide +kernel
theorem dX10_harm_10 : decode cX10_harm 10 = .ok (.ifCond .eq 16, 3) := by decide +kernel
theorem dX10_harm_13 : decode cX10_harm 13 = .ok (.aload_n 0, 1) := by decide +kernel
theorem dX10_harm_14 : decode cX10_harm 14 = .ok (.getfield 19, 3) := by decide +kernel
theorem dX10_harm_17 : decode cX10_harm 17 = .ok (.iload_n 1, 1) := by decide +kernel
theorem dX10_harm_18 : decode cX10_harm 18 = .ok (.iload_n 2, 1) := by decide +kernel
theorem dX10_harm_19 : decode cX10_harm 19 = .ok (.iload_n 3, 1) := by decide +kernel
theorem dX10_harm_20 : decode cX10_harm 20 = .ok (.invokevirtual 166, 3) := by decide +kernel
theorem dX10_harm_23 : decode cX10_harm 23 = .ok (.goto 4, 3) := by decide +kernel
theorem dX10_harm_26 : decode cX10_harm 26 = .ok (.iconst (-1), 1) := by decide +kernel
theorem dX10_harm_27 : decode cX10_harm 27 = .ok (.ireturn, 1) := by decide +kernel
theorem dX10_wakes_0 : decode cX10_wakes 0 = .ok (.iload_n 1, 1) := by decide +kernel
theorem dX10_wakes_1 : decode cX10_wakes 1 = .ok (.invokestatic 170, 3) := by decide +kernel
theorem dX10_wakes_4 : decode cX10_wakes 4 = .ok (.ifCond .ne 7, 3) := by decide +kernel
theorem dX10_wakes_7 : decode cX10_wakes 7 = .ok (.ldc2_w 173, 3) := by decide +kernel
theorem dX10_wakes_10 : decode cX10_wakes 10 = .ok (.lreturn, 1) := by decide +kernel
theorem dX10_wakes_11 : decode cX10_wakes 11 = .ok (.aload_n 0, 1) := by decide +kernel
theorem dX10_wakes_12 : decode cX10_wakes 12 = .ok (.getfield 37, 3) := by decide +kernel
theorem dX10_wakes_15 : decode cX10_wakes 15 = .ok (.aload_n 0, 1) := by decide +kernel
theorem dX10_wakes_16 : decode cX10_wakes 16 = .ok (.getfield 19, 3) := by decide +kernel
theorem dX10_wakes_19 : decode cX10_wakes 19 = .ok (.aload_n 0, 1) := by decide +kernel
theorem dX10_wakes_20 : decode cX10_wakes 20 = .ok (.getfield 19, 3) := by decide +kernel
theorem dX10_wakes_23 : decode cX10_wakes 23 = .ok (.getfield 123, 3) := by decide +kernel
theorem dX10_wakes_26 : decode cX10_wakes 26 = .ok (.bipush (-4), 2) := by decide +kernel
theorem dX10_wakes_28 : decode cX10_wakes 28 = .ok (.invokevirtual 175, 3) := by decide +kernel
theorem dX10_wakes_31 : decode cX10_wakes 31 = .ok (.aload_n 0, 1) := by decide +kernel
theorem dX10_wakes_32 : decode cX10_wakes 32 = .ok (.getfield 37, 3) := by decide +kernel
theorem dX10_wakes_35 : decode cX10_wakes 35 = .ok (.getfield 179, 3) := by decide +kernel
theorem dX10_wakes_38 : decode cX10_wakes 38 = .ok (.iload_n 1, 1) := by decide +kernel
theorem dX10_wakes_39 : decode cX10_wakes 39 = .ok (.invokestatic 183, 3) := by decide +kernel
theorem dX10_wakes_42 : decode cX10_wakes 42 = .ok (.lreturn, 1) := by decide +kernel
theorem dX10_awake_0 : decode cX10_awake 0 = .ok (.aload_n 0, 1) := by decide +kernel
theorem dX10_awake_1 : decode cX10_awake 1 = .ok (.iload_n 1, 1) := by decide +kernel
theorem dX10_awake_2 : decode cX10_awake 2 = .ok (.iconst 0, 1) := by decide +kernel
theorem dX10_awake_3 : decode cX10_awake 3 = .ok (.iload_n 2, 1) := by decide +kernel
theorem dX10_awake_4 : decode cX10_awake 4 = .ok (.invokevirtual 187, 3) := by decide +kernel
theorem dX10_awake_7 : decode cX10_awake 7 = .ok (.lreturn, 1) := by decide +kernel
theorem dX10_depth_0 : decode cX10_depth 0 = .ok (.aload_n 0, 1) := by decide +kernel
theorem dX10_depth_1 : decode cX10_depth 1 = .ok (.getfield 19, 3) := by decide +kernel
theorem dX10_depth_4 : decode cX10_depth 4 = .ok (.iload_n 1, 1) := by decide +kernel
theorem dX10_depth_5 : decode cX10_depth 5 = .ok (.invokevirtual 132, 3) := by decide +kernel
theorem dX10_depth_8 : decode cX10_depth 8 = .ok (.ifCond .eq 17, 3) := by decide +kernel
theorem dX10_depth_11 : decode cX10_depth 11 = .ok (.iload_n 2, 1) := by decide +kernel
theorem dX10_depth_12 : decode cX10_depth 12 = .ok (.invokestatic 191, 3) := by decide +kernel
theorem dX10_depth_15 : decode cX10_depth 15 = .ok (.ifCond .eq 10, 3) := by decide +kernel
theorem dX10_depth_18 : decode cX10_depth 18 = .ok (.iload_n 3, 1) := by decide +kernel
theorem dX10_depth_19 : decode cX10_depth 19 = .ok (.invokestatic 170, 3) := by decide +kernel
theorem dX10_depth_22 : decode cX10_depth 22 = .ok (.ifCond .ne 7, 3) := by decide +kernel
theorem dX10_depth_25 : decode cX10_depth 25 = .ok (.ldc2_w 173, 3) := by decide +kernel
theorem dX10_depth_28 : decode cX10_depth 28 = .ok (.lreturn, 1) := by decide +kernel
theorem dX10_depth_29 : decode cX10_depth 29 = .ok (.aload_n 0, 1) := by decide +kernel
theorem dX10_depth_30 : decode cX10_depth 30 = .ok (.getfield 37, 3) := by decide +kernel
theorem dX10_depth_33 : decode cX10_depth 33 = .ok (.aload_n 0, 1) := by decide +kernel
theorem dX10_depth_34 : decode cX10_depth 34 = .ok (.getfield 19, 3) := by decide +kernel
theorem dX10_depth_37 : decode cX10_depth 37 = .ok (.iload_n 1, 1) := by decide +kernel
theorem dX10_depth_38 : decode cX10_depth 38 = .ok (.iconst 1, 1) := by decide +kernel
theorem dX10_depth_39 : decode cX10_depth 39 = .ok (.iadd, 1) := by decide +kernel
theorem dX10_depth_40 : decode cX10_depth 40 = .ok (.bipush (-4), 2) := by decide +kernel
theorem dX10_depth_42 : decode cX10_depth 42 = .ok (.invokevirtual 175, 3) := by decide +kernel
theorem dX10_depth_45 : decode cX10_depth 45 = .ok (.pop2, 1) := by decide +kernel
theorem dX10_depth_46 : decode cX10_depth 46 = .ok (.aload_n 0, 1) := by decide +kernel
theorem dX10_depth_47 : decode cX10_depth 47 = .ok (.getfield 37, 3) := by decide +kernel
theorem dX10_depth_50 : decode cX10_depth 50 = .ok (.getfield 194, 3) := by decide +kernel
theorem dX10_depth_53 : decode cX10_depth 53 = .ok (.iload_n 2, 1) := by decide +kernel
theorem dX10_depth_54 : decode cX10_depth 54 = .ok (.laload, 1) := by decide +kernel
theorem dX10_depth_55 : decode cX10_depth 55 = .ok (.aload_n 0, 1) := by decide +kernel
theorem dX10_depth_56 : decode cX10_depth 56 = .ok (.getfield 37, 3) := by decide +kernel
theorem dX10_depth_59 : decode cX10_depth 59 = .ok (.getfield 179, 3) := by decide +kernel
theorem dX10_depth_62 : decode cX10_depth 62 = .ok (.iload_n 3, 1) := by decide +kernel
theorem dX10_depth_63 : decode cX10_depth 63 = .ok (.invokestatic 183, 3) := by decide +kernel
theorem dX10_depth_66 : decode cX10_depth 66 = .ok (.lreturn, 1) := by decide +kernel
theorem dX10_best_0 : decode cX10_best 0 = .ok (.iload_n 1, 1) := by decide +kernel
theorem dX10_best_1 : decode cX10_best 1 = .ok (.invokestatic 170, 3) := by decide +kernel
theorem dX10_best_4 : decode cX10_best 4 = .ok (.ifCond .ne 7, 3) := by decide +kernel
theorem dX10_best_7 : decode cX10_best 7 = .ok (.ldc2_w 173, 3) := by decide +kernel
theorem dX10_best_10 : decode cX10_best 10 = .ok (.lreturn, 1) := by decide +kernel
theorem dX10_best_11 : decode cX10_best 11 = .ok (.aload_n 0, 1) := by decide +kernel
theorem dX10_best_12 : decode cX10_best 12 = .ok (.getfield 44, 3) := by decide +kernel
theorem dX10_best_15 : decode cX10_best 15 = .ok (.aload_n 0, 1) := by decide +kernel
theorem dX10_best_16 : decode cX10_best 16 = .ok (.getfield 19, 3) := by decide +kernel
theorem dX10_best_19 : decode cX10_best 19 = .ok (.bipush (-4), 2) := by decide +kernel
theorem dX10_best_21 : decode cX10_best 21 = .ok (.invokevirtual 198, 3) := by decide +kernel
theorem dX10_best_24 : decode cX10_best 24 = .ok (.aload_n 0, 1) := by decide +kernel
theorem dX10_best_25 : decode cX10_best 25 = .ok (.getfield 44, 3) := by decide +kernel
theorem dX10_best_28 : decode cX10_best 28 = .ok (.aload_n 0, 1) := by decide +kernel
theorem dX10_best_29 : decode cX10_best 29 = .ok (.getfield 19, 3) := by decide +kernel
theorem dX10_best_32 : decode cX10_best 32 = .ok (.invokevirtual 202, 3) := by decide +kernel
theorem dX10_best_35 : decode cX10_best 35 = .ok (.aload_n 0, 1) := by decide +kernel
theorem dX10_best_36 : decode cX10_best 36 = .ok (.getfield 44, 3) := by decide +kernel
theorem dX10_best_39 : decode cX10_best 39 = .ok (.getfield 206, 3) := by decide +kernel
theorem dX10_best_42 : decode cX10_best 42 = .ok (.iload_n 1, 1) := by decide +kernel
theorem dX10_best_43 : decode cX10_best 43 = .ok (.invokestatic 183, 3) := by decide +kernel
theorem dX10_best_46 : decode cX10_best 46 = .ok (.lreturn, 1) := by decide +kernel
theorem dX10_next_0 : decode cX10_next 0 = .ok (.iload_n 2, 1) := by decide +kernel
theorem dX10_next_1 : decode cX10_next 1 = .ok (.bipush (-4), 2) := by decide +kernel
theorem dX10_next_3 : decode cX10_next 3 = .ok (.if_icmp .ne 11, 3) := by decide +kernel
theorem dX10_next_6 : decode cX10_next 6 = .ok (.iload_n 1, 1) := by decide +kernel
theorem dX10_next_7 : decode cX10_next 7 = .ok (.ifCond .ne 7, 3) := by decide +kernel
theorem dX10_next_10 : decode cX10_next 10 = .ok (.iconst 1, 1) := by decide +kernel
theorem dX10_next_11 : decode cX10_next 11 = .ok (.goto 4, 3) := by decide +kernel
theorem dX10_next_14 : decode cX10_next 14 = .ok (.iconst 0, 1) := by decide +kernel
theorem dX10_next_15 : decode cX10_next 15 = .ok (.istore 4, 2) := by decide +kernel
theorem dX10_next_17 : decode cX10_next 17 = .ok (.aload_n 0, 1) := by decide +kernel
theorem dX10_next_18 : decode cX10_next 18 = .ok (.getfield 19, 3) := by decide +kernel
theorem dX10_next_21 : decode cX10_next 21 = .ok (.iload_n 1, 1) := by decide +kernel
theorem dX10_next_22 : decode cX10_next 22 = .ok (.invokevirtual 132, 3) := by decide +kernel
theorem dX10_next_25 : decode cX10_next 25 = .ok (.ifCond .eq 30, 3) := by decide +kernel
theorem dX10_next_28 : decode cX10_next 28 = .ok (.iload 4, 2) := by decide +kernel
theorem dX10_next_30 : decode cX10_next 30 = .ok (.ifCond .ne 14, 3) := by decide +kernel
theorem dX10_next_33 : decode cX10_next 33 = .ok (.aload_n 0, 1) := by decide +kernel
theorem dX10_next_34 : decode cX10_next 34 = .ok (.getfield 19, 3) := by decide +kernel
theorem dX10_next_37 : decode cX10_next 37 = .ok (.iload_n 2, 1) := by decide +kernel
theorem dX10_next_38 : decode cX10_next 38 = .ok (.invokevirtual 146, 3) := by decide +kernel
theorem dX10_next_41 : decode cX10_next 41 = .ok (.ifCond .eq 14, 3) := by decide +kernel
theorem dX10_next_44 : decode cX10_next 44 = .ok (.iload_n 3, 1) := by decide +kernel
theorem dX10_next_45 : decode cX10_next 45 = .ok (.iconst 1, 1) := by decide +kernel
theorem dX10_next_46 : decode cX10_next 46 = .ok (.if_icmp .lt 9, 3) := by decide +kernel
theorem dX10_next_49 : decode cX10_next 49 = .ok (.iload_n 3, 1) := by decide +kernel
theorem dX10_next_50 : decode cX10_next 50 = .ok (.bipush 9, 2) := by decide +kernel
theorem dX10_next_52 : decode cX10_next 52 = .ok (.if_icmp .le 5, 3) := by decide +kernel
theorem dX10_next_55 : decode cX10_next 55 = .ok (.iconst (-1), 1) := by decide +kernel
theorem dX10_next_56 : decode cX10_next 56 = .ok (.ireturn, 1) := by decide +kernel
theorem dX10_next_57 : decode cX10_next 57 = .ok (.aload_n 0, 1) := by decide +kernel
theorem dX10_next_58 : decode cX10_next 58 = .ok (.getfield 44, 3) := by decide +kernel
theorem dX10_next_61 : decode cX10_next 61 = .ok (.aload_n 0, 1) := by decide +kernel
theorem dX10_next_62 : decode cX10_next 62 = .ok (.getfield 19, 3) := by decide +kernel
theorem dX10_next_65 : decode cX10_next 65 = .ok (.bipush (-4), 2) := by decide +kernel
theorem dX10_next_67 : decode cX10_next 67 = .ok (.invokevirtual 198, 3) := by decide +kernel
theorem dX10_next_70 : decode cX10_next 70 = .ok (.aload_n 0, 1) := by decide +kernel
theorem dX10_next_71 : decode cX10_next 71 = .ok (.getfield 44, 3) := by decide +kernel
theorem dX10_next_74 : decode cX10_next 74 = .ok (.getfield 207, 3) := by decide +kernel
theorem dX10_next_77 : decode cX10_next 77 = .ok (.iload_n 1, 1) := by decide +kernel
theorem dX10_next_78 : decode cX10_next 78 = .ok (.aaload, 1) := by decide +kernel
theorem dX10_next_79 : decode cX10_next 79 = .ok (.iload_n 2, 1) := by decide +kernel
theorem dX10_next_80 : decode cX10_next 80 = .ok (.iload_n 3, 1) := by decide +kernel
theorem dX10_next_81 : decode cX10_next 81 = .ok (.invokestatic 211, 3) := by decide +kernel
theorem dX10_next_84 : decode cX10_next 84 = .ok (.iaload, 1) := by decide +kernel
theorem dX10_next_85 : decode cX10_next 85 = .ok (.ireturn, 1) := by decide +kernel
theorem dX10_without_0 : decode cX10_without 0 = .ok (.aload_n 0, 1) := by decide +kernel
theorem dX10_without_1 : decode cX10_without 1 = .ok (.getfield 19, 3) := by decide +kernel
theorem dX10_without_4 : decode cX10_without 4 = .ok (.iload_n 1, 1) := by decide +kernel
theorem dX10_without_5 : decode cX10_without 5 = .ok (.invokevirtual 146, 3) := by decide +kernel
theorem dX10_without_8 : decode cX10_without 8 = .ok (.ifCond .eq 10, 3) := by decide +kernel
theorem dX10_without_11 : decode cX10_without 11 = .ok (.iload_n 2, 1) := by decide +kernel
theorem dX10_without_12 : decode cX10_without 12 = .ok (.invokestatic 170, 3) := by decide +kernel
theorem dX10_without_15 : decode cX10_without 15 = .ok (.ifCond .ne 7, 3) := by decide +kernel
theorem dX10_without_18 : decode cX10_without 18 = .ok (.ldc2_w 173, 3) := by decide +kernel
theorem dX10_without_21 : decode cX10_without 21 = .ok (.lreturn, 1) := by decide +kernel
theorem dX10_without_22 : decode cX10_without 22 = .ok (.aload_n 0, 1) := by decide +kernel
theorem dX10_without_23 : decode cX10_without 23 = .ok (.getfield 19, 3) := by decide +kernel
theorem dX10_without_26 : decode cX10_without 26 = .ok (.getfield 126, 3) := by decide +kernel
theorem dX10_without_29 : decode cX10_without 29 = .ok (.iconst 2, 1) := by decide +kernel
theorem dX10_without_30 : decode cX10_without 30 = .ok (.if_icmp .ge 7, 3) := by decide +kernel
theorem dX10_without_33 : decode cX10_without 33 = .ok (.ldc2_w 215, 3) := by decide +kernel
theorem dX10_without_36 : decode cX10_without 36 = .ok (.lreturn, 1) := by decide +kernel
theorem dX10_without_37 : decode cX10_without 37 = .ok (.aload_n 0, 1) := by decide +kernel
theorem dX10_without_38 : decode cX10_without 38 = .ok (.getfield 44, 3) := by decide +kernel
theorem dX10_without_41 : decode cX10_without 41 = .ok (.aload_n 0, 1) := by decide +kernel
theorem dX10_without_42 : decode cX10_without 42 = .ok (.getfield 19, 3) := by decide +kernel
theorem dX10_without_45 : decode cX10_without 45 = .ok (.iload_n 1, 1) := by decide +kernel
theorem dX10_without_46 : decode cX10_without 46 = .ok (.invokevirtual 198, 3) := by decide +kernel
theorem dX10_without_49 : decode cX10_without 49 = .ok (.aload_n 0, 1) := by decide +kernel
theorem dX10_without_50 : decode cX10_without 50 = .ok (.getfield 44, 3) := by decide +kernel
theorem dX10_without_53 : decode cX10_without 53 = .ok (.aload_n 0, 1) := by decide +kernel
theorem dX10_without_54 : decode cX10_without 54 = .ok (.getfield 19, 3) := by decide +kernel
theorem dX10_without_57 : decode cX10_without 57 = .ok (.invokevirtual 202, 3) := by decide +kernel
theorem dX10_without_60 : decode cX10_without 60 = .ok (.aload_n 0, 1) := by decide +kernel
theorem dX10_without_61 : decode cX10_without 61 = .ok (.getfield 44, 3) := by decide +kernel
theorem dX10_without_64 : decode cX10_without 64 = .ok (.getfield 206, 3) := by decide +kernel
theorem dX10_without_67 : decode cX10_without 67 = .ok (.iload_n 2, 1) := by decide +kernel
theorem dX10_without_68 : decode cX10_without 68 = .ok (.invokestatic 183, 3) := by decide +kernel
theorem dX10_without_71 : decode cX10_without 71 = .ok (.lreturn, 1) := by decide +kernel
theorem dX10_quiet_0 : decode cX10_quiet 0 = .ok (.iload_n 1, 1) := by decide +kernel
theorem dX10_quiet_1 : decode cX10_quiet 1 = .ok (.ifCond .lt 15, 3) := by decide +kernel
theorem dX10_quiet_4 : decode cX10_quiet 4 = .ok (.iload_n 1, 1) := by decide +kernel
theorem dX10_quiet_5 : decode cX10_quiet 5 = .ok (.iconst 4, 1) := by decide +kernel
theorem dX10_quiet_6 : decode cX10_quiet 6 = .ok (.if_icmp .gt 10, 3) := by decide +kernel
theorem dX10_quiet_9 : decode cX10_quiet 9 = .ok (.iload_n 2, 1) := by decide +kernel
theorem dX10_quiet_10 : decode cX10_quiet 10 = .ok (.invokestatic 217, 3) := by decide +kernel
theorem dX10_quiet_13 : decode cX10_quiet 13 = .ok (.ifCond .ne 7, 3) := by decide +kernel
theorem dX10_quiet_16 : decode cX10_quiet 16 = .ok (.ldc2_w 173, 3) := by decide +kernel
theorem dX10_quiet_19 : decode cX10_quiet 19 = .ok (.lreturn, 1) := by decide +kernel
theorem dX10_quiet_20 : decode cX10_quiet 20 = .ok (.aload_n 0, 1) := by decide +kernel
theorem dX10_quiet_21 : decode cX10_quiet 21 = .ok (.getfield 23, 3) := by decide +kernel
theorem dX10_quiet_24 : decode cX10_quiet 24 = .ok (.aload_n 0, 1) := by decide +kernel
theorem dX10_quiet_25 : decode cX10_quiet 25 = .ok (.getfield 19, 3) := by decide +kernel
theorem dX10_quiet_28 : decode cX10_quiet 28 = .ok (.invokevirtual 112, 3) := by decide +kernel
theorem dX10_quiet_31 : decode cX10_quiet 31 = .ok (.aload_n 0, 1) := by decide +kernel
theorem dX10_quiet_32 : decode cX10_quiet 32 = .ok (.getfield 37, 3) := by decide +kernel
theorem dX10_quiet_35 : decode cX10_quiet 35 = .ok (.aload_n 0, 1) := by decide +kernel
theorem dX10_quiet_36 : decode cX10_quiet 36 = .ok (.getfield 19, 3) := by decide +kernel
theorem dX10_quiet_39 : decode cX10_quiet 39 = .ok (.aload_n 0, 1) := by decide +kernel
theorem dX10_quiet_40 : decode cX10_quiet 40 = .ok (.getfield 19, 3) := by decide +kernel
theorem dX10_quiet_43 : decode cX10_quiet 43 = .ok (.getfield 123, 3) := by decide +kernel
theorem dX10_quiet_46 : decode cX10_quiet 46 = .ok (.bipush (-4), 2) := by decide +kernel
theorem dX10_quiet_48 : decode cX10_quiet 48 = .ok (.invokevirtual 175, 3) := by decide +kernel
theorem dX10_quiet_51 : decode cX10_quiet 51 = .ok (.lstore_n 3, 1) := by decide +kernel
theorem dX10_quiet_52 : decode cX10_quiet 52 = .ok (.iconst 0, 1) := by decide +kernel
theorem dX10_quiet_53 : decode cX10_quiet 53 = .ok (.istore 5, 2) := by decide +kernel
theorem dX10_quiet_55 : decode cX10_quiet 55 = .ok (.iconst 1, 1) := by decide +kernel
theorem dX10_quiet_56 : decode cX10_quiet 56 = .ok (.istore 6, 2) := by decide +kernel
theorem dX10_quiet_58 : decode cX10_quiet 58 = .ok (.iload 6, 2) := by decide +kernel
theorem dX10_quiet_60 : decode cX10_quiet 60 = .ok (.iconst 1, 1) := by decide +kernel
theorem dX10_quiet_61 : decode cX10_quiet 61 = .ok (.aload_n 0, 1) := by decide +kernel
theorem dX10_quiet_62 : decode cX10_quiet 62 = .ok (.getfield 19, 3) := by decide +kernel
theorem dX10_quiet_65 : decode cX10_quiet 65 = .ok (.getfield 123, 3) := by decide +kernel
theorem dX10_quiet_68 : decode cX10_quiet 68 = .ok (.ishl, 1) := by decide +kernel
theorem dX10_quiet_69 : decode cX10_quiet 69 = .ok (.if_icmp .ge 84, 3) := by decide +kernel
theorem dX10_quiet_72 : decode cX10_quiet 72 = .ok (.iload 6, 2) := by decide +kernel
theorem dX10_quiet_74 : decode cX10_quiet 74 = .ok (.invokestatic 220, 3) := by decide +kernel
theorem dX10_quiet_77 : decode cX10_quiet 77 = .ok (.istore 7, 2) := by decide +kernel
theorem dX10_quiet_79 : decode cX10_quiet 79 = .ok (.iload 7, 2) := by decide +kernel
theorem dX10_quiet_81 : decode cX10_quiet 81 = .ok (.iload_n 1, 1) := by decide +kernel
theorem dX10_quiet_82 : decode cX10_quiet 82 = .ok (.if_icmp .le 6, 3) := by decide +kernel
theorem dX10_quiet_85 : decode cX10_quiet 85 = .ok (.goto 62, 3) := by decide +kernel
theorem dX10_quiet_88 : decode cX10_quiet 88 = .ok (.aload_n 0, 1) := by decide +kernel
theorem dX10_quiet_89 : decode cX10_quiet 89 = .ok (.iload 6, 2) := by decide +kernel
theorem dX10_quiet_91 : decode cX10_quiet 91 = .ok (.invokevirtual 226, 3) := by decide +kernel
theorem dX10_quiet_94 : decode cX10_quiet 94 = .ok (.aload_n 0, 1) := by decide +kernel
theorem dX10_quiet_95 : decode cX10_quiet 95 = .ok (.getfield 37, 3) := by decide +kernel
theorem dX10_quiet_98 : decode cX10_quiet 98 = .ok (.aload_n 0, 1) := by decide +kernel
theorem dX10_quiet_99 : decode cX10_quiet 99 = .ok (.getfield 23, 3) := by decide +kernel
theorem dX10_quiet_102 : decode cX10_quiet 102 = .ok (.aload_n 0, 1) := by decide +kernel
theorem dX10_quiet_103 : decode cX10_quiet 103 = .ok (.getfield 23, 3) := by decide +kernel
theorem dX10_quiet_106 : decode cX10_quiet 106 = .ok (.getfield 123, 3) := by decide +kernel
theorem dX10_quiet_109 : decode cX10_quiet 109 = .ok (.bipush (-4), 2) := by decide +kernel
theorem dX10_quiet_111 : decode cX10_quiet 111 = .ok (.invokevirtual 175, 3) := by decide +kernel
theorem dX10_quiet_114 : decode cX10_quiet 114 = .ok (.lstore 8, 2) := by decide +kernel
theorem dX10_quiet_116 : decode cX10_quiet 116 = .ok (.lload 8, 2) := by decide +kernel
theorem dX10_quiet_118 : decode cX10_quiet 118 = .ok (.lload_n 3, 1) := by decide +kernel
theorem dX10_quiet_119 : decode cX10_quiet 119 = .ok (.lcmp, 1) := by decide +kernel
theorem dX10_quiet_120 : decode cX10_quiet 120 = .ok (.ifCond .lt 20, 3) := by decide +kernel
theorem dX10_quiet_123 : decode cX10_quiet 123 = .ok (.lload 8, 2) := by decide +kernel
theorem dX10_quiet_125 : decode cX10_quiet 125 = .ok (.lload_n 3, 1) := by decide +kernel
theorem dX10_quiet_126 : decode cX10_quiet 126 = .ok (.lcmp, 1) := by decide +kernel
theorem dX10_quiet_127 : decode cX10_quiet 127 = .ok (.ifCond .ne 20, 3) := by decide +kernel
theorem dX10_quiet_130 : decode cX10_quiet 130 = .ok (.iload 7, 2) := by decide +kernel
theorem dX10_quiet_132 : decode cX10_quiet 132 = .ok (.iload 5, 2) := by decide +kernel
theorem dX10_quiet_134 : decode cX10_quiet 134 = .ok (.invokestatic 220, 3) := by decide +kernel
theorem dX10_quiet_137 : decode cX10_quiet 137 = .ok (.if_icmp .ge 10, 3) := by decide +kernel
theorem dX10_quiet_140 : decode cX10_quiet 140 = .ok (.lload 8, 2) := by decide +kernel
theorem dX10_quiet_142 : decode cX10_quiet 142 = .ok (.lstore_n 3, 1) := by decide +kernel
theorem dX10_quiet_143 : decode cX10_quiet 143 = .ok (.iload 6, 2) := by decide +kernel
theorem dX10_quiet_145 : decode cX10_quiet 145 = .ok (.istore 5, 2) := by decide +kernel
theorem dX10_quiet_147 : decode cX10_quiet 147 = .ok (.iinc 6 1, 3) := by decide +kernel
theorem dX10_quiet_150 : decode cX10_quiet 150 = .ok (.goto (-92), 3) := by decide +kernel
theorem dX10_quiet_153 : decode cX10_quiet 153 = .ok (.iload_n 2, 1) := by decide +kernel
theorem dX10_quiet_154 : decode cX10_quiet 154 = .ok (.iconst 2, 1) := by decide +kernel
theorem dX10_quiet_155 : decode cX10_quiet 155 = .ok (.if_icmp .ne 9, 3) := by decide +kernel
theorem dX10_quiet_158 : decode cX10_quiet 158 = .ok (.iload 5, 2) := by decide +kernel
theorem dX10_quiet_160 : decode cX10_quiet 160 = .ok (.i2l, 1) := by decide +kernel
theorem dX10_quiet_161 : decode cX10_quiet 161 = .ok (.goto 15, 3) := by decide +kernel
theorem dX10_quiet_164 : decode cX10_quiet 164 = .ok (.lload_n 3, 1) := by decide +kernel
theorem dX10_quiet_165 : decode cX10_quiet 165 = .ok (.aload_n 0, 1) := by decide +kernel
theorem dX10_quiet_166 : decode cX10_quiet 166 = .ok (.getfield 37, 3) := by decide +kernel
theorem dX10_quiet_169 : decode cX10_quiet 169 = .ok (.getfield 179, 3) := by decide +kernel
theorem dX10_quiet_172 : decode cX10_quiet 172 = .ok (.iload_n 2, 1) := by decide +kernel
theorem dX10_quiet_173 : decode cX10_quiet 173 = .ok (.invokestatic 183, 3) := by decide +kernel
theorem dX10_quiet_176 : decode cX10_quiet 176 = .ok (.lreturn, 1) := by decide +kernel
theorem dX10_stopNoises_0 : decode cX10_stopNoises 0 = .ok (.iconst 0, 1) := by decide +kernel
theorem dX10_stopNoises_1 : decode cX10_stopNoises 1 = .ok (.istore_n 2, 1) := by decide +kernel
theorem dX10_stopNoises_2 : decode cX10_stopNoises 2 = .ok (.iload_n 2, 1) := by decide +kernel
theorem dX10_stopNoises_3 : decode cX10_stopNoises 3 = .ok (.aload_n 0, 1) := by decide +kernel
theorem dX10_stopNoises_4 : decode cX10_stopNoises 4 = .ok (.getfield 19, 3) := by decide +kernel
theorem dX10_stopNoises_7 : decode cX10_stopNoises 7 = .ok (.getfield 123, 3) := by decide +kernel
theorem dX10_stopNoises_10 : decode cX10_stopNoises 10 = .ok (.if_icmp .ge 40, 3) := by decide +kernel
theorem dX10_stopNoises_13 : decode cX10_stopNoises 13 = .ok (.aload_n 0, 1) := by decide +kernel
theorem dX10_stopNoises_14 : decode cX10_stopNoises 14 = .ok (.getfield 23, 3) := by decide +kernel
theorem dX10_stopNoises_17 : decode cX10_stopNoises 17 = .ok (.getfield 136, 3) := by decide +kernel
theorem dX10_stopNoises_20 : decode cX10_stopNoises 20 = .ok (.iload_n 2, 1) := by decide +kernel
theorem dX10_stopNoises_21 : decode cX10_stopNoises 21 = .ok (.iload_n 1, 1) := by decide +kernel
theorem dX10_stopNoises_22 : decode cX10_stopNoises 22 = .ok (.iload_n 2, 1) := by decide +kernel
theorem dX10_stopNoises_23 : decode cX10_stopNoises 23 = .ok (.ishr, 1) := by decide +kernel
theorem dX10_stopNoises_24 : decode cX10_stopNoises 24 = .ok (.iconst 1, 1) := by decide +kernel
theorem dX10_stopNoises_25 : decode cX10_stopNoises 25 = .ok (.iand, 1) := by decide +kernel
theorem dX10_stopNoises_26 : decode cX10_stopNoises 26 = .ok (.iconst 1, 1) := by decide +kernel
theorem dX10_stopNoises_27 : decode cX10_stopNoises 27 = .ok (.if_icmp .ne 7, 3) := by decide +kernel
theorem dX10_stopNoises_30 : decode cX10_stopNoises 30 = .ok (.iconst 0, 1) := by decide +kernel
theorem dX10_stopNoises_31 : decode cX10_stopNoises 31 = .ok (.goto 12, 3) := by decide +kernel
theorem dX10_stopNoises_34 : decode cX10_stopNoises 34 = .ok (.aload_n 0, 1) := by decide +kernel
theorem dX10_stopNoises_35 : decode cX10_stopNoises 35 = .ok (.getfield 19, 3) := by decide +kernel
theorem dX10_stopNoises_38 : decode cX10_stopNoises 38 = .ok (.getfield 136, 3) := by decide +kernel
theorem dX10_stopNoises_41 : decode cX10_stopNoises 41 = .ok (.iload_n 2, 1) := by decide +kernel
theorem dX10_stopNoises_42 : decode cX10_stopNoises 42 = .ok (.iaload, 1) := by decide +kernel
theorem dX10_stopNoises_43 : decode cX10_stopNoises 43 = .ok (.iastore, 1) := by decide +kernel
theorem dX10_stopNoises_44 : decode cX10_stopNoises 44 = .ok (.iinc 2 1, 3) := by decide +kernel
theorem dX10_stopNoises_47 : decode cX10_stopNoises 47 = .ok (.goto (-45), 3) := by decide +kernel
theorem dX10_stopNoises_50 : decode cX10_stopNoises 50 = .ok (.return_, 1) := by decide +kernel
theorem dX10_drop_0 : decode cX10_drop 0 = .ok (.iload_n 1, 1) := by decide +kernel
theorem dX10_drop_1 : decode cX10_drop 1 = .ok (.invokestatic 217, 3) := by decide +kernel
theorem dX10_drop_4 : decode cX10_drop 4 = .ok (.ifCond .ne 7, 3) := by decide +kernel
theorem dX10_drop_7 : decode cX10_drop 7 = .ok (.ldc2_w 173, 3) := by decide +kernel
theorem dX10_drop_10 : decode cX10_drop 10 = .ok (.lreturn, 1) := by decide +kernel
theorem dX10_drop_11 : decode cX10_drop 11 = .ok (.aload_n 0, 1) := by decide +kernel
theorem dX10_drop_12 : decode cX10_drop 12 = .ok (.getfield 19, 3) := by decide +kernel
theorem dX10_drop_15 : decode cX10_drop 15 = .ok (.getfield 123, 3) := by decide +kernel
theorem dX10_drop_18 : decode cX10_drop 18 = .ok (.ifCond .ne 7, 3) := by decide +kernel
theorem dX10_drop_21 : decode cX10_drop 21 = .ok (.ldc2_w 215, 3) := by decide +kernel
theorem dX10_drop_24 : decode cX10_drop 24 = .ok (.lreturn, 1) := by decide +kernel
theorem dX10_drop_25 : decode cX10_drop 25 = .ok (.aload_n 0, 1) := by decide +kernel
theorem dX10_drop_26 : decode cX10_drop 26 = .ok (.getfield 37, 3) := by decide +kernel
theorem dX10_drop_29 : decode cX10_drop 29 = .ok (.aload_n 0, 1) := by decide +kernel
theorem dX10_drop_30 : decode cX10_drop 30 = .ok (.getfield 19, 3) := by decide +kernel
theorem dX10_drop_33 : decode cX10_drop 33 = .ok (.aload_n 0, 1) := by decide +kernel
theorem dX10_drop_34 : decode cX10_drop 34 = .ok (.getfield 19, 3) := by decide +kernel
theorem dX10_drop_37 : decode cX10_drop 37 = .ok (.getfield 123, 3) := by decide +kernel
theorem dX10_drop_40 : decode cX10_drop 40 = .ok (.iconst 0, 1) := by decide +kernel
theorem dX10_drop_41 : decode cX10_drop 41 = .ok (.invokevirtual 175, 3) := by decide +kernel
theorem dX10_drop_44 : decode cX10_drop 44 = .ok (.lstore_n 2, 1) := by decide +kernel
theorem dX10_drop_45 : decode cX10_drop 45 = .ok (.iconst 0, 1) := by decide +kernel
theorem dX10_drop_46 : decode cX10_drop 46 = .ok (.istore 4, 2) := by decide +kernel
theorem dX10_drop_48 : decode cX10_drop 48 = .ok (.iconst 1, 1) := by decide +kernel
theorem dX10_drop_49 : decode cX10_drop 49 = .ok (.istore 5, 2) := by decide +kernel
theorem dX10_drop_51 : decode cX10_drop 51 = .ok (.iload 5, 2) := by decide +kernel
theorem dX10_drop_53 : decode cX10_drop 53 = .ok (.aload_n 0, 1) := by decide +kernel
theorem dX10_drop_54 : decode cX10_drop 54 = .ok (.getfield 19, 3) := by decide +kernel
theorem dX10_drop_57 : decode cX10_drop 57 = .ok (.getfield 123, 3) := by decide +kernel
theorem dX10_drop_60 : decode cX10_drop 60 = .ok (.if_icmp .ge 45, 3) := by decide +kernel
theorem dX10_drop_63 : decode cX10_drop 63 = .ok (.aload_n 0, 1) := by decide +kernel
theorem dX10_drop_64 : decode cX10_drop 64 = .ok (.getfield 37, 3) := by decide +kernel
theorem dX10_drop_67 : decode cX10_drop 67 = .ok (.aload_n 0, 1) := by decide +kernel
theorem dX10_drop_68 : decode cX10_drop 68 = .ok (.getfield 19, 3) := by decide +kernel
theorem dX10_drop_71 : decode cX10_drop 71 = .ok (.aload_n 0, 1) := by decide +kernel
theorem dX10_drop_72 : decode cX10_drop 72 = .ok (.getfield 19, 3) := by decide +kernel
theorem dX10_drop_75 : decode cX10_drop 75 = .ok (.getfield 123, 3) := by decide +kernel
theorem dX10_drop_78 : decode cX10_drop 78 = .ok (.iload 5, 2) := by decide +kernel
theorem dX10_drop_80 : decode cX10_drop 80 = .ok (.invokevirtual 175, 3) := by decide +kernel
theorem dX10_drop_83 : decode cX10_drop 83 = .ok (.lstore 6, 2) := by decide +kernel
theorem dX10_drop_85 : decode cX10_drop 85 = .ok (.lload 6, 2) := by decide +kernel
theorem dX10_drop_87 : decode cX10_drop 87 = .ok (.lload_n 2, 1) := by decide +kernel
theorem dX10_drop_88 : decode cX10_drop 88 = .ok (.lcmp, 1) := by decide +kernel
theorem dX10_drop_89 : decode cX10_drop 89 = .ok (.ifCond .ge 10, 3) := by decide +kernel
theorem dX10_drop_92 : decode cX10_drop 92 = .ok (.lload 6, 2) := by decide +kernel
theorem dX10_drop_94 : decode cX10_drop 94 = .ok (.lstore_n 2, 1) := by decide +kernel
theorem dX10_drop_95 : decode cX10_drop 95 = .ok (.iload 5, 2) := by decide +kernel
theorem dX10_drop_97 : decode cX10_drop 97 = .ok (.istore 4, 2) := by decide +kernel
theorem dX10_drop_99 : decode cX10_drop 99 = .ok (.iinc 5 1, 3) := by decide +kernel
theorem dX10_drop_102 : decode cX10_drop 102 = .ok (.goto (-51), 3) := by decide +kernel
theorem dX10_drop_105 : decode cX10_drop 105 = .ok (.iload_n 1, 1) := by decide +kernel
theorem dX10_drop_106 : decode cX10_drop 106 = .ok (.iconst 2, 1) := by decide +kernel
theorem dX10_drop_107 : decode cX10_drop 107 = .ok (.if_icmp .ne 9, 3) := by decide +kernel
theorem dX10_drop_110 : decode cX10_drop 110 = .ok (.iload 4, 2) := by decide +kernel
theorem dX10_drop_112 : decode cX10_drop 112 = .ok (.i2l, 1) := by decide +kernel
theorem dX10_drop_113 : decode cX10_drop 113 = .ok (.goto 15, 3) := by decide +kernel
theorem dX10_drop_116 : decode cX10_drop 116 = .ok (.lload_n 2, 1) := by decide +kernel
theorem dX10_drop_117 : decode cX10_drop 117 = .ok (.aload_n 0, 1) := by decide +kernel
theorem dX10_drop_118 : decode cX10_drop 118 = .ok (.getfield 37, 3) := by decide +kernel
theorem dX10_drop_121 : decode cX10_drop 121 = .ok (.getfield 179, 3) := by decide +kernel
theorem dX10_drop_124 : decode cX10_drop 124 = .ok (.iload_n 1, 1) := by decide +kernel
theorem dX10_drop_125 : decode cX10_drop 125 = .ok (.invokestatic 183, 3) := by decide +kernel
theorem dX10_drop_128 : decode cX10_drop 128 = .ok (.lreturn, 1) := by decide +kernel
theorem dX10_swap_0 : decode cX10_swap 0 = .ok (.iload_n 1, 1) := by decide +kernel
theorem dX10_swap_1 : decode cX10_swap 1 = .ok (.invokestatic 217, 3) := by decide +kernel
theorem dX10_swap_4 : decode cX10_swap 4 = .ok (.ifCond .ne 7, 3) := by decide +kernel
theorem dX10_swap_7 : decode cX10_swap 7 = .ok (.ldc2_w 173, 3) := by decide +kernel
theorem dX10_swap_10 : decode cX10_swap 10 = .ok (.lreturn, 1) := by decide +kernel
theorem dX10_swap_11 : decode cX10_swap 11 = .ok (.aload_n 0, 1) := by decide +kernel
theorem dX10_swap_12 : decode cX10_swap 12 = .ok (.getfield 23, 3) := by decide +kernel
theorem dX10_swap_15 : decode cX10_swap 15 = .ok (.aload_n 0, 1) := by decide +kernel
theorem dX10_swap_16 : decode cX10_swap 16 = .ok (.getfield 19, 3) := by decide +kernel
theorem dX10_swap_19 : decode cX10_swap 19 = .ok (.invokevirtual 112, 3) := by decide +kernel
theorem dX10_swap_22 : decode cX10_swap 22 = .ok (.aload_n 0, 1) := by decide +kernel
theorem dX10_swap_23 : decode cX10_swap 23 = .ok (.getfield 37, 3) := by decide +kernel
theorem dX10_swap_26 : decode cX10_swap 26 = .ok (.aload_n 0, 1) := by decide +kernel
theorem dX10_swap_27 : decode cX10_swap 27 = .ok (.getfield 19, 3) := by decide +kernel
theorem dX10_swap_30 : decode cX10_swap 30 = .ok (.aload_n 0, 1) := by decide +kernel
theorem dX10_swap_31 : decode cX10_swap 31 = .ok (.getfield 19, 3) := by decide +kernel
theorem dX10_swap_34 : decode cX10_swap 34 = .ok (.getfield 123, 3) := by decide +kernel
theorem dX10_swap_37 : decode cX10_swap 37 = .ok (.bipush (-4), 2) := by decide +kernel
theorem dX10_swap_39 : decode cX10_swap 39 = .ok (.invokevirtual 175, 3) := by decide +kernel
theorem dX10_swap_42 : decode cX10_swap 42 = .ok (.lstore_n 2, 1) := by decide +kernel
theorem dX10_swap_43 : decode cX10_swap 43 = .ok (.bipush (-4), 2) := by decide +kernel
theorem dX10_swap_45 : decode cX10_swap 45 = .ok (.istore 4, 2) := by decide +kernel
theorem dX10_swap_47 : decode cX10_swap 47 = .ok (.iconst 0, 1) := by decide +kernel
theorem dX10_swap_48 : decode cX10_swap 48 = .ok (.istore 5, 2) := by decide +kernel
theorem dX10_swap_50 : decode cX10_swap 50 = .ok (.iload 5, 2) := by decide +kernel
theorem dX10_swap_52 : decode cX10_swap 52 = .ok (.aload_n 0, 1) := by decide +kernel
theorem dX10_swap_53 : decode cX10_swap 53 = .ok (.getfield 19, 3) := by decide +kernel
theorem dX10_swap_56 : decode cX10_swap 56 = .ok (.getfield 123, 3) := by decide +kernel
theorem dX10_swap_59 : decode cX10_swap 59 = .ok (.if_icmp .ge 97, 3) := by decide +kernel
theorem dX10_swap_62 : decode cX10_swap 62 = .ok (.iload 5, 2) := by decide +kernel
theorem dX10_swap_64 : decode cX10_swap 64 = .ok (.iconst 1, 1) := by decide +kernel
theorem dX10_swap_65 : decode cX10_swap 65 = .ok (.iadd, 1) := by decide +kernel
theorem dX10_swap_66 : decode cX10_swap 66 = .ok (.istore 6, 2) := by decide +kernel
theorem dX10_swap_68 : decode cX10_swap 68 = .ok (.iload 6, 2) := by decide +kernel
theorem dX10_swap_70 : decode cX10_swap 70 = .ok (.aload_n 0, 1) := by decide +kernel
theorem dX10_swap_71 : decode cX10_swap 71 = .ok (.getfield 19, 3) := by decide +kernel
theorem dX10_swap_74 : decode cX10_swap 74 = .ok (.getfield 123, 3) := by decide +kernel
theorem dX10_swap_77 : decode cX10_swap 77 = .ok (.if_icmp .ge 73, 3) := by decide +kernel
theorem dX10_swap_80 : decode cX10_swap 80 = .ok (.aload_n 0, 1) := by decide +kernel
theorem dX10_swap_81 : decode cX10_swap 81 = .ok (.getfield 23, 3) := by decide +kernel
theorem dX10_swap_84 : decode cX10_swap 84 = .ok (.iload 5, 2) := by decide +kernel
theorem dX10_swap_86 : decode cX10_swap 86 = .ok (.iload 6, 2) := by decide +kernel
theorem dX10_swap_88 : decode cX10_swap 88 = .ok (.invokevirtual 230, 3) := by decide +kernel
theorem dX10_swap_91 : decode cX10_swap 91 = .ok (.aload_n 0, 1) := by decide +kernel
theorem dX10_swap_92 : decode cX10_swap 92 = .ok (.getfield 37, 3) := by decide +kernel
theorem dX10_swap_95 : decode cX10_swap 95 = .ok (.aload_n 0, 1) := by decide +kernel
theorem dX10_swap_96 : decode cX10_swap 96 = .ok (.getfield 23, 3) := by decide +kernel
theorem dX10_swap_99 : decode cX10_swap 99 = .ok (.aload_n 0, 1) := by decide +kernel
theorem dX10_swap_100 : decode cX10_swap 100 = .ok (.getfield 23, 3) := by decide +kernel
theorem dX10_swap_103 : decode cX10_swap 103 = .ok (.getfield 123, 3) := by decide +kernel
theorem dX10_swap_106 : decode cX10_swap 106 = .ok (.bipush (-4), 2) := by decide +kernel
theorem dX10_swap_108 : decode cX10_swap 108 = .ok (.invokevirtual 175, 3) := by decide +kernel
theorem dX10_swap_111 : decode cX10_swap 111 = .ok (.lstore 7, 2) := by decide +kernel
theorem dX10_swap_113 : decode cX10_swap 113 = .ok (.aload_n 0, 1) := by decide +kernel
theorem dX10_swap_114 : decode cX10_swap 114 = .ok (.getfield 23, 3) := by decide +kernel
theorem dX10_swap_117 : decode cX10_swap 117 = .ok (.iload 5, 2) := by decide +kernel
theorem dX10_swap_119 : decode cX10_swap 119 = .ok (.iload 6, 2) := by decide +kernel
theorem dX10_swap_121 : decode cX10_swap 121 = .ok (.invokevirtual 230, 3) := by decide +kernel
theorem dX10_swap_124 : decode cX10_swap 124 = .ok (.lload 7, 2) := by decide +kernel
theorem dX10_swap_126 : decode cX10_swap 126 = .ok (.lload_n 2, 1) := by decide +kernel
theorem dX10_swap_127 : decode cX10_swap 127 = .ok (.lcmp, 1) := by decide +kernel
theorem dX10_swap_128 : decode cX10_swap 128 = .ok (.ifCond .ge 16, 3) := by decide +kernel
theorem dX10_swap_131 : decode cX10_swap 131 = .ok (.lload 7, 2) := by decide +kernel
theorem dX10_swap_133 : decode cX10_swap 133 = .ok (.lstore_n 2, 1) := by decide +kernel
theorem dX10_swap_134 : decode cX10_swap 134 = .ok (.bipush 10, 2) := by decide +kernel
theorem dX10_swap_136 : decode cX10_swap 136 = .ok (.iload 5, 2) := by decide +kernel
theorem dX10_swap_138 : decode cX10_swap 138 = .ok (.imul, 1) := by decide +kernel
theorem dX10_swap_139 : decode cX10_swap 139 = .ok (.iload 6, 2) := by decide +kernel
theorem dX10_swap_141 : decode cX10_swap 141 = .ok (.iadd, 1) := by decide +kernel
theorem dX10_swap_142 : decode cX10_swap 142 = .ok (.istore 4, 2) := by decide +kernel
theorem dX10_swap_144 : decode cX10_swap 144 = .ok (.iinc 6 1, 3) := by decide +kernel
theorem dX10_swap_147 : decode cX10_swap 147 = .ok (.goto (-79), 3) := by decide +kernel
theorem dX10_swap_150 : decode cX10_swap 150 = .ok (.iinc 5 1, 3) := by decide +kernel
theorem dX10_swap_153 : decode cX10_swap 153 = .ok (.goto (-103), 3) := by decide +kernel
theorem dX10_swap_156 : decode cX10_swap 156 = .ok (.iload 4, 2) := by decide +kernel
theorem dX10_swap_158 : decode cX10_swap 158 = .ok (.bipush (-4), 2) := by decide +kernel
theorem dX10_swap_160 : decode cX10_swap 160 = .ok (.if_icmp .eq 8, 3) := by decide +kernel
theorem dX10_swap_163 : decode cX10_swap 163 = .ok (.iload_n 1, 1) := by decide +kernel
theorem dX10_swap_164 : decode cX10_swap 164 = .ok (.iconst 2, 1) := by decide +kernel
theorem dX10_swap_165 : decode cX10_swap 165 = .ok (.if_icmp .ne 7, 3) := by decide +kernel
theorem dX10_swap_168 : decode cX10_swap 168 = .ok (.iload 4, 2) := by decide +kernel
theorem dX10_swap_170 : decode cX10_swap 170 = .ok (.i2l, 1) := by decide +kernel
theorem dX10_swap_171 : decode cX10_swap 171 = .ok (.lreturn, 1) := by decide +kernel
theorem dX10_swap_172 : decode cX10_swap 172 = .ok (.lload_n 2, 1) := by decide +kernel
theorem dX10_swap_173 : decode cX10_swap 173 = .ok (.aload_n 0, 1) := by decide +kernel
theorem dX10_swap_174 : decode cX10_swap 174 = .ok (.getfield 37, 3) := by decide +kernel
theorem dX10_swap_177 : decode cX10_swap 177 = .ok (.getfield 179, 3) := by decide +kernel
theorem dX10_swap_180 : decode cX10_swap 180 = .ok (.iload_n 1, 1) := by decide +kernel
theorem dX10_swap_181 : decode cX10_swap 181 = .ok (.invokestatic 183, 3) := by decide +kernel
theorem dX10_swap_184 : decode cX10_swap 184 = .ok (.lreturn, 1) := by decide +kernel
theorem dX10_carry_0 : decode cX10_carry 0 = .ok (.iload_n 2, 1) := by decide +kernel
theorem dX10_carry_1 : decode cX10_carry 1 = .ok (.invokestatic 217, 3) := by decide +kernel
theorem dX10_carry_4 : decode cX10_carry 4 = .ok (.ifCond .ne 5, 3) := by decide +kernel
theorem dX10_carry_7 : decode cX10_carry 7 = .ok (.iconst (-1), 1) := by decide +kernel
theorem dX10_carry_8 : decode cX10_carry 8 = .ok (.ireturn, 1) := by decide +kernel
theorem dX10_carry_9 : decode cX10_carry 9 = .ok (.aload_n 0, 1) := by decide +kernel
theorem dX10_carry_10 : decode cX10_carry 10 = .ok (.getfield 51, 3) := by decide +kernel
theorem dX10_carry_13 : decode cX10_carry 13 = .ok (.aload_n 0, 1) := by decide +kernel
theorem dX10_carry_14 : decode cX10_carry 14 = .ok (.getfield 19, 3) := by decide +kernel
theorem dX10_carry_17 : decode cX10_carry 17 = .ok (.iload_n 1, 1) := by decide +kernel
theorem dX10_carry_18 : decode cX10_carry 18 = .ok (.invokevirtual 234, 3) := by decide +kernel
theorem dX10_carry_21 : decode cX10_carry 21 = .ok (.iload_n 2, 1) := by decide +kernel
theorem dX10_carry_22 : decode cX10_carry 22 = .ok (.lookupswitch 42 #[(0, 26), (1, 34)], 26) := by decide +kernel
theorem dX10_carry_48 : decode cX10_carry 48 = .ok (.aload_n 0, 1) := by decide +kernel
theorem dX10_carry_49 : decode cX10_carry 49 = .ok (.getfield 51, 3) := by decide +kernel
theorem dX10_carry_52 : decode cX10_carry 52 = .ok (.getfield 237, 3) := by decide +kernel
theorem dX10_carry_55 : decode cX10_carry 55 = .ok (.ireturn, 1) := by decide +kernel
theorem dX10_carry_56 : decode cX10_carry 56 = .ok (.aload_n 0, 1) := by decide +kernel
theorem dX10_carry_57 : decode cX10_carry 57 = .ok (.getfield 51, 3) := by decide +kernel
theorem dX10_carry_60 : decode cX10_carry 60 = .ok (.getfield 240, 3) := by decide +kernel
theorem dX10_carry_63 : decode cX10_carry 63 = .ok (.ireturn, 1) := by decide +kernel
theorem dX10_carry_64 : decode cX10_carry 64 = .ok (.aload_n 0, 1) := by decide +kernel
theorem dX10_carry_65 : decode cX10_carry 65 = .ok (.getfield 51, 3) := by decide +kernel
theorem dX10_carry_68 : decode cX10_carry 68 = .ok (.getfield 243, 3) := by decide +kernel
theorem dX10_carry_71 : decode cX10_carry 71 = .ok (.ireturn, 1) := by decide +kernel
theorem dX10_learn_0 : decode cX10_learn 0 = .ok (.aload_n 0, 1) := by decide +kernel
theorem dX10_learn_1 : decode cX10_learn 1 = .ok (.getfield 19, 3) := by decide +kernel
theorem dX10_learn_4 : decode cX10_learn 4 = .ok (.iload_n 1, 1) := by decide +kernel
theorem dX10_learn_5 : decode cX10_learn 5 = .ok (.iload_n 2, 1) := by decide +kernel
theorem dX10_learn_6 : decode cX10_learn 6 = .ok (.iload_n 3, 1) := by decide +kernel
theorem dX10_learn_7 : decode cX10_learn 7 = .ok (.invokevirtual 162, 3) := by decide +kernel
theorem dX10_learn_10 : decode cX10_learn 10 = .ok (.ifCond .eq 15, 3) := by decide +kernel
theorem dX10_learn_13 : decode cX10_learn 13 = .ok (.iload 4, 2) := by decide +kernel
theorem dX10_learn_15 : decode cX10_learn 15 = .ok (.ifCond .lt 10, 3) := by decide +kernel
theorem dX10_learn_18 : decode cX10_learn 18 = .ok (.iload 4, 2) := by decide +kernel
theorem dX10_learn_20 : decode cX10_learn 20 = .ok (.bipush 20, 2) := by decide +kernel
theorem dX10_learn_22 : decode cX10_learn 22 = .ok (.if_icmp .le 5, 3) := by decide +kernel
theorem dX10_learn_25 : decode cX10_learn 25 = .ok (.iconst (-1), 1) := by decide +kernel
theorem dX10_learn_26 : decode cX10_learn 26 = .ok (.ireturn, 1) := by decide +kernel
theorem dX10_learn_27 : decode cX10_learn 27 = .ok (.aload_n 0, 1) := by decide +kernel
theorem dX10_learn_28 : decode cX10_learn 28 = .ok (.getfield 58, 3) := by decide +kernel
theorem dX10_learn_31 : decode cX10_learn 31 = .ok (.iload_n 1, 1) := by decide +kernel
theorem dX10_learn_32 : decode cX10_learn 32 = .ok (.iload_n 2, 1) := by decide +kernel
theorem dX10_learn_33 : decode cX10_learn 33 = .ok (.iload_n 3, 1) := by decide +kernel
theorem dX10_learn_34 : decode cX10_learn 34 = .ok (.iload 4, 2) := by decide +kernel
theorem dX10_learn_36 : decode cX10_learn 36 = .ok (.invokevirtual 246, 3) := by decide +kernel
theorem dX10_learn_39 : decode cX10_learn 39 = .ok (.ifCond .eq 13, 3) := by decide +kernel
theorem dX10_learn_42 : decode cX10_learn 42 = .ok (.aload_n 0, 1) := by decide +kernel
theorem dX10_learn_43 : decode cX10_learn 43 = .ok (.getfield 58, 3) := by decide +kernel
theorem dX10_learn_46 : decode cX10_learn 46 = .ok (.getfield 116, 3) := by decide +kernel
theorem dX10_learn_49 : decode cX10_learn 49 = .ok (.goto 5, 3) := by decide +kernel
theorem dX10_learn_52 : decode cX10_learn 52 = .ok (.bipush (-3), 2) := by decide +kernel
theorem dX10_learn_54 : decode cX10_learn 54 = .ok (.ireturn, 1) := by decide +kernel
theorem dX10_forget_0 : decode cX10_forget 0 = .ok (.iload_n 1, 1) := by decide +kernel
theorem dX10_forget_1 : decode cX10_forget 1 = .ok (.ifCond .lt 14, 3) := by decide +kernel
theorem dX10_forget_4 : decode cX10_forget 4 = .ok (.iload_n 1, 1) := by decide +kernel
theorem dX10_forget_5 : decode cX10_forget 5 = .ok (.aload_n 0, 1) := by decide +kernel
theorem dX10_forget_6 : decode cX10_forget 6 = .ok (.getfield 58, 3) := by decide +kernel
theorem dX10_forget_9 : decode cX10_forget 9 = .ok (.getfield 116, 3) := by decide +kernel
theorem dX10_forget_12 : decode cX10_forget 12 = .ok (.if_icmp .le 5, 3) := by decide +kernel
theorem dX10_forget_15 : decode cX10_forget 15 = .ok (.iconst (-1), 1) := by decide +kernel
theorem dX10_forget_16 : decode cX10_forget 16 = .ok (.ireturn, 1) := by decide +kernel
theorem dX10_forget_17 : decode cX10_forget 17 = .ok (.aload_n 0, 1) := by decide +kernel
theorem dX10_forget_18 : decode cX10_forget 18 = .ok (.getfield 58, 3) := by decide +kernel
theorem dX10_forget_21 : decode cX10_forget 21 = .ok (.getfield 116, 3) := by decide +kernel
theorem dX10_forget_24 : decode cX10_forget 24 = .ok (.istore_n 2, 1) := by decide +kernel
theorem dX10_forget_25 : decode cX10_forget 25 = .ok (.aload_n 0, 1) := by decide +kernel
theorem dX10_forget_26 : decode cX10_forget 26 = .ok (.getfield 58, 3) := by decide +kernel
theorem dX10_forget_29 : decode cX10_forget 29 = .ok (.iload_n 1, 1) := by decide +kernel
theorem dX10_forget_30 : decode cX10_forget 30 = .ok (.putfield 116, 3) := by decide +kernel
theorem dX10_forget_33 : decode cX10_forget 33 = .ok (.iload_n 2, 1) := by decide +kernel
theorem dX10_forget_34 : decode cX10_forget 34 = .ok (.ireturn, 1) := by decide +kernel
theorem dX10_steps_0 : decode cX10_steps 0 = .ok (.aload_n 0, 1) := by decide +kernel
theorem dX10_steps_1 : decode cX10_steps 1 = .ok (.getfield 19, 3) := by decide +kernel
theorem dX10_steps_4 : decode cX10_steps 4 = .ok (.iload_n 1, 1) := by decide +kernel
theorem dX10_steps_5 : decode cX10_steps 5 = .ok (.invokevirtual 146, 3) := by decide +kernel
theorem dX10_steps_8 : decode cX10_steps 8 = .ok (.ifCond .eq 10, 3) := by decide +kernel
theorem dX10_steps_11 : decode cX10_steps 11 = .ok (.iload_n 2, 1) := by decide +kernel
theorem dX10_steps_12 : decode cX10_steps 12 = .ok (.invokestatic 217, 3) := by decide +kernel
theorem dX10_steps_15 : decode cX10_steps 15 = .ok (.ifCond .ne 5, 3) := by decide +kernel
theorem dX10_steps_18 : decode cX10_steps 18 = .ok (.iconst (-1), 1) := by decide +kernel
theorem dX10_steps_19 : decode cX10_steps 19 = .ok (.ireturn, 1) := by decide +kernel
theorem dX10_steps_20 : decode cX10_steps 20 = .ok (.aload_n 0, 1) := by decide +kernel
theorem dX10_steps_21 : decode cX10_steps 21 = .ok (.getfield 23, 3) := by decide +kernel
theorem dX10_steps_24 : decode cX10_steps 24 = .ok (.aload_n 0, 1) := by decide +kernel
theorem dX10_steps_25 : decode cX10_steps 25 = .ok (.getfield 19, 3) := by decide +kernel
theorem dX10_steps_28 : decode cX10_steps 28 = .ok (.invokevirtual 112, 3) := by decide +kernel
theorem dX10_steps_31 : decode cX10_steps 31 = .ok (.iconst 0, 1) := by decide +kernel
theorem dX10_steps_32 : decode cX10_steps 32 = .ok (.istore_n 3, 1) := by decide +kernel
theorem dX10_steps_33 : decode cX10_steps 33 = .ok (.bipush (-4), 2) := by decide +kernel
theorem dX10_steps_35 : decode cX10_steps 35 = .ok (.istore 4, 2) := by decide +kernel
theorem dX10_steps_37 : decode cX10_steps 37 = .ok (.bipush (-4), 2) := by decide +kernel
theorem dX10_steps_39 : decode cX10_steps 39 = .ok (.istore 5, 2) := by decide +kernel
theorem dX10_steps_41 : decode cX10_steps 41 = .ok (.iconst 0, 1) := by decide +kernel
theorem dX10_steps_42 : decode cX10_steps 42 = .ok (.istore 6, 2) := by decide +kernel
theorem dX10_steps_44 : decode cX10_steps 44 = .ok (.iload 6, 2) := by decide +kernel
theorem dX10_steps_46 : decode cX10_steps 46 = .ok (.bipush 9, 2) := by decide +kernel
theorem dX10_steps_48 : decode cX10_steps 48 = .ok (.if_icmp .gt 57, 3) := by decide +kernel
theorem dX10_steps_51 : decode cX10_steps 51 = .ok (.aload_n 0, 1) := by decide +kernel
theorem dX10_steps_52 : decode cX10_steps 52 = .ok (.getfield 23, 3) := by decide +kernel
theorem dX10_steps_55 : decode cX10_steps 55 = .ok (.getfield 152, 3) := by decide +kernel
theorem dX10_steps_58 : decode cX10_steps 58 = .ok (.iload_n 1, 1) := by decide +kernel
theorem dX10_steps_59 : decode cX10_steps 59 = .ok (.iload 6, 2) := by decide +kernel
theorem dX10_steps_61 : decode cX10_steps 61 = .ok (.iastore, 1) := by decide +kernel
theorem dX10_steps_62 : decode cX10_steps 62 = .ok (.aload_n 0, 1) := by decide +kernel
theorem dX10_steps_63 : decode cX10_steps 63 = .ok (.getfield 58, 3) := by decide +kernel
theorem dX10_steps_66 : decode cX10_steps 66 = .ok (.aload_n 0, 1) := by decide +kernel
theorem dX10_steps_67 : decode cX10_steps 67 = .ok (.getfield 23, 3) := by decide +kernel
theorem dX10_steps_70 : decode cX10_steps 70 = .ok (.invokevirtual 250, 3) := by decide +kernel
theorem dX10_steps_73 : decode cX10_steps 73 = .ok (.ifCond .eq 26, 3) := by decide +kernel
theorem dX10_steps_76 : decode cX10_steps 76 = .ok (.iinc 3 1, 3) := by decide +kernel
theorem dX10_steps_79 : decode cX10_steps 79 = .ok (.iload 4, 2) := by decide +kernel
theorem dX10_steps_81 : decode cX10_steps 81 = .ok (.bipush (-4), 2) := by decide +kernel
theorem dX10_steps_83 : decode cX10_steps 83 = .ok (.if_icmp .ne 8, 3) := by decide +kernel
theorem dX10_steps_86 : decode cX10_steps 86 = .ok (.iload 6, 2) := by decide +kernel
theorem dX10_steps_88 : decode cX10_steps 88 = .ok (.goto 5, 3) := by decide +kernel
theorem dX10_steps_91 : decode cX10_steps 91 = .ok (.iload 4, 2) := by decide +kernel
theorem dX10_steps_93 : decode cX10_steps 93 = .ok (.istore 4, 2) := by decide +kernel
theorem dX10_steps_95 : decode cX10_steps 95 = .ok (.iload 6, 2) := by decide +kernel
theorem dX10_steps_97 : decode cX10_steps 97 = .ok (.istore 5, 2) := by decide +kernel
theorem dX10_steps_99 : decode cX10_steps 99 = .ok (.iinc 6 1, 3) := by decide +kernel
theorem dX10_steps_102 : decode cX10_steps 102 = .ok (.goto (-58), 3) := by decide +kernel
theorem dX10_steps_105 : decode cX10_steps 105 = .ok (.iload_n 2, 1) := by decide +kernel
theorem dX10_steps_106 : decode cX10_steps 106 = .ok (.ifCond .ne 5, 3) := by decide +kernel
theorem dX10_steps_109 : decode cX10_steps 109 = .ok (.iload_n 3, 1) := by decide +kernel
theorem dX10_steps_110 : decode cX10_steps 110 = .ok (.ireturn, 1) := by decide +kernel
theorem dX10_steps_111 : decode cX10_steps 111 = .ok (.iload_n 2, 1) := by decide +kernel
theorem dX10_steps_112 : decode cX10_steps 112 = .ok (.iconst 1, 1) := by decide +kernel
theorem dX10_steps_113 : decode cX10_steps 113 = .ok (.if_icmp .ne 8, 3) := by decide +kernel
theorem dX10_steps_116 : decode cX10_steps 116 = .ok (.iload 4, 2) := by decide +kernel
theorem dX10_steps_118 : decode cX10_steps 118 = .ok (.goto 5, 3) := by decide +kernel
theorem dX10_steps_121 : decode cX10_steps 121 = .ok (.iload 5, 2) := by decide +kernel
theorem dX10_steps_123 : decode cX10_steps 123 = .ok (.ireturn, 1) := by decide +kernel
theorem dX10_mark_0 : decode cX10_mark 0 = .ok (.aload_n 0, 1) := by decide +kernel
theorem dX10_mark_1 : decode cX10_mark 1 = .ok (.getfield 19, 3) := by decide +kernel
theorem dX10_mark_4 : decode cX10_mark 4 = .ok (.iload_n 1, 1) := by decide +kernel
theorem dX10_mark_5 : decode cX10_mark 5 = .ok (.invokevirtual 132, 3) := by decide +kernel
theorem dX10_mark_8 : decode cX10_mark 8 = .ok (.ifCond .eq 10, 3) := by decide +kernel
theorem dX10_mark_11 : decode cX10_mark 11 = .ok (.iload_n 2, 1) := by decide +kernel
theorem dX10_mark_12 : decode cX10_mark 12 = .ok (.invokestatic 191, 3) := by decide +kernel
theorem dX10_mark_15 : decode cX10_mark 15 = .ok (.ifCond .ne 5, 3) := by decide +kernel
theorem dX10_mark_18 : decode cX10_mark 18 = .ok (.iconst (-1), 1) := by decide +kernel
theorem dX10_mark_19 : decode cX10_mark 19 = .ok (.ireturn, 1) := by decide +kernel
theorem dX10_mark_20 : decode cX10_mark 20 = .ok (.aload_n 0, 1) := by decide +kernel
theorem dX10_mark_21 : decode cX10_mark 21 = .ok (.getfield 65, 3) := by decide +kernel
theorem dX10_mark_24 : decode cX10_mark 24 = .ok (.iload_n 1, 1) := by decide +kernel
theorem dX10_mark_25 : decode cX10_mark 25 = .ok (.iload_n 2, 1) := by decide +kernel
theorem dX10_mark_26 : decode cX10_mark 26 = .ok (.invokevirtual 254, 3) := by decide +kernel
theorem dX10_mark_29 : decode cX10_mark 29 = .ok (.ifCond .eq 13, 3) := by decide +kernel
theorem dX10_mark_32 : decode cX10_mark 32 = .ok (.aload_n 0, 1) := by decide +kernel
theorem dX10_mark_33 : decode cX10_mark 33 = .ok (.getfield 65, 3) := by decide +kernel
theorem dX10_mark_36 : decode cX10_mark 36 = .ok (.getfield 119, 3) := by decide +kernel
theorem dX10_mark_39 : decode cX10_mark 39 = .ok (.goto 5, 3) := by decide +kernel
theorem dX10_mark_42 : decode cX10_mark 42 = .ok (.bipush (-3), 2) := by decide +kernel
theorem dX10_mark_44 : decode cX10_mark 44 = .ok (.ireturn, 1) := by decide +kernel
theorem dX10_wipe_0 : decode cX10_wipe 0 = .ok (.iload_n 1, 1) := by decide +kernel
theorem dX10_wipe_1 : decode cX10_wipe 1 = .ok (.ifCond .lt 14, 3) := by decide +kernel
theorem dX10_wipe_4 : decode cX10_wipe 4 = .ok (.iload_n 1, 1) := by decide +kernel
theorem dX10_wipe_5 : decode cX10_wipe 5 = .ok (.aload_n 0, 1) := by decide +kernel
theorem dX10_wipe_6 : decode cX10_wipe 6 = .ok (.getfield 65, 3) := by decide +kernel
theorem dX10_wipe_9 : decode cX10_wipe 9 = .ok (.getfield 119, 3) := by decide +kernel
theorem dX10_wipe_12 : decode cX10_wipe 12 = .ok (.if_icmp .le 5, 3) := by decide +kernel
theorem dX10_wipe_15 : decode cX10_wipe 15 = .ok (.iconst (-1), 1) := by decide +kernel
theorem dX10_wipe_16 : decode cX10_wipe 16 = .ok (.ireturn, 1) := by decide +kernel
theorem dX10_wipe_17 : decode cX10_wipe 17 = .ok (.aload_n 0, 1) := by decide +kernel
theorem dX10_wipe_18 : decode cX10_wipe 18 = .ok (.getfield 65, 3) := by decide +kernel
theorem dX10_wipe_21 : decode cX10_wipe 21 = .ok (.getfield 119, 3) := by decide +kernel
theorem dX10_wipe_24 : decode cX10_wipe 24 = .ok (.istore_n 2, 1) := by decide +kernel
theorem dX10_wipe_25 : decode cX10_wipe 25 = .ok (.aload_n 0, 1) := by decide +kernel
theorem dX10_wipe_26 : decode cX10_wipe 26 = .ok (.getfield 65, 3) := by decide +kernel
theorem dX10_wipe_29 : decode cX10_wipe 29 = .ok (.iload_n 1, 1) := by decide +kernel
theorem dX10_wipe_30 : decode cX10_wipe 30 = .ok (.putfield 119, 3) := by decide +kernel
theorem dX10_wipe_33 : decode cX10_wipe 33 = .ok (.iload_n 2, 1) := by decide +kernel
theorem dX10_wipe_34 : decode cX10_wipe 34 = .ok (.ireturn, 1) := by decide +kernel
theorem dX10_paths_0 : decode cX10_paths 0 = .ok (.aload_n 0, 1) := by decide +kernel
theorem dX10_paths_1 : decode cX10_paths 1 = .ok (.getfield 72, 3) := by decide +kernel
theorem dX10_paths_4 : decode cX10_paths 4 = .ok (.aload_n 0, 1) := by decide +kernel
theorem dX10_paths_5 : decode cX10_paths 5 = .ok (.getfield 19, 3) := by decide +kernel
theorem dX10_paths_8 : decode cX10_paths 8 = .ok (.aload_n 0, 1) := by decide +kernel
theorem dX10_paths_9 : decode cX10_paths 9 = .ok (.getfield 65, 3) := by decide +kernel
theorem dX10_paths_12 : decode cX10_paths 12 = .ok (.invokevirtual 257, 3) := by decide +kernel
theorem dX10_paths_15 : decode cX10_paths 15 = .ok (.aload_n 0, 1) := by decide +kernel
theorem dX10_paths_16 : decode cX10_paths 16 = .ok (.getfield 72, 3) := by decide +kernel
theorem dX10_paths_19 : decode cX10_paths 19 = .ok (.getfield 261, 3) := by decide +kernel
theorem dX10_paths_22 : decode cX10_paths 22 = .ok (.ireturn, 1) := by decide +kernel
theorem dX10_eye_0 : decode cX10_eye 0 = .ok (.iload_n 1, 1) := by decide +kernel
theorem dX10_eye_1 : decode cX10_eye 1 = .ok (.invokestatic 191, 3) := by decide +kernel
theorem dX10_eye_4 : decode cX10_eye 4 = .ok (.ifCond .ne 5, 3) := by decide +kernel
theorem dX10_eye_7 : decode cX10_eye 7 = .ok (.iconst (-1), 1) := by decide +kernel
theorem dX10_eye_8 : decode cX10_eye 8 = .ok (.ireturn, 1) := by decide +kernel
theorem dX10_eye_9 : decode cX10_eye 9 = .ok (.aload_n 0, 1) := by decide +kernel
theorem dX10_eye_10 : decode cX10_eye 10 = .ok (.getfield 72, 3) := by decide +kernel
theorem dX10_eye_13 : decode cX10_eye 13 = .ok (.aload_n 0, 1) := by decide +kernel
theorem dX10_eye_14 : decode cX10_eye 14 = .ok (.getfield 19, 3) := by decide +kernel
theorem dX10_eye_17 : decode cX10_eye 17 = .ok (.aload_n 0, 1) := by decide +kernel
theorem dX10_eye_18 : decode cX10_eye 18 = .ok (.getfield 65, 3) := by decide +kernel
theorem dX10_eye_21 : decode cX10_eye 21 = .ok (.invokevirtual 257, 3) := by decide +kernel
theorem dX10_eye_24 : decode cX10_eye 24 = .ok (.iconst 0, 1) := by decide +kernel
theorem dX10_eye_25 : decode cX10_eye 25 = .ok (.istore_n 2, 1) := by decide +kernel
theorem dX10_eye_26 : decode cX10_eye 26 = .ok (.iconst 0, 1) := by decide +kernel
theorem dX10_eye_27 : decode cX10_eye 27 = .ok (.istore_n 3, 1) := by decide +kernel
theorem dX10_eye_28 : decode cX10_eye 28 = .ok (.iload_n 3, 1) := by decide +kernel
theorem dX10_eye_29 : decode cX10_eye 29 = .ok (.aload_n 0, 1) := by decide +kernel
theorem dX10_eye_30 : decode cX10_eye 30 = .ok (.getfield 19, 3) := by decide +kernel
theorem dX10_eye_33 : decode cX10_eye 33 = .ok (.getfield 123, 3) := by decide +kernel
theorem dX10_eye_36 : decode cX10_eye 36 = .ok (.if_icmp .ge 27, 3) := by decide +kernel
theorem dX10_eye_39 : decode cX10_eye 39 = .ok (.aload_n 0, 1) := by decide +kernel
theorem dX10_eye_40 : decode cX10_eye 40 = .ok (.getfield 72, 3) := by decide +kernel
theorem dX10_eye_43 : decode cX10_eye 43 = .ok (.iload_n 3, 1) := by decide +kernel
theorem dX10_eye_44 : decode cX10_eye 44 = .ok (.iload_n 1, 1) := by decide +kernel
theorem dX10_eye_45 : decode cX10_eye 45 = .ok (.invokevirtual 264, 3) := by decide +kernel
theorem dX10_eye_48 : decode cX10_eye 48 = .ok (.ifCond .eq 9, 3) := by decide +kernel
theorem dX10_eye_51 : decode cX10_eye 51 = .ok (.iload_n 2, 1) := by decide +kernel
theorem dX10_eye_52 : decode cX10_eye 52 = .ok (.iconst 1, 1) := by decide +kernel
theorem dX10_eye_53 : decode cX10_eye 53 = .ok (.iload_n 3, 1) := by decide +kernel
theorem dX10_eye_54 : decode cX10_eye 54 = .ok (.ishl, 1) := by decide +kernel
theorem dX10_eye_55 : decode cX10_eye 55 = .ok (.ior, 1) := by decide +kernel
theorem dX10_eye_56 : decode cX10_eye 56 = .ok (.istore_n 2, 1) := by decide +kernel
theorem dX10_eye_57 : decode cX10_eye 57 = .ok (.iinc 3 1, 3) := by decide +kernel
theorem dX10_eye_60 : decode cX10_eye 60 = .ok (.goto (-32), 3) := by decide +kernel
theorem dX10_eye_63 : decode cX10_eye 63 = .ok (.iload_n 2, 1) := by decide +kernel
theorem dX10_eye_64 : decode cX10_eye 64 = .ok (.ireturn, 1) := by decide +kernel
theorem dX10_sure_0 : decode cX10_sure 0 = .ok (.iload_n 1, 1) := by decide +kernel
theorem dX10_sure_1 : decode cX10_sure 1 = .ok (.invokestatic 170, 3) := by decide +kernel
theorem dX10_sure_4 : decode cX10_sure 4 = .ok (.ifCond .ne 5, 3) := by decide +kernel
theorem dX10_sure_7 : decode cX10_sure 7 = .ok (.iconst (-1), 1) := by decide +kernel
theorem dX10_sure_8 : decode cX10_sure 8 = .ok (.ireturn, 1) := by decide +kernel
theorem dX10_sure_9 : decode cX10_sure 9 = .ok (.aload_n 0, 1) := by decide +kernel
theorem dX10_sure_10 : decode cX10_sure 10 = .ok (.getfield 72, 3) := by decide +kernel
theorem dX10_sure_13 : decode cX10_sure 13 = .ok (.aload_n 0, 1) := by decide +kernel
theorem dX10_sure_14 : decode cX10_sure 14 = .ok (.getfield 19, 3) := by decide +kernel
theorem dX10_sure_17 : decode cX10_sure 17 = .ok (.aload_n 0, 1) := by decide +kernel
theorem dX10_sure_18 : decode cX10_sure 18 = .ok (.getfield 65, 3) := by decide +kernel
theorem dX10_sure_21 : decode cX10_sure 21 = .ok (.invokevirtual 257, 3) := by decide +kernel
theorem dX10_sure_24 : decode cX10_sure 24 = .ok (.aload_n 0, 1) := by decide +kernel
theorem dX10_sure_25 : decode cX10_sure 25 = .ok (.getfield 72, 3) := by decide +kernel
theorem dX10_sure_28 : decode cX10_sure 28 = .ok (.getfield 261, 3) := by decide +kernel
theorem dX10_sure_31 : decode cX10_sure 31 = .ok (.ifCond .ne 6, 3) := by decide +kernel
theorem dX10_sure_34 : decode cX10_sure 34 = .ok (.bipush (-4), 2) := by decide +kernel
theorem dX10_sure_36 : decode cX10_sure 36 = .ok (.ireturn, 1) := by decide +kernel
theorem dX10_sure_37 : decode cX10_sure 37 = .ok (.iconst 0, 1) := by decide +kernel
theorem dX10_sure_38 : decode cX10_sure 38 = .ok (.istore_n 2, 1) := by decide +kernel
theorem dX10_sure_39 : decode cX10_sure 39 = .ok (.iconst 0, 1) := by decide +kernel
theorem dX10_sure_40 : decode cX10_sure 40 = .ok (.istore_n 3, 1) := by decide +kernel
theorem dX10_sure_41 : decode cX10_sure 41 = .ok (.iload_n 3, 1) := by decide +kernel
theorem dX10_sure_42 : decode cX10_sure 42 = .ok (.aload_n 0, 1) := by decide +kernel
theorem dX10_sure_43 : decode cX10_sure 43 = .ok (.getfield 19, 3) := by decide +kernel
theorem dX10_sure_46 : decode cX10_sure 46 = .ok (.getfield 123, 3) := by decide +kernel
theorem dX10_sure_49 : decode cX10_sure 49 = .ok (.if_icmp .ge 60, 3) := by decide +kernel
theorem dX10_sure_52 : decode cX10_sure 52 = .ok (.iload_n 1, 1) := by decide +kernel
theorem dX10_sure_53 : decode cX10_sure 53 = .ok (.ifCond .ne 18, 3) := by decide +kernel
theorem dX10_sure_56 : decode cX10_sure 56 = .ok (.aload_n 0, 1) := by decide +kernel
theorem dX10_sure_57 : decode cX10_sure 57 = .ok (.getfield 72, 3) := by decide +kernel
theorem dX10_sure_60 : decode cX10_sure 60 = .ok (.aload_n 0, 1) := by decide +kernel
theorem dX10_sure_61 : decode cX10_sure 61 = .ok (.getfield 19, 3) := by decide +kernel
theorem dX10_sure_64 : decode cX10_sure 64 = .ok (.iload_n 3, 1) := by decide +kernel
theorem dX10_sure_65 : decode cX10_sure 65 = .ok (.invokevirtual 267, 3) := by decide +kernel
theorem dX10_sure_68 : decode cX10_sure 68 = .ok (.goto 15, 3) := by decide +kernel
theorem dX10_sure_71 : decode cX10_sure 71 = .ok (.aload_n 0, 1) := by decide +kernel
theorem dX10_sure_72 : decode cX10_sure 72 = .ok (.getfield 72, 3) := by decide +kernel
theorem dX10_sure_75 : decode cX10_sure 75 = .ok (.aload_n 0, 1) := by decide +kernel
theorem dX10_sure_76 : decode cX10_sure 76 = .ok (.getfield 19, 3) := by decide +kernel
theorem dX10_sure_79 : decode cX10_sure 79 = .ok (.iload_n 3, 1) := by decide +kernel
theorem dX10_sure_80 : decode cX10_sure 80 = .ok (.invokevirtual 271, 3) := by decide +kernel
theorem dX10_sure_83 : decode cX10_sure 83 = .ok (.istore 4, 2) := by decide +kernel
theorem dX10_sure_85 : decode cX10_sure 85 = .ok (.iload 4, 2) := by decide +kernel
theorem dX10_sure_87 : decode cX10_sure 87 = .ok (.aload_n 0, 1) := by decide +kernel
theorem dX10_sure_88 : decode cX10_sure 88 = .ok (.getfield 72, 3) := by decide +kernel
theorem dX10_sure_91 : decode cX10_sure 91 = .ok (.getfield 261, 3) := by decide +kernel
theorem dX10_sure_94 : decode cX10_sure 94 = .ok (.if_icmp .ne 9, 3) := by decide +kernel
theorem dX10_sure_97 : decode cX10_sure 97 = .ok (.iload_n 2, 1) := by decide +kernel
theorem dX10_sure_98 : decode cX10_sure 98 = .ok (.iconst 1, 1) := by decide +kernel
theorem dX10_sure_99 : decode cX10_sure 99 = .ok (.iload_n 3, 1) := by decide +kernel
theorem dX10_sure_100 : decode cX10_sure 100 = .ok (.ishl, 1) := by decide +kernel
theorem dX10_sure_101 : decode cX10_sure 101 = .ok (.ior, 1) := by decide +kernel
theorem dX10_sure_102 : decode cX10_sure 102 = .ok (.istore_n 2, 1) := by decide +kernel
theorem dX10_sure_103 : decode cX10_sure 103 = .ok (.iinc 3 1, 3) := by decide +kernel
theorem dX10_sure_106 : decode cX10_sure 106 = .ok (.goto (-65), 3) := by decide +kernel
theorem dX10_sure_109 : decode cX10_sure 109 = .ok (.iload_n 2, 1) := by decide +kernel
theorem dX10_sure_110 : decode cX10_sure 110 = .ok (.ireturn, 1) := by decide +kernel
theorem dX10_keep_0 : decode cX10_keep 0 = .ok (.iload_n 1, 1) := by decide +kernel
theorem dX10_keep_1 : decode cX10_keep 1 = .ok (.invokestatic 274, 3) := by decide +kernel
theorem dX10_keep_4 : decode cX10_keep 4 = .ok (.ifCond .ne 5, 3) := by decide +kernel
theorem dX10_keep_7 : decode cX10_keep 7 = .ok (.iconst (-1), 1) := by decide +kernel
theorem dX10_keep_8 : decode cX10_keep 8 = .ok (.ireturn, 1) := by decide +kernel
theorem dX10_keep_9 : decode cX10_keep 9 = .ok (.aload_n 0, 1) := by decide +kernel
theorem dX10_keep_10 : decode cX10_keep 10 = .ok (.getfield 30, 3) := by decide +kernel
theorem dX10_keep_13 : decode cX10_keep 13 = .ok (.iload_n 1, 1) := by decide +kernel
theorem dX10_keep_14 : decode cX10_keep 14 = .ok (.baload, 1) := by decide +kernel
theorem dX10_keep_15 : decode cX10_keep 15 = .ok (.ifCond .eq 7, 3) := by decide +kernel
theorem dX10_keep_18 : decode cX10_keep 18 = .ok (.iconst 1, 1) := by decide +kernel
theorem dX10_keep_19 : decode cX10_keep 19 = .ok (.goto 4, 3) := by decide +kernel
theorem dX10_keep_22 : decode cX10_keep 22 = .ok (.iconst 0, 1) := by decide +kernel
theorem dX10_keep_23 : decode cX10_keep 23 = .ok (.istore_n 2, 1) := by decide +kernel
theorem dX10_keep_24 : decode cX10_keep 24 = .ok (.aload_n 0, 1) := by decide +kernel
theorem dX10_keep_25 : decode cX10_keep 25 = .ok (.getfield 26, 3) := by decide +kernel
theorem dX10_keep_28 : decode cX10_keep 28 = .ok (.iload_n 1, 1) := by decide +kernel
theorem dX10_keep_29 : decode cX10_keep 29 = .ok (.aaload, 1) := by decide +kernel
theorem dX10_keep_30 : decode cX10_keep 30 = .ok (.aload_n 0, 1) := by decide +kernel
theorem dX10_keep_31 : decode cX10_keep 31 = .ok (.getfield 19, 3) := by decide +kernel
theorem dX10_keep_34 : decode cX10_keep 34 = .ok (.invokevirtual 112, 3) := by decide +kernel
theorem dX10_keep_37 : decode cX10_keep 37 = .ok (.aload_n 0, 1) := by decide +kernel
theorem dX10_keep_38 : decode cX10_keep 38 = .ok (.getfield 30, 3) := by decide +kernel
theorem dX10_keep_41 : decode cX10_keep 41 = .ok (.iload_n 1, 1) := by decide +kernel
theorem dX10_keep_42 : decode cX10_keep 42 = .ok (.iconst 1, 1) := by decide +kernel
theorem dX10_keep_43 : decode cX10_keep 43 = .ok (.bastore, 1) := by decide +kernel
theorem dX10_keep_44 : decode cX10_keep 44 = .ok (.iload_n 2, 1) := by decide +kernel
theorem dX10_keep_45 : decode cX10_keep 45 = .ok (.ireturn, 1) := by decide +kernel
theorem dX10_back_0 : decode cX10_back 0 = .ok (.iload_n 1, 1) := by decide +kernel
theorem dX10_back_1 : decode cX10_back 1 = .ok (.invokestatic 274, 3) := by decide +kernel
theorem dX10_back_4 : decode cX10_back 4 = .ok (.ifCond .ne 5, 3) := by decide +kernel
theorem dX10_back_7 : decode cX10_back 7 = .ok (.iconst (-1), 1) := by decide +kernel
theorem dX10_back_8 : decode cX10_back 8 = .ok (.ireturn, 1) := by decide +kernel
theorem dX10_back_9 : decode cX10_back 9 = .ok (.aload_n 0, 1) := by decide +kernel
theorem dX10_back_10 : decode cX10_back 10 = .ok (.getfield 30, 3) := by decide +kernel
theorem dX10_back_13 : decode cX10_back 13 = .ok (.iload_n 1, 1) := by decide +kernel
theorem dX10_back_14 : decode cX10_back 14 = .ok (.baload, 1) := by decide +kernel
theorem dX10_back_15 : decode cX10_back 15 = .ok (.ifCond .ne 6, 3) := by decide +kernel
theorem dX10_back_18 : decode cX10_back 18 = .ok (.bipush (-2), 2) := by decide +kernel
theorem dX10_back_20 : decode cX10_back 20 = .ok (.ireturn, 1) := by decide +kernel
theorem dX10_back_21 : decode cX10_back 21 = .ok (.aload_n 0, 1) := by decide +kernel
theorem dX10_back_22 : decode cX10_back 22 = .ok (.getfield 19, 3) := by decide +kernel
theorem dX10_back_25 : decode cX10_back 25 = .ok (.aload_n 0, 1) := by decide +kernel
theorem dX10_back_26 : decode cX10_back 26 = .ok (.getfield 26, 3) := by decide +kernel
theorem dX10_back_29 : decode cX10_back 29 = .ok (.iload_n 1, 1) := by decide +kernel
theorem dX10_back_30 : decode cX10_back 30 = .ok (.aaload, 1) := by decide +kernel
theorem dX10_back_31 : decode cX10_back 31 = .ok (.invokevirtual 112, 3) := by decide +kernel
theorem dX10_back_34 : decode cX10_back 34 = .ok (.aload_n 0, 1) := by decide +kernel
theorem dX10_back_35 : decode cX10_back 35 = .ok (.getfield 19, 3) := by decide +kernel
theorem dX10_back_38 : decode cX10_back 38 = .ok (.getfield 123, 3) := by decide +kernel
theorem dX10_back_41 : decode cX10_back 41 = .ok (.ireturn, 1) := by decide +kernel
theorem dX10_sheet_0 : decode cX10_sheet 0 = .ok (.iload_n 1, 1) := by decide +kernel
theorem dX10_sheet_1 : decode cX10_sheet 1 = .ok (.invokestatic 277, 3) := by decide +kernel
theorem dX10_sheet_4 : decode cX10_sheet 4 = .ok (.ifCond .eq 16, 3) := by decide +kernel
theorem dX10_sheet_7 : decode cX10_sheet 7 = .ok (.iload_n 2, 1) := by decide +kernel
theorem dX10_sheet_8 : decode cX10_sheet 8 = .ok (.invokestatic 280, 3) := by decide +kernel
theorem dX10_sheet_11 : decode cX10_sheet 11 = .ok (.ifCond .eq 9, 3) := by decide +kernel
theorem dX10_sheet_14 : decode cX10_sheet 14 = .ok (.iload_n 3, 1) := by decide +kernel
theorem dX10_sheet_15 : decode cX10_sheet 15 = .ok (.bipush 40, 2) := by decide +kernel
theorem dX10_sheet_17 : decode cX10_sheet 17 = .ok (.if_icmp .le 5, 3) := by decide +kernel
theorem dX10_sheet_20 : decode cX10_sheet 20 = .ok (.iconst (-1), 1) := by decide +kernel
theorem dX10_sheet_21 : decode cX10_sheet 21 = .ok (.ireturn, 1) := by decide +kernel
theorem dX10_sheet_22 : decode cX10_sheet 22 = .ok (.iload_n 3, 1) := by decide +kernel
theorem dX10_sheet_23 : decode cX10_sheet 23 = .ok (.ifCond .ge 6, 3) := by decide +kernel
theorem dX10_sheet_26 : decode cX10_sheet 26 = .ok (.bipush (-14), 2) := by decide +kernel
theorem dX10_sheet_28 : decode cX10_sheet 28 = .ok (.ireturn, 1) := by decide +kernel
theorem dX10_sheet_29 : decode cX10_sheet 29 = .ok (.aload_n 0, 1) := by decide +kernel
theorem dX10_sheet_30 : decode cX10_sheet 30 = .ok (.getfield 79, 3) := by decide +kernel
theorem dX10_sheet_33 : decode cX10_sheet 33 = .ok (.iload_n 1, 1) := by decide +kernel
theorem dX10_sheet_34 : decode cX10_sheet 34 = .ok (.iload_n 2, 1) := by decide +kernel
theorem dX10_sheet_35 : decode cX10_sheet 35 = .ok (.iload_n 3, 1) := by decide +kernel
theorem dX10_sheet_36 : decode cX10_sheet 36 = .ok (.invokevirtual 283, 3) := by decide +kernel
theorem dX10_sheet_39 : decode cX10_sheet 39 = .ok (.iconst 1, 1) := by decide +kernel
theorem dX10_sheet_40 : decode cX10_sheet 40 = .ok (.ireturn, 1) := by decide +kernel
theorem dX10_lay_0 : decode cX10_lay 0 = .ok (.iload_n 1, 1) := by decide +kernel
theorem dX10_lay_1 : decode cX10_lay 1 = .ok (.invokestatic 277, 3) := by decide +kernel
theorem dX10_lay_4 : decode cX10_lay 4 = .ok (.ifCond .ne 5, 3) := by decide +kernel
theorem dX10_lay_7 : decode cX10_lay 7 = .ok (.iconst (-1), 1) := by decide +kernel
theorem dX10_lay_8 : decode cX10_lay 8 = .ok (.ireturn, 1) := by decide +kernel
theorem dX10_lay_9 : decode cX10_lay 9 = .ok (.aload_n 0, 1) := by decide +kernel
theorem dX10_lay_10 : decode cX10_lay 10 = .ok (.getfield 79, 3) := by decide +kernel
theorem dX10_lay_13 : decode cX10_lay 13 = .ok (.iload_n 1, 1) := by decide +kernel
theorem dX10_lay_14 : decode cX10_lay 14 = .ok (.iload_n 2, 1) := by decide +kernel
theorem dX10_lay_15 : decode cX10_lay 15 = .ok (.i2l, 1) := by decide +kernel
theorem dX10_lay_16 : decode cX10_lay 16 = .ok (.invokevirtual 287, 3) := by decide +kernel
theorem dX10_lay_19 : decode cX10_lay 19 = .ok (.istore 4, 2) := by decide +kernel
theorem dX10_lay_21 : decode cX10_lay 21 = .ok (.iload 4, 2) := by decide +kernel
theorem dX10_lay_23 : decode cX10_lay 23 = .ok (.ifCond .eq 9, 3) := by decide +kernel
theorem dX10_lay_26 : decode cX10_lay 26 = .ok (.bipush (-10), 2) := by decide +kernel
theorem dX10_lay_28 : decode cX10_lay 28 = .ok (.iload 4, 2) := by decide +kernel
theorem dX10_lay_30 : decode cX10_lay 30 = .ok (.isub, 1) := by decide +kernel
theorem dX10_lay_31 : decode cX10_lay 31 = .ok (.ireturn, 1) := by decide +kernel
theorem dX10_lay_32 : decode cX10_lay 32 = .ok (.aload_n 0, 1) := by decide +kernel
theorem dX10_lay_33 : decode cX10_lay 33 = .ok (.getfield 79, 3) := by decide +kernel
theorem dX10_lay_36 : decode cX10_lay 36 = .ok (.iload_n 1, 1) := by decide +kernel
theorem dX10_lay_37 : decode cX10_lay 37 = .ok (.iload_n 2, 1) := by decide +kernel
theorem dX10_lay_38 : decode cX10_lay 38 = .ok (.iload_n 3, 1) := by decide +kernel
theorem dX10_lay_39 : decode cX10_lay 39 = .ok (.invokevirtual 291, 3) := by decide +kernel
theorem dX10_lay_42 : decode cX10_lay 42 = .ok (.iconst 1, 1) := by decide +kernel
theorem dX10_lay_43 : decode cX10_lay 43 = .ok (.ireturn, 1) := by decide +kernel
theorem dX10_read_0 : decode cX10_read 0 = .ok (.iload_n 1, 1) := by decide +kernel
theorem dX10_read_1 : decode cX10_read 1 = .ok (.invokestatic 277, 3) := by decide +kernel
theorem dX10_read_4 : decode cX10_read 4 = .ok (.ifCond .eq 22, 3) := by decide +kernel
theorem dX10_read_7 : decode cX10_read 7 = .ok (.iload_n 2, 1) := by decide +kernel
theorem dX10_read_8 : decode cX10_read 8 = .ok (.invokestatic 280, 3) := by decide +kernel
theorem dX10_read_11 : decode cX10_read 11 = .ok (.ifCond .eq 15, 3) := by decide +kernel
theorem dX10_read_14 : decode cX10_read 14 = .ok (.iload 4, 2) := by decide +kernel
theorem dX10_read_16 : decode cX10_read 16 = .ok (.ifCond .lt 10, 3) := by decide +kernel
theorem dX10_read_19 : decode cX10_read 19 = .ok (.iload 4, 2) := by decide +kernel
theorem dX10_read_21 : decode cX10_read 21 = .ok (.bipush 20, 2) := by decide +kernel
theorem dX10_read_23 : decode cX10_read 23 = .ok (.if_icmp .le 5, 3) := by decide +kernel
theorem dX10_read_26 : decode cX10_read 26 = .ok (.iconst (-1), 1) := by decide +kernel
theorem dX10_read_27 : decode cX10_read 27 = .ok (.ireturn, 1) := by decide +kernel
theorem dX10_read_28 : decode cX10_read 28 = .ok (.aload_n 0, 1) := by decide +kernel
theorem dX10_read_29 : decode cX10_read 29 = .ok (.getfield 79, 3) := by decide +kernel
theorem dX10_read_32 : decode cX10_read 32 = .ok (.iload_n 1, 1) := by decide +kernel
theorem dX10_read_33 : decode cX10_read 33 = .ok (.iload_n 2, 1) := by decide +kernel
theorem dX10_read_34 : decode cX10_read 34 = .ok (.iload_n 3, 1) := by decide +kernel
theorem dX10_read_35 : decode cX10_read 35 = .ok (.iload 4, 2) := by decide +kernel
theorem dX10_read_37 : decode cX10_read 37 = .ok (.invokevirtual 294, 3) := by decide +kernel
theorem dX10_read_40 : decode cX10_read 40 = .ok (.iconst 0, 1) := by decide +kernel
theorem dX10_read_41 : decode cX10_read 41 = .ok (.istore 5, 2) := by decide +kernel
theorem dX10_read_43 : decode cX10_read 43 = .ok (.iload 5, 2) := by decide +kernel
theorem dX10_read_45 : decode cX10_read 45 = .ok (.aload_n 0, 1) := by decide +kernel
theorem dX10_read_46 : decode cX10_read 46 = .ok (.getfield 79, 3) := by decide +kernel
theorem dX10_read_49 : decode cX10_read 49 = .ok (.getfield 298, 3) := by decide +kernel
theorem dX10_read_52 : decode cX10_read 52 = .ok (.if_icmp .ge 55, 3) := by decide +kernel
theorem dX10_read_55 : decode cX10_read 55 = .ok (.aload_n 0, 1) := by decide +kernel
theorem dX10_read_56 : decode cX10_read 56 = .ok (.getfield 19, 3) := by decide +kernel
theorem dX10_read_59 : decode cX10_read 59 = .ok (.aload_n 0, 1) := by decide +kernel
theorem dX10_read_60 : decode cX10_read 60 = .ok (.getfield 79, 3) := by decide +kernel
theorem dX10_read_63 : decode cX10_read 63 = .ok (.getfield 301, 3) := by decide +kernel
theorem dX10_read_66 : decode cX10_read 66 = .ok (.iload 5, 2) := by decide +kernel
theorem dX10_read_68 : decode cX10_read 68 = .ok (.iaload, 1) := by decide +kernel
theorem dX10_read_69 : decode cX10_read 69 = .ok (.invokevirtual 132, 3) := by decide +kernel
theorem dX10_read_72 : decode cX10_read 72 = .ok (.ifCond .eq 23, 3) := by decide +kernel
theorem dX10_read_75 : decode cX10_read 75 = .ok (.aload_n 0, 1) := by decide +kernel
theorem dX10_read_76 : decode cX10_read 76 = .ok (.getfield 19, 3) := by decide +kernel
theorem dX10_read_79 : decode cX10_read 79 = .ok (.aload_n 0, 1) := by decide +kernel
theorem dX10_read_80 : decode cX10_read 80 = .ok (.getfield 79, 3) := by decide +kernel
theorem dX10_read_83 : decode cX10_read 83 = .ok (.getfield 304, 3) := by decide +kernel
theorem dX10_read_86 : decode cX10_read 86 = .ok (.iload 5, 2) := by decide +kernel
theorem dX10_read_88 : decode cX10_read 88 = .ok (.iaload, 1) := by decide +kernel
theorem dX10_read_89 : decode cX10_read 89 = .ok (.invokevirtual 146, 3) := by decide +kernel
theorem dX10_read_92 : decode cX10_read 92 = .ok (.ifCond .ne 9, 3) := by decide +kernel
theorem dX10_read_95 : decode cX10_read 95 = .ok (.bipush (-20), 2) := by decide +kernel
theorem dX10_read_97 : decode cX10_read 97 = .ok (.iload 5, 2) := by decide +kernel
theorem dX10_read_99 : decode cX10_read 99 = .ok (.isub, 1) := by decide +kernel
theorem dX10_read_100 : decode cX10_read 100 = .ok (.ireturn, 1) := by decide +kernel
theorem dX10_read_101 : decode cX10_read 101 = .ok (.iinc 5 1, 3) := by decide +kernel
theorem dX10_read_104 : decode cX10_read 104 = .ok (.goto (-61), 3) := by decide +kernel
theorem dX10_read_107 : decode cX10_read 107 = .ok (.iconst 0, 1) := by decide +kernel
theorem dX10_read_108 : decode cX10_read 108 = .ok (.istore 5, 2) := by decide +kernel
theorem dX10_read_110 : decode cX10_read 110 = .ok (.iload 5, 2) := by decide +kernel
theorem dX10_read_112 : decode cX10_read 112 = .ok (.aload_n 0, 1) := by decide +kernel
theorem dX10_read_113 : decode cX10_read 113 = .ok (.getfield 79, 3) := by decide +kernel
theorem dX10_read_116 : decode cX10_read 116 = .ok (.getfield 298, 3) := by decide +kernel
theorem dX10_read_119 : decode cX10_read 119 = .ok (.if_icmp .ge 37, 3) := by decide +kernel
theorem dX10_read_122 : decode cX10_read 122 = .ok (.aload_n 0, 1) := by decide +kernel
theorem dX10_read_123 : decode cX10_read 123 = .ok (.getfield 19, 3) := by decide +kernel
theorem dX10_read_126 : decode cX10_read 126 = .ok (.getfield 143, 3) := by decide +kernel
theorem dX10_read_129 : decode cX10_read 129 = .ok (.aload_n 0, 1) := by decide +kernel
theorem dX10_read_130 : decode cX10_read 130 = .ok (.getfield 79, 3) := by decide +kernel
theorem dX10_read_133 : decode cX10_read 133 = .ok (.getfield 301, 3) := by decide +kernel
theorem dX10_read_136 : decode cX10_read 136 = .ok (.iload 5, 2) := by decide +kernel
theorem dX10_read_138 : decode cX10_read 138 = .ok (.iaload, 1) := by decide +kernel
theorem dX10_read_139 : decode cX10_read 139 = .ok (.aload_n 0, 1) := by decide +kernel
theorem dX10_read_140 : decode cX10_read 140 = .ok (.getfield 79, 3) := by decide +kernel
theorem dX10_read_143 : decode cX10_read 143 = .ok (.getfield 304, 3) := by decide +kernel
theorem dX10_read_146 : decode cX10_read 146 = .ok (.iload 5, 2) := by decide +kernel
theorem dX10_read_148 : decode cX10_read 148 = .ok (.iaload, 1) := by decide +kernel
theorem dX10_read_149 : decode cX10_read 149 = .ok (.iastore, 1) := by decide +kernel
theorem dX10_read_150 : decode cX10_read 150 = .ok (.iinc 5 1, 3) := by decide +kernel
theorem dX10_read_153 : decode cX10_read 153 = .ok (.goto (-43), 3) := by decide +kernel
theorem dX10_read_156 : decode cX10_read 156 = .ok (.aload_n 0, 1) := by decide +kernel
theorem dX10_read_157 : decode cX10_read 157 = .ok (.aload_n 0, 1) := by decide +kernel
theorem dX10_read_158 : decode cX10_read 158 = .ok (.getfield 79, 3) := by decide +kernel
theorem dX10_read_161 : decode cX10_read 161 = .ok (.getfield 307, 3) := by decide +kernel
theorem dX10_read_164 : decode cX10_read 164 = .ok (.putfield 308, 3) := by decide +kernel
theorem dX10_read_167 : decode cX10_read 167 = .ok (.aload_n 0, 1) := by decide +kernel
theorem dX10_read_168 : decode cX10_read 168 = .ok (.getfield 79, 3) := by decide +kernel
theorem dX10_read_171 : decode cX10_read 171 = .ok (.getfield 298, 3) := by decide +kernel
theorem dX10_read_174 : decode cX10_read 174 = .ok (.ireturn, 1) := by decide +kernel
theorem dX10_torn_0 : decode cX10_torn 0 = .ok (.aload_n 0, 1) := by decide +kernel
theorem dX10_torn_1 : decode cX10_torn 1 = .ok (.getfield 308, 3) := by decide +kernel
theorem dX10_torn_4 : decode cX10_torn 4 = .ok (.ireturn, 1) := by decide +kernel
theorem dX10_count_0 : decode cX10_count 0 = .ok (.iload_n 1, 1) := by decide +kernel
theorem dX10_count_1 : decode cX10_count 1 = .ok (.tableswitch 113 0 5 #[39, 47, 55, 85, 96, 105], 39) := by decide +kernel
theorem dX10_count_40 : decode cX10_count 40 = .ok (.aload_n 0, 1) := by decide +kernel
theorem dX10_count_41 : decode cX10_count 41 = .ok (.getfield 58, 3) := by decide +kernel
theorem dX10_count_44 : decode cX10_count 44 = .ok (.getfield 116, 3) := by decide +kernel
theorem dX10_count_47 : decode cX10_count 47 = .ok (.ireturn, 1) := by decide +kernel
theorem dX10_count_48 : decode cX10_count 48 = .ok (.aload_n 0, 1) := by decide +kernel
theorem dX10_count_49 : decode cX10_count 49 = .ok (.getfield 65, 3) := by decide +kernel
theorem dX10_count_52 : decode cX10_count 52 = .ok (.getfield 119, 3) := by decide +kernel
theorem dX10_count_55 : decode cX10_count 55 = .ok (.ireturn, 1) := by decide +kernel
theorem dX10_count_56 : decode cX10_count 56 = .ok (.aload_n 0, 1) := by decide +kernel
theorem dX10_count_57 : decode cX10_count 57 = .ok (.getfield 30, 3) := by decide +kernel
theorem dX10_count_60 : decode cX10_count 60 = .ok (.iconst 0, 1) := by decide +kernel
theorem dX10_count_61 : decode cX10_count 61 = .ok (.baload, 1) := by decide +kernel
theorem dX10_count_62 : decode cX10_count 62 = .ok (.ifCond .eq 7, 3) := by decide +kernel
theorem dX10_count_65 : decode cX10_count 65 = .ok (.iconst 1, 1) := by decide +kernel
theorem dX10_count_66 : decode cX10_count 66 = .ok (.goto 4, 3) := by decide +kernel
theorem dX10_count_69 : decode cX10_count 69 = .ok (.iconst 0, 1) := by decide +kernel
theorem dX10_count_70 : decode cX10_count 70 = .ok (.aload_n 0, 1) := by decide +kernel
theorem dX10_count_71 : decode cX10_count 71 = .ok (.getfield 30, 3) := by decide +kernel
theorem dX10_count_74 : decode cX10_count 74 = .ok (.iconst 1, 1) := by decide +kernel
theorem dX10_count_75 : decode cX10_count 75 = .ok (.baload, 1) := by decide +kernel
theorem dX10_count_76 : decode cX10_count 76 = .ok (.ifCond .eq 7, 3) := by decide +kernel
theorem dX10_count_79 : decode cX10_count 79 = .ok (.iconst 1, 1) := by decide +kernel
theorem dX10_count_80 : decode cX10_count 80 = .ok (.goto 4, 3) := by decide +kernel
theorem dX10_count_83 : decode cX10_count 83 = .ok (.iconst 0, 1) := by decide +kernel
theorem dX10_count_84 : decode cX10_count 84 = .ok (.iadd, 1) := by decide +kernel
theorem dX10_count_85 : decode cX10_count 85 = .ok (.ireturn, 1) := by decide +kernel
theorem dX10_count_86 : decode cX10_count 86 = .ok (.aload_n 0, 1) := by decide +kernel
theorem dX10_count_87 : decode cX10_count 87 = .ok (.getfield 10, 3) := by decide +kernel
theorem dX10_count_90 : decode cX10_count 90 = .ok (.getfield 83, 3) := by decide +kernel
theorem dX10_count_93 : decode cX10_count 93 = .ok (.getfield 93, 3) := by decide +kernel
theorem dX10_count_96 : decode cX10_count 96 = .ok (.ireturn, 1) := by decide +kernel
theorem dX10_count_97 : decode cX10_count 97 = .ok (.aload_n 0, 1) := by decide +kernel
theorem dX10_count_98 : decode cX10_count 98 = .ok (.getfield 79, 3) := by decide +kernel
theorem dX10_count_101 : decode cX10_count 101 = .ok (.iconst 0, 1) := by decide +kernel
theorem dX10_count_102 : decode cX10_count 102 = .ok (.invokevirtual 311, 3) := by decide +kernel
theorem dX10_count_105 : decode cX10_count 105 = .ok (.ireturn, 1) := by decide +kernel
theorem dX10_count_106 : decode cX10_count 106 = .ok (.aload_n 0, 1) := by decide +kernel
theorem dX10_count_107 : decode cX10_count 107 = .ok (.getfield 19, 3) := by decide +kernel
theorem dX10_count_110 : decode cX10_count 110 = .ok (.invokevirtual 314, 3) := by decide +kernel
theorem dX10_count_113 : decode cX10_count 113 = .ok (.ireturn, 1) := by decide +kernel
theorem dX10_count_114 : decode cX10_count 114 = .ok (.iconst (-1), 1) := by decide +kernel
theorem dX10_count_115 : decode cX10_count 115 = .ok (.ireturn, 1) := by decide +kernel
theorem dX10_isFractionPart_0 : decode cX10_isFractionPart 0 = .ok (.iload_n 0, 1) := by decide +kernel
theorem dX10_isFractionPart_1 : decode cX10_isFractionPart 1 = .ok (.ifCond .eq 8, 3) := by decide +kernel
theorem dX10_isFractionPart_4 : decode cX10_isFractionPart 4 = .ok (.iload_n 0, 1) := by decide +kernel
theorem dX10_isFractionPart_5 : decode cX10_isFractionPart 5 = .ok (.iconst 1, 1) := by decide +kernel
theorem dX10_isFractionPart_6 : decode cX10_isFractionPart 6 = .ok (.if_icmp .ne 7, 3) := by decide +kernel
theorem dX10_isFractionPart_9 : decode cX10_isFractionPart 9 = .ok (.iconst 1, 1) := by decide +kernel
theorem dX10_isFractionPart_10 : decode cX10_isFractionPart 10 = .ok (.goto 4, 3) := by decide +kernel
theorem dX10_isFractionPart_13 : decode cX10_isFractionPart 13 = .ok (.iconst 0, 1) := by decide +kernel
theorem dX10_isFractionPart_14 : decode cX10_isFractionPart 14 = .ok (.ireturn, 1) := by decide +kernel
theorem dX10_isAnswerPart_0 : decode cX10_isAnswerPart 0 = .ok (.iload_n 0, 1) := by decide +kernel
theorem dX10_isAnswerPart_1 : decode cX10_isAnswerPart 1 = .ok (.ifCond .lt 12, 3) := by decide +kernel
theorem dX10_isAnswerPart_4 : decode cX10_isAnswerPart 4 = .ok (.iload_n 0, 1) := by decide +kernel
theorem dX10_isAnswerPart_5 : decode cX10_isAnswerPart 5 = .ok (.iconst 2, 1) := by decide +kernel
theorem dX10_isAnswerPart_6 : decode cX10_isAnswerPart 6 = .ok (.if_icmp .gt 7, 3) := by decide +kernel
theorem dX10_isAnswerPart_9 : decode cX10_isAnswerPart 9 = .ok (.iconst 1, 1) := by decide +kernel
theorem dX10_isAnswerPart_10 : decode cX10_isAnswerPart 10 = .ok (.goto 4, 3) := by decide +kernel
theorem dX10_isAnswerPart_13 : decode cX10_isAnswerPart 13 = .ok (.iconst 0, 1) := by decide +kernel
theorem dX10_isAnswerPart_14 : decode cX10_isAnswerPart 14 = .ok (.ireturn, 1) := by decide +kernel
theorem dX10_isDepth_0 : decode cX10_isDepth 0 = .ok (.iload_n 0, 1) := by decide +kernel
theorem dX10_isDepth_1 : decode cX10_isDepth 1 = .ok (.ifCond .lt 13, 3) := by decide +kernel
theorem dX10_isDepth_4 : decode cX10_isDepth 4 = .ok (.iload_n 0, 1) := by decide +kernel
theorem dX10_isDepth_5 : decode cX10_isDepth 5 = .ok (.bipush 9, 2) := by decide +kernel
theorem dX10_isDepth_7 : decode cX10_isDepth 7 = .ok (.if_icmp .gt 7, 3) := by decide +kernel
theorem dX10_isDepth_10 : decode cX10_isDepth 10 = .ok (.iconst 1, 1) := by decide +kernel
theorem dX10_isDepth_11 : decode cX10_isDepth 11 = .ok (.goto 4, 3) := by decide +kernel
theorem dX10_isDepth_14 : decode cX10_isDepth 14 = .ok (.iconst 0, 1) := by decide +kernel
theorem dX10_isDepth_15 : decode cX10_isDepth 15 = .ok (.ireturn, 1) := by decide +kernel
theorem dX10_isImage_0 : decode cX10_isImage 0 = .ok (.iload_n 0, 1) := by decide +kernel
theorem dX10_isImage_1 : decode cX10_isImage 1 = .ok (.ifCond .lt 12, 3) := by decide +kernel
theorem dX10_isImage_4 : decode cX10_isImage 4 = .ok (.iload_n 0, 1) := by decide +kernel
theorem dX10_isImage_5 : decode cX10_isImage 5 = .ok (.iconst 2, 1) := by decide +kernel
theorem dX10_isImage_6 : decode cX10_isImage 6 = .ok (.if_icmp .ge 7, 3) := by decide +kernel
theorem dX10_isImage_9 : decode cX10_isImage 9 = .ok (.iconst 1, 1) := by decide +kernel
theorem dX10_isImage_10 : decode cX10_isImage 10 = .ok (.goto 4, 3) := by decide +kernel
theorem dX10_isImage_13 : decode cX10_isImage 13 = .ok (.iconst 0, 1) := by decide +kernel
theorem dX10_isImage_14 : decode cX10_isImage 14 = .ok (.ireturn, 1) := by decide +kernel
theorem dX10_fraction_0 : decode cX10_fraction 0 = .ok (.lload_n 0, 1) := by decide +kernel
theorem dX10_fraction_1 : decode cX10_fraction 1 = .ok (.lload_n 2, 1) := by decide +kernel
theorem dX10_fraction_2 : decode cX10_fraction 2 = .ok (.invokestatic 318, 3) := by decide +kernel
theorem dX10_fraction_5 : decode cX10_fraction 5 = .ok (.lstore 5, 2) := by decide +kernel
theorem dX10_fraction_7 : decode cX10_fraction 7 = .ok (.lload 5, 2) := by decide +kernel
theorem dX10_fraction_9 : decode cX10_fraction 9 = .ok (.lconst 0, 1) := by decide +kernel
theorem dX10_fraction_10 : decode cX10_fraction 10 = .ok (.lcmp, 1) := by decide +kernel
theorem dX10_fraction_11 : decode cX10_fraction 11 = .ok (.ifCond .ne 7, 3) := by decide +kernel
theorem dX10_fraction_14 : decode cX10_fraction 14 = .ok (.ldc2_w 173, 3) := by decide +kernel
theorem dX10_fraction_17 : decode cX10_fraction 17 = .ok (.lreturn, 1) := by decide +kernel
theorem dX10_fraction_18 : decode cX10_fraction 18 = .ok (.iload 4, 2) := by decide +kernel
theorem dX10_fraction_20 : decode cX10_fraction 20 = .ok (.ifCond .ne 7, 3) := by decide +kernel
theorem dX10_fraction_23 : decode cX10_fraction 23 = .ok (.lload_n 0, 1) := by decide +kernel
theorem dX10_fraction_24 : decode cX10_fraction 24 = .ok (.goto 4, 3) := by decide +kernel
theorem dX10_fraction_27 : decode cX10_fraction 27 = .ok (.lload_n 2, 1) := by decide +kernel
theorem dX10_fraction_28 : decode cX10_fraction 28 = .ok (.lload 5, 2) := by decide +kernel
theorem dX10_fraction_30 : decode cX10_fraction 30 = .ok (.ldiv, 1) := by decide +kernel
theorem dX10_fraction_31 : decode cX10_fraction 31 = .ok (.lreturn, 1) := by decide +kernel
theorem dX10_commonDivisor_0 : decode cX10_commonDivisor 0 = .ok (.lload_n 0, 1) := by decide +kernel
theorem dX10_commonDivisor_1 : decode cX10_commonDivisor 1 = .ok (.lstore 4, 2) := by decide +kernel
theorem dX10_commonDivisor_3 : decode cX10_commonDivisor 3 = .ok (.lload_n 2, 1) := by decide +kernel
theorem dX10_commonDivisor_4 : decode cX10_commonDivisor 4 = .ok (.lstore 6, 2) := by decide +kernel
theorem dX10_commonDivisor_6 : decode cX10_commonDivisor 6 = .ok (.iconst 0, 1) := by decide +kernel
theorem dX10_commonDivisor_7 : decode cX10_commonDivisor 7 = .ok (.istore 8, 2) := by decide +kernel
theorem dX10_commonDivisor_9 : decode cX10_commonDivisor 9 = .ok (.iload 8, 2) := by decide +kernel
theorem dX10_commonDivisor_11 : decode cX10_commonDivisor 11 = .ok (.sipush 200, 3) := by decide +kernel
theorem dX10_commonDivisor_14 : decode cX10_commonDivisor 14 = .ok (.if_icmp .ge 31, 3) := by decide +kernel
theorem dX10_commonDivisor_17 : decode cX10_commonDivisor 17 = .ok (.lload 6, 2) := by decide +kernel
theorem dX10_commonDivisor_19 : decode cX10_commonDivisor 19 = .ok (.lconst 0, 1) := by decide +kernel
theorem dX10_commonDivisor_20 : decode cX10_commonDivisor 20 = .ok (.lcmp, 1) := by decide +kernel
theorem dX10_commonDivisor_21 : decode cX10_commonDivisor 21 = .ok (.ifCond .eq 24, 3) := by decide +kernel
theorem dX10_commonDivisor_24 : decode cX10_commonDivisor 24 = .ok (.lload 4, 2) := by decide +kernel
theorem dX10_commonDivisor_26 : decode cX10_commonDivisor 26 = .ok (.lload 6, 2) := by decide +kernel
theorem dX10_commonDivisor_28 : decode cX10_commonDivisor 28 = .ok (.lrem, 1) := by decide +kernel
theorem dX10_commonDivisor_29 : decode cX10_commonDivisor 29 = .ok (.lstore 9, 2) := by decide +kernel
theorem dX10_commonDivisor_31 : decode cX10_commonDivisor 31 = .ok (.lload 6, 2) := by decide +kernel
theorem dX10_commonDivisor_33 : decode cX10_commonDivisor 33 = .ok (.lstore 4, 2) := by decide +kernel
theorem dX10_commonDivisor_35 : decode cX10_commonDivisor 35 = .ok (.lload 9, 2) := by decide +kernel
theorem dX10_commonDivisor_37 : decode cX10_commonDivisor 37 = .ok (.lstore 6, 2) := by decide +kernel
theorem dX10_commonDivisor_39 : decode cX10_commonDivisor 39 = .ok (.iinc 8 1, 3) := by decide +kernel
theorem dX10_commonDivisor_42 : decode cX10_commonDivisor 42 = .ok (.goto (-33), 3) := by decide +kernel
theorem dX10_commonDivisor_45 : decode cX10_commonDivisor 45 = .ok (.lload 4, 2) := by decide +kernel
theorem dX10_commonDivisor_47 : decode cX10_commonDivisor 47 = .ok (.lreturn, 1) := by decide +kernel
