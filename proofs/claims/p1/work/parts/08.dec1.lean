theorem dX11_init_0 : decode cX11_init 0 = .ok (.aload_n 0, 1) := by decide +kernel
theorem dX11_init_1 : decode cX11_init 1 = .ok (.invokespecial 1, 3) := by decide +kernel
theorem dX11_init_4 : decode cX11_init 4 = .ok (.aload_n 0, 1) := by decide +kernel
theorem dX11_init_5 : decode cX11_init 5 = .ok (.bipush 6, 2) := by decide +kernel
theorem dX11_init_7 : decode cX11_init 7 = .ok (.anewarray 9, 3) := by decide +kernel
theorem dX11_init_10 : decode cX11_init 10 = .ok (.putfield 11, 3) := by decide +kernel
theorem dX11_init_13 : decode cX11_init 13 = .ok (.aload_n 0, 1) := by decide +kernel
theorem dX11_init_14 : decode cX11_init 14 = .ok (.new 9, 3) := by decide +kernel
theorem dX11_init_17 : decode cX11_init 17 = .ok (.dup, 1) := by decide +kernel
theorem dX11_init_18 : decode cX11_init 18 = .ok (.invokespecial 15, 3) := by decide +kernel
theorem dX11_init_21 : decode cX11_init 21 = .ok (.putfield 16, 3) := by decide +kernel
theorem dX11_init_24 : decode cX11_init 24 = .ok (.aload_n 0, 1) := by decide +kernel
theorem dX11_init_25 : decode cX11_init 25 = .ok (.new 9, 3) := by decide +kernel
theorem dX11_init_28 : decode cX11_init 28 = .ok (.dup, 1) := by decide +kernel
theorem dX11_init_29 : decode cX11_init 29 = .ok (.invokespecial 15, 3) := by decide +kernel
theorem dX11_init_32 : decode cX11_init 32 = .ok (.putfield 20, 3) := by decide +kernel
theorem dX11_init_35 : decode cX11_init 35 = .ok (.aload_n 0, 1) := by decide +kernel
theorem dX11_init_36 : decode cX11_init 36 = .ok (.new 9, 3) := by decide +kernel
theorem dX11_init_39 : decode cX11_init 39 = .ok (.dup, 1) := by decide +kernel
theorem dX11_init_40 : decode cX11_init 40 = .ok (.invokespecial 15, 3) := by decide +kernel
theorem dX11_init_43 : decode cX11_init 43 = .ok (.putfield 23, 3) := by decide +kernel
theorem dX11_init_46 : decode cX11_init 46 = .ok (.aload_n 0, 1) := by decide +kernel
theorem dX11_init_47 : decode cX11_init 47 = .ok (.bipush 16, 2) := by decide +kernel
theorem dX11_init_49 : decode cX11_init 49 = .ok (.anewarray 26, 3) := by decide +kernel
theorem dX11_init_52 : decode cX11_init 52 = .ok (.putfield 28, 3) := by decide +kernel
theorem dX11_init_55 : decode cX11_init 55 = .ok (.aload_n 0, 1) := by decide +kernel
theorem dX11_init_56 : decode cX11_init 56 = .ok (.new 32, 3) := by decide +kernel
theorem dX11_init_59 : decode cX11_init 59 = .ok (.dup, 1) := by decide +kernel
theorem dX11_init_60 : decode cX11_init 60 = .ok (.invokespecial 34, 3) := by decide +kernel
theorem dX11_init_63 : decode cX11_init 63 = .ok (.putfield 35, 3) := by decide +kernel
theorem dX11_init_66 : decode cX11_init 66 = .ok (.aload_n 0, 1) := by decide +kernel
theorem dX11_init_67 : decode cX11_init 67 = .ok (.new 39, 3) := by decide +kernel
theorem dX11_init_70 : decode cX11_init 70 = .ok (.dup, 1) := by decide +kernel
theorem dX11_init_71 : decode cX11_init 71 = .ok (.aload_n 0, 1) := by decide +kernel
theorem dX11_init_72 : decode cX11_init 72 = .ok (.getfield 35, 3) := by decide +kernel
theorem dX11_init_75 : decode cX11_init 75 = .ok (.invokespecial 41, 3) := by decide +kernel
theorem dX11_init_78 : decode cX11_init 78 = .ok (.putfield 44, 3) := by decide +kernel
theorem dX11_init_81 : decode cX11_init 81 = .ok (.aload_n 0, 1) := by decide +kernel
theorem dX11_init_82 : decode cX11_init 82 = .ok (.new 48, 3) := by decide +kernel
theorem dX11_init_85 : decode cX11_init 85 = .ok (.dup, 1) := by decide +kernel
theorem dX11_init_86 : decode cX11_init 86 = .ok (.invokespecial 50, 3) := by decide +kernel
theorem dX11_init_89 : decode cX11_init 89 = .ok (.putfield 51, 3) := by decide +kernel
theorem dX11_init_92 : decode cX11_init 92 = .ok (.aload_n 0, 1) := by decide +kernel
theorem dX11_init_93 : decode cX11_init 93 = .ok (.bipush 36, 2) := by decide +kernel
theorem dX11_init_95 : decode cX11_init 95 = .ok (.newarray .int, 2) := by decide +kernel
theorem dX11_init_97 : decode cX11_init 97 = .ok (.putfield 55, 3) := by decide +kernel
theorem dX11_init_100 : decode cX11_init 100 = .ok (.aload_n 0, 1) := by decide +kernel
theorem dX11_init_101 : decode cX11_init 101 = .ok (.sipush 200, 3) := by decide +kernel
theorem dX11_init_104 : decode cX11_init 104 = .ok (.anewarray 59, 3) := by decide +kernel
theorem dX11_init_107 : decode cX11_init 107 = .ok (.putfield 61, 3) := by decide +kernel
theorem dX11_init_110 : decode cX11_init 110 = .ok (.aload_n 0, 1) := by decide +kernel
theorem dX11_init_111 : decode cX11_init 111 = .ok (.sipush 800, 3) := by decide +kernel
theorem dX11_init_114 : decode cX11_init 114 = .ok (.newarray .int, 2) := by decide +kernel
theorem dX11_init_116 : decode cX11_init 116 = .ok (.putfield 65, 3) := by decide +kernel
theorem dX11_init_119 : decode cX11_init 119 = .ok (.aload_n 0, 1) := by decide +kernel
theorem dX11_init_120 : decode cX11_init 120 = .ok (.bipush (-2), 2) := by decide +kernel
theorem dX11_init_122 : decode cX11_init 122 = .ok (.putfield 68, 3) := by decide +kernel
theorem dX11_init_125 : decode cX11_init 125 = .ok (.iconst 0, 1) := by decide +kernel
theorem dX11_init_126 : decode cX11_init 126 = .ok (.istore_n 1, 1) := by decide +kernel
theorem dX11_init_127 : decode cX11_init 127 = .ok (.iload_n 1, 1) := by decide +kernel
theorem dX11_init_128 : decode cX11_init 128 = .ok (.bipush 6, 2) := by decide +kernel
theorem dX11_init_130 : decode cX11_init 130 = .ok (.if_icmp .ge 22, 3) := by decide +kernel
theorem dX11_init_133 : decode cX11_init 133 = .ok (.aload_n 0, 1) := by decide +kernel
theorem dX11_init_134 : decode cX11_init 134 = .ok (.getfield 11, 3) := by decide +kernel
theorem dX11_init_137 : decode cX11_init 137 = .ok (.iload_n 1, 1) := by decide +kernel
theorem dX11_init_138 : decode cX11_init 138 = .ok (.new 9, 3) := by decide +kernel
theorem dX11_init_141 : decode cX11_init 141 = .ok (.dup, 1) := by decide +kernel
theorem dX11_init_142 : decode cX11_init 142 = .ok (.invokespecial 15, 3) := by decide +kernel
theorem dX11_init_145 : decode cX11_init 145 = .ok (.aastore, 1) := by decide +kernel
theorem dX11_init_146 : decode cX11_init 146 = .ok (.iinc 1 1, 3) := by decide +kernel
theorem dX11_init_149 : decode cX11_init 149 = .ok (.goto (-22), 3) := by decide +kernel
theorem dX11_init_152 : decode cX11_init 152 = .ok (.return_, 1) := by decide +kernel
theorem dX11_voice_0 : decode cX11_voice 0 = .ok (.iload_n 1, 1) := by decide +kernel
theorem dX11_voice_1 : decode cX11_voice 1 = .ok (.invokestatic 72, 3) := by decide +kernel
theorem dX11_voice_4 : decode cX11_voice 4 = .ok (.ifCond .eq 9, 3) := by decide +kernel
theorem dX11_voice_7 : decode cX11_voice 7 = .ok (.iload_n 2, 1) := by decide +kernel
theorem dX11_voice_8 : decode cX11_voice 8 = .ok (.bipush 24, 2) := by decide +kernel
theorem dX11_voice_10 : decode cX11_voice 10 = .ok (.if_icmp .le 5, 3) := by decide +kernel
theorem dX11_voice_13 : decode cX11_voice 13 = .ok (.iconst (-1), 1) := by decide +kernel
theorem dX11_voice_14 : decode cX11_voice 14 = .ok (.ireturn, 1) := by decide +kernel
theorem dX11_voice_15 : decode cX11_voice 15 = .ok (.iload_n 2, 1) := by decide +kernel
theorem dX11_voice_16 : decode cX11_voice 16 = .ok (.ifCond .ge 9, 3) := by decide +kernel
theorem dX11_voice_19 : decode cX11_voice 19 = .ok (.aload_n 0, 1) := by decide +kernel
theorem dX11_voice_20 : decode cX11_voice 20 = .ok (.iconst 5, 1) := by decide +kernel
theorem dX11_voice_21 : decode cX11_voice 21 = .ok (.invokevirtual 76, 3) := by decide +kernel
theorem dX11_voice_24 : decode cX11_voice 24 = .ok (.ireturn, 1) := by decide +kernel
theorem dX11_voice_25 : decode cX11_voice 25 = .ok (.aload_n 0, 1) := by decide +kernel
theorem dX11_voice_26 : decode cX11_voice 26 = .ok (.iload_n 1, 1) := by decide +kernel
theorem dX11_voice_27 : decode cX11_voice 27 = .ok (.invokevirtual 80, 3) := by decide +kernel
theorem dX11_voice_30 : decode cX11_voice 30 = .ok (.aload_n 0, 1) := by decide +kernel
theorem dX11_voice_31 : decode cX11_voice 31 = .ok (.getfield 11, 3) := by decide +kernel
theorem dX11_voice_34 : decode cX11_voice 34 = .ok (.iload_n 1, 1) := by decide +kernel
theorem dX11_voice_35 : decode cX11_voice 35 = .ok (.aaload, 1) := by decide +kernel
theorem dX11_voice_36 : decode cX11_voice 36 = .ok (.iload_n 2, 1) := by decide +kernel
theorem dX11_voice_37 : decode cX11_voice 37 = .ok (.invokevirtual 84, 3) := by decide +kernel
theorem dX11_voice_40 : decode cX11_voice 40 = .ok (.aload_n 0, 1) := by decide +kernel
theorem dX11_voice_41 : decode cX11_voice 41 = .ok (.iconst 1, 1) := by decide +kernel
theorem dX11_voice_42 : decode cX11_voice 42 = .ok (.invokevirtual 87, 3) := by decide +kernel
theorem dX11_voice_45 : decode cX11_voice 45 = .ok (.ireturn, 1) := by decide +kernel
theorem dX11_drop_0 : decode cX11_drop 0 = .ok (.iload_n 1, 1) := by decide +kernel
theorem dX11_drop_1 : decode cX11_drop 1 = .ok (.invokestatic 72, 3) := by decide +kernel
theorem dX11_drop_4 : decode cX11_drop 4 = .ok (.ifCond .ne 5, 3) := by decide +kernel
theorem dX11_drop_7 : decode cX11_drop 7 = .ok (.iconst (-1), 1) := by decide +kernel
theorem dX11_drop_8 : decode cX11_drop 8 = .ok (.ireturn, 1) := by decide +kernel
theorem dX11_drop_9 : decode cX11_drop 9 = .ok (.aload_n 0, 1) := by decide +kernel
theorem dX11_drop_10 : decode cX11_drop 10 = .ok (.iload_n 1, 1) := by decide +kernel
theorem dX11_drop_11 : decode cX11_drop 11 = .ok (.invokevirtual 80, 3) := by decide +kernel
theorem dX11_drop_14 : decode cX11_drop 14 = .ok (.aload_n 0, 1) := by decide +kernel
theorem dX11_drop_15 : decode cX11_drop 15 = .ok (.getfield 11, 3) := by decide +kernel
theorem dX11_drop_18 : decode cX11_drop 18 = .ok (.iload_n 1, 1) := by decide +kernel
theorem dX11_drop_19 : decode cX11_drop 19 = .ok (.aaload, 1) := by decide +kernel
theorem dX11_drop_20 : decode cX11_drop 20 = .ok (.getfield 90, 3) := by decide +kernel
theorem dX11_drop_23 : decode cX11_drop 23 = .ok (.ifCond .eq 7, 3) := by decide +kernel
theorem dX11_drop_26 : decode cX11_drop 26 = .ok (.iconst 1, 1) := by decide +kernel
theorem dX11_drop_27 : decode cX11_drop 27 = .ok (.goto 4, 3) := by decide +kernel
theorem dX11_drop_30 : decode cX11_drop 30 = .ok (.iconst 0, 1) := by decide +kernel
theorem dX11_drop_31 : decode cX11_drop 31 = .ok (.istore_n 2, 1) := by decide +kernel
theorem dX11_drop_32 : decode cX11_drop 32 = .ok (.aload_n 0, 1) := by decide +kernel
theorem dX11_drop_33 : decode cX11_drop 33 = .ok (.getfield 11, 3) := by decide +kernel
theorem dX11_drop_36 : decode cX11_drop 36 = .ok (.iload_n 1, 1) := by decide +kernel
theorem dX11_drop_37 : decode cX11_drop 37 = .ok (.aaload, 1) := by decide +kernel
theorem dX11_drop_38 : decode cX11_drop 38 = .ok (.iconst 0, 1) := by decide +kernel
theorem dX11_drop_39 : decode cX11_drop 39 = .ok (.putfield 90, 3) := by decide +kernel
theorem dX11_drop_42 : decode cX11_drop 42 = .ok (.aload_n 0, 1) := by decide +kernel
theorem dX11_drop_43 : decode cX11_drop 43 = .ok (.iload_n 2, 1) := by decide +kernel
theorem dX11_drop_44 : decode cX11_drop 44 = .ok (.invokevirtual 87, 3) := by decide +kernel
theorem dX11_drop_47 : decode cX11_drop 47 = .ok (.ireturn, 1) := by decide +kernel
theorem dX11_note_0 : decode cX11_note 0 = .ok (.iload_n 1, 1) := by decide +kernel
theorem dX11_note_1 : decode cX11_note 1 = .ok (.invokestatic 72, 3) := by decide +kernel
theorem dX11_note_4 : decode cX11_note 4 = .ok (.ifCond .eq 24, 3) := by decide +kernel
theorem dX11_note_7 : decode cX11_note 7 = .ok (.iload_n 3, 1) := by decide +kernel
theorem dX11_note_8 : decode cX11_note 8 = .ok (.iconst 0, 1) := by decide +kernel
theorem dX11_note_9 : decode cX11_note 9 = .ok (.bipush 120, 2) := by decide +kernel
theorem dX11_note_11 : decode cX11_note 11 = .ok (.invokestatic 94, 3) := by decide +kernel
theorem dX11_note_14 : decode cX11_note 14 = .ok (.ifCond .eq 14, 3) := by decide +kernel
theorem dX11_note_17 : decode cX11_note 17 = .ok (.iload 4, 2) := by decide +kernel
theorem dX11_note_19 : decode cX11_note 19 = .ok (.iconst 0, 1) := by decide +kernel
theorem dX11_note_20 : decode cX11_note 20 = .ok (.bipush 8, 2) := by decide +kernel
theorem dX11_note_22 : decode cX11_note 22 = .ok (.invokestatic 94, 3) := by decide +kernel
theorem dX11_note_25 : decode cX11_note 25 = .ok (.ifCond .ne 5, 3) := by decide +kernel
theorem dX11_note_28 : decode cX11_note 28 = .ok (.iconst (-1), 1) := by decide +kernel
theorem dX11_note_29 : decode cX11_note 29 = .ok (.ireturn, 1) := by decide +kernel
theorem dX11_note_30 : decode cX11_note 30 = .ok (.aload_n 0, 1) := by decide +kernel
theorem dX11_note_31 : decode cX11_note 31 = .ok (.getfield 11, 3) := by decide +kernel
theorem dX11_note_34 : decode cX11_note 34 = .ok (.iload_n 1, 1) := by decide +kernel
theorem dX11_note_35 : decode cX11_note 35 = .ok (.aaload, 1) := by decide +kernel
theorem dX11_note_36 : decode cX11_note 36 = .ok (.astore 5, 2) := by decide +kernel
theorem dX11_note_38 : decode cX11_note 38 = .ok (.aload 5, 2) := by decide +kernel
theorem dX11_note_40 : decode cX11_note 40 = .ok (.getfield 90, 3) := by decide +kernel
theorem dX11_note_43 : decode cX11_note 43 = .ok (.ifCond .ne 9, 3) := by decide +kernel
theorem dX11_note_46 : decode cX11_note 46 = .ok (.aload_n 0, 1) := by decide +kernel
theorem dX11_note_47 : decode cX11_note 47 = .ok (.iconst 1, 1) := by decide +kernel
theorem dX11_note_48 : decode cX11_note 48 = .ok (.invokevirtual 76, 3) := by decide +kernel
theorem dX11_note_51 : decode cX11_note 51 = .ok (.ireturn, 1) := by decide +kernel
theorem dX11_note_52 : decode cX11_note 52 = .ok (.aload 5, 2) := by decide +kernel
theorem dX11_note_54 : decode cX11_note 54 = .ok (.iconst 0, 1) := by decide +kernel
theorem dX11_note_55 : decode cX11_note 55 = .ok (.iload_n 2, 1) := by decide +kernel
theorem dX11_note_56 : decode cX11_note 56 = .ok (.invokevirtual 98, 3) := by decide +kernel
theorem dX11_note_59 : decode cX11_note 59 = .ok (.ifCond .eq 13, 3) := by decide +kernel
theorem dX11_note_62 : decode cX11_note 62 = .ok (.aload 5, 2) := by decide +kernel
theorem dX11_note_64 : decode cX11_note 64 = .ok (.iconst 1, 1) := by decide +kernel
theorem dX11_note_65 : decode cX11_note 65 = .ok (.iload_n 2, 1) := by decide +kernel
theorem dX11_note_66 : decode cX11_note 66 = .ok (.invokevirtual 98, 3) := by decide +kernel
theorem dX11_note_69 : decode cX11_note 69 = .ok (.ifCond .ne 9, 3) := by decide +kernel
theorem dX11_note_72 : decode cX11_note 72 = .ok (.aload_n 0, 1) := by decide +kernel
theorem dX11_note_73 : decode cX11_note 73 = .ok (.iconst 2, 1) := by decide +kernel
theorem dX11_note_74 : decode cX11_note 74 = .ok (.invokevirtual 76, 3) := by decide +kernel
theorem dX11_note_77 : decode cX11_note 77 = .ok (.ireturn, 1) := by decide +kernel
theorem dX11_note_78 : decode cX11_note 78 = .ok (.aload_n 0, 1) := by decide +kernel
theorem dX11_note_79 : decode cX11_note 79 = .ok (.iload_n 1, 1) := by decide +kernel
theorem dX11_note_80 : decode cX11_note 80 = .ok (.invokevirtual 80, 3) := by decide +kernel
theorem dX11_note_83 : decode cX11_note 83 = .ok (.aload 5, 2) := by decide +kernel
theorem dX11_note_85 : decode cX11_note 85 = .ok (.getfield 102, 3) := by decide +kernel
theorem dX11_note_88 : decode cX11_note 88 = .ok (.iconst 0, 1) := by decide +kernel
theorem dX11_note_89 : decode cX11_note 89 = .ok (.aaload, 1) := by decide +kernel
theorem dX11_note_90 : decode cX11_note 90 = .ok (.iload_n 2, 1) := by decide +kernel
theorem dX11_note_91 : decode cX11_note 91 = .ok (.iload_n 3, 1) := by decide +kernel
theorem dX11_note_92 : decode cX11_note 92 = .ok (.iastore, 1) := by decide +kernel
theorem dX11_note_93 : decode cX11_note 93 = .ok (.aload 5, 2) := by decide +kernel
theorem dX11_note_95 : decode cX11_note 95 = .ok (.getfield 102, 3) := by decide +kernel
theorem dX11_note_98 : decode cX11_note 98 = .ok (.iconst 1, 1) := by decide +kernel
theorem dX11_note_99 : decode cX11_note 99 = .ok (.aaload, 1) := by decide +kernel
theorem dX11_note_100 : decode cX11_note 100 = .ok (.iload_n 2, 1) := by decide +kernel
theorem dX11_note_101 : decode cX11_note 101 = .ok (.iload 4, 2) := by decide +kernel
theorem dX11_note_103 : decode cX11_note 103 = .ok (.iastore, 1) := by decide +kernel
theorem dX11_note_104 : decode cX11_note 104 = .ok (.aload_n 0, 1) := by decide +kernel
theorem dX11_note_105 : decode cX11_note 105 = .ok (.iconst 1, 1) := by decide +kernel
theorem dX11_note_106 : decode cX11_note 106 = .ok (.invokevirtual 87, 3) := by decide +kernel
theorem dX11_note_109 : decode cX11_note 109 = .ok (.ireturn, 1) := by decide +kernel
theorem dX11_cut_0 : decode cX11_cut 0 = .ok (.iload_n 1, 1) := by decide +kernel
theorem dX11_cut_1 : decode cX11_cut 1 = .ok (.invokestatic 72, 3) := by decide +kernel
theorem dX11_cut_4 : decode cX11_cut 4 = .ok (.ifCond .eq 16, 3) := by decide +kernel
theorem dX11_cut_7 : decode cX11_cut 7 = .ok (.iload_n 2, 1) := by decide +kernel
theorem dX11_cut_8 : decode cX11_cut 8 = .ok (.invokestatic 106, 3) := by decide +kernel
theorem dX11_cut_11 : decode cX11_cut 11 = .ok (.ifCond .eq 9, 3) := by decide +kernel
theorem dX11_cut_14 : decode cX11_cut 14 = .ok (.iload_n 3, 1) := by decide +kernel
theorem dX11_cut_15 : decode cX11_cut 15 = .ok (.bipush 24, 2) := by decide +kernel
theorem dX11_cut_17 : decode cX11_cut 17 = .ok (.if_icmp .le 5, 3) := by decide +kernel
theorem dX11_cut_20 : decode cX11_cut 20 = .ok (.iconst (-1), 1) := by decide +kernel
theorem dX11_cut_21 : decode cX11_cut 21 = .ok (.ireturn, 1) := by decide +kernel
theorem dX11_cut_22 : decode cX11_cut 22 = .ok (.aload_n 0, 1) := by decide +kernel
theorem dX11_cut_23 : decode cX11_cut 23 = .ok (.getfield 11, 3) := by decide +kernel
theorem dX11_cut_26 : decode cX11_cut 26 = .ok (.iload_n 1, 1) := by decide +kernel
theorem dX11_cut_27 : decode cX11_cut 27 = .ok (.aaload, 1) := by decide +kernel
theorem dX11_cut_28 : decode cX11_cut 28 = .ok (.astore 4, 2) := by decide +kernel
theorem dX11_cut_30 : decode cX11_cut 30 = .ok (.aload 4, 2) := by decide +kernel
theorem dX11_cut_32 : decode cX11_cut 32 = .ok (.getfield 90, 3) := by decide +kernel
theorem dX11_cut_35 : decode cX11_cut 35 = .ok (.ifCond .ne 9, 3) := by decide +kernel
theorem dX11_cut_38 : decode cX11_cut 38 = .ok (.aload_n 0, 1) := by decide +kernel
theorem dX11_cut_39 : decode cX11_cut 39 = .ok (.iconst 1, 1) := by decide +kernel
theorem dX11_cut_40 : decode cX11_cut 40 = .ok (.invokevirtual 76, 3) := by decide +kernel
theorem dX11_cut_43 : decode cX11_cut 43 = .ok (.ireturn, 1) := by decide +kernel
theorem dX11_cut_44 : decode cX11_cut 44 = .ok (.iload_n 3, 1) := by decide +kernel
theorem dX11_cut_45 : decode cX11_cut 45 = .ok (.ifCond .ge 9, 3) := by decide +kernel
theorem dX11_cut_48 : decode cX11_cut 48 = .ok (.aload_n 0, 1) := by decide +kernel
theorem dX11_cut_49 : decode cX11_cut 49 = .ok (.iconst 5, 1) := by decide +kernel
theorem dX11_cut_50 : decode cX11_cut 50 = .ok (.invokevirtual 76, 3) := by decide +kernel
theorem dX11_cut_53 : decode cX11_cut 53 = .ok (.ireturn, 1) := by decide +kernel
theorem dX11_cut_54 : decode cX11_cut 54 = .ok (.aload 4, 2) := by decide +kernel
theorem dX11_cut_56 : decode cX11_cut 56 = .ok (.getfield 109, 3) := by decide +kernel
theorem dX11_cut_59 : decode cX11_cut 59 = .ok (.iload_n 2, 1) := by decide +kernel
theorem dX11_cut_60 : decode cX11_cut 60 = .ok (.iaload, 1) := by decide +kernel
theorem dX11_cut_61 : decode cX11_cut 61 = .ok (.istore 5, 2) := by decide +kernel
theorem dX11_cut_63 : decode cX11_cut 63 = .ok (.iload_n 3, 1) := by decide +kernel
theorem dX11_cut_64 : decode cX11_cut 64 = .ok (.iload 5, 2) := by decide +kernel
theorem dX11_cut_66 : decode cX11_cut 66 = .ok (.if_icmp .le 9, 3) := by decide +kernel
theorem dX11_cut_69 : decode cX11_cut 69 = .ok (.aload_n 0, 1) := by decide +kernel
theorem dX11_cut_70 : decode cX11_cut 70 = .ok (.iconst 2, 1) := by decide +kernel
theorem dX11_cut_71 : decode cX11_cut 71 = .ok (.invokevirtual 76, 3) := by decide +kernel
theorem dX11_cut_74 : decode cX11_cut 74 = .ok (.ireturn, 1) := by decide +kernel
theorem dX11_cut_75 : decode cX11_cut 75 = .ok (.aload_n 0, 1) := by decide +kernel
theorem dX11_cut_76 : decode cX11_cut 76 = .ok (.iload_n 1, 1) := by decide +kernel
theorem dX11_cut_77 : decode cX11_cut 77 = .ok (.invokevirtual 80, 3) := by decide +kernel
theorem dX11_cut_80 : decode cX11_cut 80 = .ok (.aload 4, 2) := by decide +kernel
theorem dX11_cut_82 : decode cX11_cut 82 = .ok (.getfield 109, 3) := by decide +kernel
theorem dX11_cut_85 : decode cX11_cut 85 = .ok (.iload_n 2, 1) := by decide +kernel
theorem dX11_cut_86 : decode cX11_cut 86 = .ok (.iload_n 3, 1) := by decide +kernel
theorem dX11_cut_87 : decode cX11_cut 87 = .ok (.iastore, 1) := by decide +kernel
theorem dX11_cut_88 : decode cX11_cut 88 = .ok (.aload_n 0, 1) := by decide +kernel
theorem dX11_cut_89 : decode cX11_cut 89 = .ok (.iload 5, 2) := by decide +kernel
theorem dX11_cut_91 : decode cX11_cut 91 = .ok (.invokevirtual 87, 3) := by decide +kernel
theorem dX11_cut_94 : decode cX11_cut 94 = .ok (.ireturn, 1) := by decide +kernel
theorem dX11_size_0 : decode cX11_size 0 = .ok (.iload_n 1, 1) := by decide +kernel
theorem dX11_size_1 : decode cX11_size 1 = .ok (.invokestatic 72, 3) := by decide +kernel
theorem dX11_size_4 : decode cX11_size 4 = .ok (.ifCond .eq 10, 3) := by decide +kernel
theorem dX11_size_7 : decode cX11_size 7 = .ok (.iload_n 2, 1) := by decide +kernel
theorem dX11_size_8 : decode cX11_size 8 = .ok (.invokestatic 106, 3) := by decide +kernel
theorem dX11_size_11 : decode cX11_size 11 = .ok (.ifCond .ne 5, 3) := by decide +kernel
theorem dX11_size_14 : decode cX11_size 14 = .ok (.iconst (-1), 1) := by decide +kernel
theorem dX11_size_15 : decode cX11_size 15 = .ok (.ireturn, 1) := by decide +kernel
theorem dX11_size_16 : decode cX11_size 16 = .ok (.aload_n 0, 1) := by decide +kernel
theorem dX11_size_17 : decode cX11_size 17 = .ok (.getfield 11, 3) := by decide +kernel
theorem dX11_size_20 : decode cX11_size 20 = .ok (.iload_n 1, 1) := by decide +kernel
theorem dX11_size_21 : decode cX11_size 21 = .ok (.aaload, 1) := by decide +kernel
theorem dX11_size_22 : decode cX11_size 22 = .ok (.getfield 90, 3) := by decide +kernel
theorem dX11_size_25 : decode cX11_size 25 = .ok (.ifCond .eq 21, 3) := by decide +kernel
theorem dX11_size_28 : decode cX11_size 28 = .ok (.aload_n 0, 1) := by decide +kernel
theorem dX11_size_29 : decode cX11_size 29 = .ok (.aload_n 0, 1) := by decide +kernel
theorem dX11_size_30 : decode cX11_size 30 = .ok (.getfield 11, 3) := by decide +kernel
theorem dX11_size_33 : decode cX11_size 33 = .ok (.iload_n 1, 1) := by decide +kernel
theorem dX11_size_34 : decode cX11_size 34 = .ok (.aaload, 1) := by decide +kernel
theorem dX11_size_35 : decode cX11_size 35 = .ok (.getfield 109, 3) := by decide +kernel
theorem dX11_size_38 : decode cX11_size 38 = .ok (.iload_n 2, 1) := by decide +kernel
theorem dX11_size_39 : decode cX11_size 39 = .ok (.iaload, 1) := by decide +kernel
theorem dX11_size_40 : decode cX11_size 40 = .ok (.invokevirtual 87, 3) := by decide +kernel
theorem dX11_size_43 : decode cX11_size 43 = .ok (.goto 8, 3) := by decide +kernel
theorem dX11_size_46 : decode cX11_size 46 = .ok (.aload_n 0, 1) := by decide +kernel
theorem dX11_size_47 : decode cX11_size 47 = .ok (.iconst 1, 1) := by decide +kernel
theorem dX11_size_48 : decode cX11_size 48 = .ok (.invokevirtual 76, 3) := by decide +kernel
theorem dX11_size_51 : decode cX11_size 51 = .ok (.ireturn, 1) := by decide +kernel
theorem dX11_number_0 : decode cX11_number 0 = .ok (.iload_n 1, 1) := by decide +kernel
theorem dX11_number_1 : decode cX11_number 1 = .ok (.invokestatic 72, 3) := by decide +kernel
theorem dX11_number_4 : decode cX11_number 4 = .ok (.ifCond .eq 10, 3) := by decide +kernel
theorem dX11_number_7 : decode cX11_number 7 = .ok (.iload_n 2, 1) := by decide +kernel
theorem dX11_number_8 : decode cX11_number 8 = .ok (.invokestatic 106, 3) := by decide +kernel
theorem dX11_number_11 : decode cX11_number 11 = .ok (.ifCond .ne 5, 3) := by decide +kernel
theorem dX11_number_14 : decode cX11_number 14 = .ok (.iconst (-1), 1) := by decide +kernel
theorem dX11_number_15 : decode cX11_number 15 = .ok (.ireturn, 1) := by decide +kernel
theorem dX11_number_16 : decode cX11_number 16 = .ok (.aload_n 0, 1) := by decide +kernel
theorem dX11_number_17 : decode cX11_number 17 = .ok (.getfield 11, 3) := by decide +kernel
theorem dX11_number_20 : decode cX11_number 20 = .ok (.iload_n 1, 1) := by decide +kernel
theorem dX11_number_21 : decode cX11_number 21 = .ok (.aaload, 1) := by decide +kernel
theorem dX11_number_22 : decode cX11_number 22 = .ok (.astore 4, 2) := by decide +kernel
theorem dX11_number_24 : decode cX11_number 24 = .ok (.aload 4, 2) := by decide +kernel
theorem dX11_number_26 : decode cX11_number 26 = .ok (.getfield 90, 3) := by decide +kernel
theorem dX11_number_29 : decode cX11_number 29 = .ok (.ifCond .ne 9, 3) := by decide +kernel
theorem dX11_number_32 : decode cX11_number 32 = .ok (.aload_n 0, 1) := by decide +kernel
theorem dX11_number_33 : decode cX11_number 33 = .ok (.iconst 1, 1) := by decide +kernel
theorem dX11_number_34 : decode cX11_number 34 = .ok (.invokevirtual 76, 3) := by decide +kernel
theorem dX11_number_37 : decode cX11_number 37 = .ok (.ireturn, 1) := by decide +kernel
theorem dX11_number_38 : decode cX11_number 38 = .ok (.aload 4, 2) := by decide +kernel
theorem dX11_number_40 : decode cX11_number 40 = .ok (.iload_n 2, 1) := by decide +kernel
theorem dX11_number_41 : decode cX11_number 41 = .ok (.iload_n 3, 1) := by decide +kernel
theorem dX11_number_42 : decode cX11_number 42 = .ok (.invokevirtual 98, 3) := by decide +kernel
theorem dX11_number_45 : decode cX11_number 45 = .ok (.ifCond .eq 19, 3) := by decide +kernel
theorem dX11_number_48 : decode cX11_number 48 = .ok (.aload_n 0, 1) := by decide +kernel
theorem dX11_number_49 : decode cX11_number 49 = .ok (.aload 4, 2) := by decide +kernel
theorem dX11_number_51 : decode cX11_number 51 = .ok (.getfield 102, 3) := by decide +kernel
theorem dX11_number_54 : decode cX11_number 54 = .ok (.iload_n 2, 1) := by decide +kernel
theorem dX11_number_55 : decode cX11_number 55 = .ok (.aaload, 1) := by decide +kernel
theorem dX11_number_56 : decode cX11_number 56 = .ok (.iload_n 3, 1) := by decide +kernel
theorem dX11_number_57 : decode cX11_number 57 = .ok (.iaload, 1) := by decide +kernel
theorem dX11_number_58 : decode cX11_number 58 = .ok (.invokevirtual 87, 3) := by decide +kernel
theorem dX11_number_61 : decode cX11_number 61 = .ok (.goto 8, 3) := by decide +kernel
theorem dX11_number_64 : decode cX11_number 64 = .ok (.aload_n 0, 1) := by decide +kernel
theorem dX11_number_65 : decode cX11_number 65 = .ok (.iconst 2, 1) := by decide +kernel
theorem dX11_number_66 : decode cX11_number 66 = .ok (.invokevirtual 76, 3) := by decide +kernel
theorem dX11_number_69 : decode cX11_number 69 = .ok (.ireturn, 1) := by decide +kernel
theorem dX11_end_0 : decode cX11_end 0 = .ok (.iload_n 1, 1) := by decide +kernel
theorem dX11_end_1 : decode cX11_end 1 = .ok (.invokestatic 72, 3) := by decide +kernel
theorem dX11_end_4 : decode cX11_end 4 = .ok (.ifCond .ne 5, 3) := by decide +kernel
theorem dX11_end_7 : decode cX11_end 7 = .ok (.iconst (-1), 1) := by decide +kernel
theorem dX11_end_8 : decode cX11_end 8 = .ok (.ireturn, 1) := by decide +kernel
theorem dX11_end_9 : decode cX11_end 9 = .ok (.aload_n 0, 1) := by decide +kernel
theorem dX11_end_10 : decode cX11_end 10 = .ok (.getfield 11, 3) := by decide +kernel
theorem dX11_end_13 : decode cX11_end 13 = .ok (.iload_n 1, 1) := by decide +kernel
theorem dX11_end_14 : decode cX11_end 14 = .ok (.aaload, 1) := by decide +kernel
theorem dX11_end_15 : decode cX11_end 15 = .ok (.invokestatic 112, 3) := by decide +kernel
theorem dX11_end_18 : decode cX11_end 18 = .ok (.istore_n 2, 1) := by decide +kernel
theorem dX11_end_19 : decode cX11_end 19 = .ok (.iload_n 2, 1) := by decide +kernel
theorem dX11_end_20 : decode cX11_end 20 = .ok (.ifCond .ne 19, 3) := by decide +kernel
theorem dX11_end_23 : decode cX11_end 23 = .ok (.aload_n 0, 1) := by decide +kernel
theorem dX11_end_24 : decode cX11_end 24 = .ok (.aload_n 0, 1) := by decide +kernel
theorem dX11_end_25 : decode cX11_end 25 = .ok (.getfield 11, 3) := by decide +kernel
theorem dX11_end_28 : decode cX11_end 28 = .ok (.iload_n 1, 1) := by decide +kernel
theorem dX11_end_29 : decode cX11_end 29 = .ok (.aaload, 1) := by decide +kernel
theorem dX11_end_30 : decode cX11_end 30 = .ok (.getfield 116, 3) := by decide +kernel
theorem dX11_end_33 : decode cX11_end 33 = .ok (.invokevirtual 87, 3) := by decide +kernel
theorem dX11_end_36 : decode cX11_end 36 = .ok (.goto 8, 3) := by decide +kernel
theorem dX11_end_39 : decode cX11_end 39 = .ok (.aload_n 0, 1) := by decide +kernel
theorem dX11_end_40 : decode cX11_end 40 = .ok (.iload_n 2, 1) := by decide +kernel
theorem dX11_end_41 : decode cX11_end 41 = .ok (.invokevirtual 76, 3) := by decide +kernel
theorem dX11_end_44 : decode cX11_end 44 = .ok (.ireturn, 1) := by decide +kernel
theorem dX11_sounds_0 : decode cX11_sounds 0 = .ok (.iload_n 1, 1) := by decide +kernel
theorem dX11_sounds_1 : decode cX11_sounds 1 = .ok (.invokestatic 72, 3) := by decide +kernel
theorem dX11_sounds_4 : decode cX11_sounds 4 = .ok (.ifCond .eq 7, 3) := by decide +kernel
theorem dX11_sounds_7 : decode cX11_sounds 7 = .ok (.iload_n 2, 1) := by decide +kernel
theorem dX11_sounds_8 : decode cX11_sounds 8 = .ok (.ifCond .ge 5, 3) := by decide +kernel
theorem dX11_sounds_11 : decode cX11_sounds 11 = .ok (.iconst (-1), 1) := by decide +kernel
theorem dX11_sounds_12 : decode cX11_sounds 12 = .ok (.ireturn, 1) := by decide +kernel
theorem dX11_sounds_13 : decode cX11_sounds 13 = .ok (.aload_n 0, 1) := by decide +kernel
theorem dX11_sounds_14 : decode cX11_sounds 14 = .ok (.getfield 11, 3) := by decide +kernel
theorem dX11_sounds_17 : decode cX11_sounds 17 = .ok (.iload_n 1, 1) := by decide +kernel
theorem dX11_sounds_18 : decode cX11_sounds 18 = .ok (.aaload, 1) := by decide +kernel
theorem dX11_sounds_19 : decode cX11_sounds 19 = .ok (.invokestatic 112, 3) := by decide +kernel
theorem dX11_sounds_22 : decode cX11_sounds 22 = .ok (.istore_n 3, 1) := by decide +kernel
theorem dX11_sounds_23 : decode cX11_sounds 23 = .ok (.iload_n 3, 1) := by decide +kernel
theorem dX11_sounds_24 : decode cX11_sounds 24 = .ok (.ifCond .ne 20, 3) := by decide +kernel
theorem dX11_sounds_27 : decode cX11_sounds 27 = .ok (.aload_n 0, 1) := by decide +kernel
theorem dX11_sounds_28 : decode cX11_sounds 28 = .ok (.aload_n 0, 1) := by decide +kernel
theorem dX11_sounds_29 : decode cX11_sounds 29 = .ok (.getfield 11, 3) := by decide +kernel
theorem dX11_sounds_32 : decode cX11_sounds 32 = .ok (.iload_n 1, 1) := by decide +kernel
theorem dX11_sounds_33 : decode cX11_sounds 33 = .ok (.aaload, 1) := by decide +kernel
theorem dX11_sounds_34 : decode cX11_sounds 34 = .ok (.iload_n 2, 1) := by decide +kernel
theorem dX11_sounds_35 : decode cX11_sounds 35 = .ok (.invokevirtual 119, 3) := by decide +kernel
theorem dX11_sounds_38 : decode cX11_sounds 38 = .ok (.invokevirtual 87, 3) := by decide +kernel
theorem dX11_sounds_41 : decode cX11_sounds 41 = .ok (.goto 8, 3) := by decide +kernel
theorem dX11_sounds_44 : decode cX11_sounds 44 = .ok (.aload_n 0, 1) := by decide +kernel
theorem dX11_sounds_45 : decode cX11_sounds 45 = .ok (.iload_n 3, 1) := by decide +kernel
theorem dX11_sounds_46 : decode cX11_sounds 46 = .ok (.invokevirtual 76, 3) := by decide +kernel
theorem dX11_sounds_49 : decode cX11_sounds 49 = .ok (.ireturn, 1) := by decide +kernel
theorem dX11_transpose_0 : decode cX11_transpose 0 = .ok (.iload_n 1, 1) := by decide +kernel
theorem dX11_transpose_1 : decode cX11_transpose 1 = .ok (.invokestatic 72, 3) := by decide +kernel
theorem dX11_transpose_4 : decode cX11_transpose 4 = .ok (.ifCond .eq 14, 3) := by decide +kernel
theorem dX11_transpose_7 : decode cX11_transpose 7 = .ok (.iload_n 2, 1) := by decide +kernel
theorem dX11_transpose_8 : decode cX11_transpose 8 = .ok (.bipush (-60), 2) := by decide +kernel
theorem dX11_transpose_10 : decode cX11_transpose 10 = .ok (.bipush 60, 2) := by decide +kernel
theorem dX11_transpose_12 : decode cX11_transpose 12 = .ok (.invokestatic 94, 3) := by decide +kernel
theorem dX11_transpose_15 : decode cX11_transpose 15 = .ok (.ifCond .ne 5, 3) := by decide +kernel
theorem dX11_transpose_18 : decode cX11_transpose 18 = .ok (.iconst (-1), 1) := by decide +kernel
theorem dX11_transpose_19 : decode cX11_transpose 19 = .ok (.ireturn, 1) := by decide +kernel
theorem dX11_transpose_20 : decode cX11_transpose 20 = .ok (.aload_n 0, 1) := by decide +kernel
theorem dX11_transpose_21 : decode cX11_transpose 21 = .ok (.getfield 11, 3) := by decide +kernel
theorem dX11_transpose_24 : decode cX11_transpose 24 = .ok (.iload_n 1, 1) := by decide +kernel
theorem dX11_transpose_25 : decode cX11_transpose 25 = .ok (.aaload, 1) := by decide +kernel
theorem dX11_transpose_26 : decode cX11_transpose 26 = .ok (.astore_n 3, 1) := by decide +kernel
theorem dX11_transpose_27 : decode cX11_transpose 27 = .ok (.aload_n 3, 1) := by decide +kernel
theorem dX11_transpose_28 : decode cX11_transpose 28 = .ok (.getfield 90, 3) := by decide +kernel
theorem dX11_transpose_31 : decode cX11_transpose 31 = .ok (.ifCond .ne 9, 3) := by decide +kernel
theorem dX11_transpose_34 : decode cX11_transpose 34 = .ok (.aload_n 0, 1) := by decide +kernel
theorem dX11_transpose_35 : decode cX11_transpose 35 = .ok (.iconst 1, 1) := by decide +kernel
theorem dX11_transpose_36 : decode cX11_transpose 36 = .ok (.invokevirtual 76, 3) := by decide +kernel
theorem dX11_transpose_39 : decode cX11_transpose 39 = .ok (.ireturn, 1) := by decide +kernel
theorem dX11_transpose_40 : decode cX11_transpose 40 = .ok (.aload_n 3, 1) := by decide +kernel
theorem dX11_transpose_41 : decode cX11_transpose 41 = .ok (.iload_n 2, 1) := by decide +kernel
theorem dX11_transpose_42 : decode cX11_transpose 42 = .ok (.invokevirtual 122, 3) := by decide +kernel
theorem dX11_transpose_45 : decode cX11_transpose 45 = .ok (.ifCond .ne 10, 3) := by decide +kernel
theorem dX11_transpose_48 : decode cX11_transpose 48 = .ok (.aload_n 0, 1) := by decide +kernel
theorem dX11_transpose_49 : decode cX11_transpose 49 = .ok (.bipush 6, 2) := by decide +kernel
theorem dX11_transpose_51 : decode cX11_transpose 51 = .ok (.invokevirtual 76, 3) := by decide +kernel
theorem dX11_transpose_54 : decode cX11_transpose 54 = .ok (.ireturn, 1) := by decide +kernel
theorem dX11_transpose_55 : decode cX11_transpose 55 = .ok (.aload_n 0, 1) := by decide +kernel
theorem dX11_transpose_56 : decode cX11_transpose 56 = .ok (.iload_n 1, 1) := by decide +kernel
theorem dX11_transpose_57 : decode cX11_transpose 57 = .ok (.invokevirtual 80, 3) := by decide +kernel
theorem dX11_transpose_60 : decode cX11_transpose 60 = .ok (.aload_n 0, 1) := by decide +kernel
theorem dX11_transpose_61 : decode cX11_transpose 61 = .ok (.aload_n 3, 1) := by decide +kernel
theorem dX11_transpose_62 : decode cX11_transpose 62 = .ok (.iload_n 2, 1) := by decide +kernel
theorem dX11_transpose_63 : decode cX11_transpose 63 = .ok (.invokevirtual 125, 3) := by decide +kernel
theorem dX11_transpose_66 : decode cX11_transpose 66 = .ok (.invokevirtual 87, 3) := by decide +kernel
theorem dX11_transpose_69 : decode cX11_transpose 69 = .ok (.ireturn, 1) := by decide +kernel
theorem dX11_copy_0 : decode cX11_copy 0 = .ok (.iload_n 1, 1) := by decide +kernel
theorem dX11_copy_1 : decode cX11_copy 1 = .ok (.invokestatic 72, 3) := by decide +kernel
theorem dX11_copy_4 : decode cX11_copy 4 = .ok (.ifCond .eq 10, 3) := by decide +kernel
theorem dX11_copy_7 : decode cX11_copy 7 = .ok (.iload_n 3, 1) := by decide +kernel
theorem dX11_copy_8 : decode cX11_copy 8 = .ok (.invokestatic 72, 3) := by decide +kernel
theorem dX11_copy_11 : decode cX11_copy 11 = .ok (.ifCond .ne 5, 3) := by decide +kernel
theorem dX11_copy_14 : decode cX11_copy 14 = .ok (.iconst (-1), 1) := by decide +kernel
theorem dX11_copy_15 : decode cX11_copy 15 = .ok (.ireturn, 1) := by decide +kernel
theorem dX11_copy_16 : decode cX11_copy 16 = .ok (.aload_n 0, 1) := by decide +kernel
theorem dX11_copy_17 : decode cX11_copy 17 = .ok (.iconst 0, 1) := by decide +kernel
theorem dX11_copy_18 : decode cX11_copy 18 = .ok (.putfield 128, 3) := by decide +kernel
theorem dX11_copy_21 : decode cX11_copy 21 = .ok (.aload_n 0, 1) := by decide +kernel
theorem dX11_copy_22 : decode cX11_copy 22 = .ok (.getfield 11, 3) := by decide +kernel
theorem dX11_copy_25 : decode cX11_copy 25 = .ok (.iload_n 1, 1) := by decide +kernel
theorem dX11_copy_26 : decode cX11_copy 26 = .ok (.aaload, 1) := by decide +kernel
theorem dX11_copy_27 : decode cX11_copy 27 = .ok (.astore 6, 2) := by decide +kernel
theorem dX11_copy_29 : decode cX11_copy 29 = .ok (.aload_n 0, 1) := by decide +kernel
theorem dX11_copy_30 : decode cX11_copy 30 = .ok (.getfield 11, 3) := by decide +kernel
theorem dX11_copy_33 : decode cX11_copy 33 = .ok (.iload_n 3, 1) := by decide +kernel
theorem dX11_copy_34 : decode cX11_copy 34 = .ok (.aaload, 1) := by decide +kernel
theorem dX11_copy_35 : decode cX11_copy 35 = .ok (.astore 7, 2) := by decide +kernel
theorem dX11_copy_37 : decode cX11_copy 37 = .ok (.aload 6, 2) := by decide +kernel
theorem dX11_copy_39 : decode cX11_copy 39 = .ok (.getfield 90, 3) := by decide +kernel
theorem dX11_copy_42 : decode cX11_copy 42 = .ok (.ifCond .eq 11, 3) := by decide +kernel
theorem dX11_copy_45 : decode cX11_copy 45 = .ok (.aload 7, 2) := by decide +kernel
theorem dX11_copy_47 : decode cX11_copy 47 = .ok (.getfield 90, 3) := by decide +kernel
theorem dX11_copy_50 : decode cX11_copy 50 = .ok (.ifCond .ne 9, 3) := by decide +kernel
theorem dX11_copy_53 : decode cX11_copy 53 = .ok (.aload_n 0, 1) := by decide +kernel
theorem dX11_copy_54 : decode cX11_copy 54 = .ok (.iconst 1, 1) := by decide +kernel
theorem dX11_copy_55 : decode cX11_copy 55 = .ok (.invokevirtual 76, 3) := by decide +kernel
theorem dX11_copy_58 : decode cX11_copy 58 = .ok (.ireturn, 1) := by decide +kernel
theorem dX11_copy_59 : decode cX11_copy 59 = .ok (.aload 6, 2) := by decide +kernel
theorem dX11_copy_61 : decode cX11_copy 61 = .ok (.iconst 0, 1) := by decide +kernel
theorem dX11_copy_62 : decode cX11_copy 62 = .ok (.iload_n 2, 1) := by decide +kernel
theorem dX11_copy_63 : decode cX11_copy 63 = .ok (.iload 5, 2) := by decide +kernel
theorem dX11_copy_65 : decode cX11_copy 65 = .ok (.invokevirtual 131, 3) := by decide +kernel
theorem dX11_copy_68 : decode cX11_copy 68 = .ok (.ifCond .eq 16, 3) := by decide +kernel
theorem dX11_copy_71 : decode cX11_copy 71 = .ok (.aload 7, 2) := by decide +kernel
theorem dX11_copy_73 : decode cX11_copy 73 = .ok (.iconst 0, 1) := by decide +kernel
theorem dX11_copy_74 : decode cX11_copy 74 = .ok (.iload 4, 2) := by decide +kernel
theorem dX11_copy_76 : decode cX11_copy 76 = .ok (.iload 5, 2) := by decide +kernel
theorem dX11_copy_78 : decode cX11_copy 78 = .ok (.invokevirtual 131, 3) := by decide +kernel
theorem dX11_copy_81 : decode cX11_copy 81 = .ok (.ifCond .ne 9, 3) := by decide +kernel
theorem dX11_copy_84 : decode cX11_copy 84 = .ok (.aload_n 0, 1) := by decide +kernel
theorem dX11_copy_85 : decode cX11_copy 85 = .ok (.iconst 2, 1) := by decide +kernel
theorem dX11_copy_86 : decode cX11_copy 86 = .ok (.invokevirtual 76, 3) := by decide +kernel
theorem dX11_copy_89 : decode cX11_copy 89 = .ok (.ireturn, 1) := by decide +kernel
theorem dX11_copy_90 : decode cX11_copy 90 = .ok (.aload_n 0, 1) := by decide +kernel
theorem dX11_copy_91 : decode cX11_copy 91 = .ok (.iload_n 3, 1) := by decide +kernel
theorem dX11_copy_92 : decode cX11_copy 92 = .ok (.invokevirtual 80, 3) := by decide +kernel
theorem dX11_copy_95 : decode cX11_copy 95 = .ok (.aload 6, 2) := by decide +kernel
theorem dX11_copy_97 : decode cX11_copy 97 = .ok (.getfield 102, 3) := by decide +kernel
theorem dX11_copy_100 : decode cX11_copy 100 = .ok (.iconst 0, 1) := by decide +kernel
theorem dX11_copy_101 : decode cX11_copy 101 = .ok (.aaload, 1) := by decide +kernel
theorem dX11_copy_102 : decode cX11_copy 102 = .ok (.iload_n 2, 1) := by decide +kernel
theorem dX11_copy_103 : decode cX11_copy 103 = .ok (.aload 7, 2) := by decide +kernel
theorem dX11_copy_105 : decode cX11_copy 105 = .ok (.getfield 102, 3) := by decide +kernel
theorem dX11_copy_108 : decode cX11_copy 108 = .ok (.iconst 0, 1) := by decide +kernel
theorem dX11_copy_109 : decode cX11_copy 109 = .ok (.aaload, 1) := by decide +kernel
theorem dX11_copy_110 : decode cX11_copy 110 = .ok (.iload 4, 2) := by decide +kernel
theorem dX11_copy_112 : decode cX11_copy 112 = .ok (.iload 5, 2) := by decide +kernel
theorem dX11_copy_114 : decode cX11_copy 114 = .ok (.invokestatic 134, 3) := by decide +kernel
theorem dX11_copy_117 : decode cX11_copy 117 = .ok (.aload_n 0, 1) := by decide +kernel
theorem dX11_copy_118 : decode cX11_copy 118 = .ok (.iconst 1, 1) := by decide +kernel
theorem dX11_copy_119 : decode cX11_copy 119 = .ok (.putfield 128, 3) := by decide +kernel
theorem dX11_copy_122 : decode cX11_copy 122 = .ok (.aload 6, 2) := by decide +kernel
theorem dX11_copy_124 : decode cX11_copy 124 = .ok (.iconst 1, 1) := by decide +kernel
theorem dX11_copy_125 : decode cX11_copy 125 = .ok (.iload_n 2, 1) := by decide +kernel
theorem dX11_copy_126 : decode cX11_copy 126 = .ok (.iload 5, 2) := by decide +kernel
theorem dX11_copy_128 : decode cX11_copy 128 = .ok (.invokevirtual 131, 3) := by decide +kernel
theorem dX11_copy_131 : decode cX11_copy 131 = .ok (.ifCond .eq 16, 3) := by decide +kernel
theorem dX11_copy_134 : decode cX11_copy 134 = .ok (.aload 7, 2) := by decide +kernel
theorem dX11_copy_136 : decode cX11_copy 136 = .ok (.iconst 1, 1) := by decide +kernel
theorem dX11_copy_137 : decode cX11_copy 137 = .ok (.iload 4, 2) := by decide +kernel
theorem dX11_copy_139 : decode cX11_copy 139 = .ok (.iload 5, 2) := by decide +kernel
theorem dX11_copy_141 : decode cX11_copy 141 = .ok (.invokevirtual 131, 3) := by decide +kernel
theorem dX11_copy_144 : decode cX11_copy 144 = .ok (.ifCond .ne 9, 3) := by decide +kernel
theorem dX11_copy_147 : decode cX11_copy 147 = .ok (.aload_n 0, 1) := by decide +kernel
theorem dX11_copy_148 : decode cX11_copy 148 = .ok (.iconst 2, 1) := by decide +kernel
theorem dX11_copy_149 : decode cX11_copy 149 = .ok (.invokevirtual 76, 3) := by decide +kernel
theorem dX11_copy_152 : decode cX11_copy 152 = .ok (.ireturn, 1) := by decide +kernel
theorem dX11_copy_153 : decode cX11_copy 153 = .ok (.aload 6, 2) := by decide +kernel
theorem dX11_copy_155 : decode cX11_copy 155 = .ok (.getfield 102, 3) := by decide +kernel
theorem dX11_copy_158 : decode cX11_copy 158 = .ok (.iconst 1, 1) := by decide +kernel
theorem dX11_copy_159 : decode cX11_copy 159 = .ok (.aaload, 1) := by decide +kernel
theorem dX11_copy_160 : decode cX11_copy 160 = .ok (.iload_n 2, 1) := by decide +kernel
theorem dX11_copy_161 : decode cX11_copy 161 = .ok (.aload 7, 2) := by decide +kernel
theorem dX11_copy_163 : decode cX11_copy 163 = .ok (.getfield 102, 3) := by decide +kernel
theorem dX11_copy_166 : decode cX11_copy 166 = .ok (.iconst 1, 1) := by decide +kernel
theorem dX11_copy_167 : decode cX11_copy 167 = .ok (.aaload, 1) := by decide +kernel
theorem dX11_copy_168 : decode cX11_copy 168 = .ok (.iload 4, 2) := by decide +kernel
theorem dX11_copy_170 : decode cX11_copy 170 = .ok (.iload 5, 2) := by decide +kernel
theorem dX11_copy_172 : decode cX11_copy 172 = .ok (.invokestatic 134, 3) := by decide +kernel
theorem dX11_copy_175 : decode cX11_copy 175 = .ok (.aload_n 0, 1) := by decide +kernel
theorem dX11_copy_176 : decode cX11_copy 176 = .ok (.iconst 2, 1) := by decide +kernel
theorem dX11_copy_177 : decode cX11_copy 177 = .ok (.putfield 128, 3) := by decide +kernel
theorem dX11_copy_180 : decode cX11_copy 180 = .ok (.aload_n 0, 1) := by decide +kernel
theorem dX11_copy_181 : decode cX11_copy 181 = .ok (.iload 5, 2) := by decide +kernel
theorem dX11_copy_183 : decode cX11_copy 183 = .ok (.invokevirtual 87, 3) := by decide +kernel
theorem dX11_copy_186 : decode cX11_copy 186 = .ok (.ireturn, 1) := by decide +kernel
theorem dX11_undo_0 : decode cX11_undo 0 = .ok (.aload_n 0, 1) := by decide +kernel
theorem dX11_undo_1 : decode cX11_undo 1 = .ok (.getfield 68, 3) := by decide +kernel
theorem dX11_undo_4 : decode cX11_undo 4 = .ok (.invokestatic 72, 3) := by decide +kernel
theorem dX11_undo_7 : decode cX11_undo 7 = .ok (.ifCond .ne 10, 3) := by decide +kernel
theorem dX11_undo_10 : decode cX11_undo 10 = .ok (.aload_n 0, 1) := by decide +kernel
theorem dX11_undo_11 : decode cX11_undo 11 = .ok (.bipush 7, 2) := by decide +kernel
theorem dX11_undo_13 : decode cX11_undo 13 = .ok (.invokevirtual 76, 3) := by decide +kernel
theorem dX11_undo_16 : decode cX11_undo 16 = .ok (.ireturn, 1) := by decide +kernel
theorem dX11_undo_17 : decode cX11_undo 17 = .ok (.aload_n 0, 1) := by decide +kernel
theorem dX11_undo_18 : decode cX11_undo 18 = .ok (.getfield 11, 3) := by decide +kernel
theorem dX11_undo_21 : decode cX11_undo 21 = .ok (.aload_n 0, 1) := by decide +kernel
theorem dX11_undo_22 : decode cX11_undo 22 = .ok (.getfield 68, 3) := by decide +kernel
theorem dX11_undo_25 : decode cX11_undo 25 = .ok (.aaload, 1) := by decide +kernel
theorem dX11_undo_26 : decode cX11_undo 26 = .ok (.aload_n 0, 1) := by decide +kernel
theorem dX11_undo_27 : decode cX11_undo 27 = .ok (.getfield 16, 3) := by decide +kernel
theorem dX11_undo_30 : decode cX11_undo 30 = .ok (.invokevirtual 140, 3) := by decide +kernel
theorem dX11_undo_33 : decode cX11_undo 33 = .ok (.aload_n 0, 1) := by decide +kernel
theorem dX11_undo_34 : decode cX11_undo 34 = .ok (.bipush (-2), 2) := by decide +kernel
theorem dX11_undo_36 : decode cX11_undo 36 = .ok (.putfield 68, 3) := by decide +kernel
theorem dX11_undo_39 : decode cX11_undo 39 = .ok (.aload_n 0, 1) := by decide +kernel
theorem dX11_undo_40 : decode cX11_undo 40 = .ok (.iconst 1, 1) := by decide +kernel
theorem dX11_undo_41 : decode cX11_undo 41 = .ok (.invokevirtual 87, 3) := by decide +kernel
theorem dX11_undo_44 : decode cX11_undo 44 = .ok (.ireturn, 1) := by decide +kernel
theorem dX11_rule_0 : decode cX11_rule 0 = .ok (.iload_n 1, 1) := by decide +kernel
theorem dX11_rule_1 : decode cX11_rule 1 = .ok (.invokestatic 144, 3) := by decide +kernel
theorem dX11_rule_4 : decode cX11_rule 4 = .ok (.ifCond .eq 12, 3) := by decide +kernel
theorem dX11_rule_7 : decode cX11_rule 7 = .ok (.iload_n 2, 1) := by decide +kernel
theorem dX11_rule_8 : decode cX11_rule 8 = .ok (.iconst 0, 1) := by decide +kernel
theorem dX11_rule_9 : decode cX11_rule 9 = .ok (.iconst 3, 1) := by decide +kernel
theorem dX11_rule_10 : decode cX11_rule 10 = .ok (.invokestatic 94, 3) := by decide +kernel
theorem dX11_rule_13 : decode cX11_rule 13 = .ok (.ifCond .ne 5, 3) := by decide +kernel
theorem dX11_rule_16 : decode cX11_rule 16 = .ok (.iconst (-1), 1) := by decide +kernel
theorem dX11_rule_17 : decode cX11_rule 17 = .ok (.ireturn, 1) := by decide +kernel
theorem dX11_rule_18 : decode cX11_rule 18 = .ok (.aload_n 0, 1) := by decide +kernel
theorem dX11_rule_19 : decode cX11_rule 19 = .ok (.getfield 28, 3) := by decide +kernel
theorem dX11_rule_22 : decode cX11_rule 22 = .ok (.iload_n 1, 1) := by decide +kernel
theorem dX11_rule_23 : decode cX11_rule 23 = .ok (.iload_n 2, 1) := by decide +kernel
theorem dX11_rule_24 : decode cX11_rule 24 = .ok (.invokestatic 147, 3) := by decide +kernel
theorem dX11_rule_27 : decode cX11_rule 27 = .ok (.aastore, 1) := by decide +kernel
theorem dX11_rule_28 : decode cX11_rule 28 = .ok (.aload_n 0, 1) := by decide +kernel
theorem dX11_rule_29 : decode cX11_rule 29 = .ok (.iconst 1, 1) := by decide +kernel
theorem dX11_rule_30 : decode cX11_rule 30 = .ok (.invokevirtual 87, 3) := by decide +kernel
theorem dX11_rule_33 : decode cX11_rule 33 = .ok (.ireturn, 1) := by decide +kernel
theorem dX11_school_0 : decode cX11_school 0 = .ok (.iload_n 1, 1) := by decide +kernel
theorem dX11_school_1 : decode cX11_school 1 = .ok (.invokestatic 144, 3) := by decide +kernel
theorem dX11_school_4 : decode cX11_school 4 = .ok (.ifCond .eq 18, 3) := by decide +kernel
theorem dX11_school_7 : decode cX11_school 7 = .ok (.iload_n 2, 1) := by decide +kernel
theorem dX11_school_8 : decode cX11_school 8 = .ok (.iconst 0, 1) := by decide +kernel
theorem dX11_school_9 : decode cX11_school 9 = .ok (.iconst 2, 1) := by decide +kernel
theorem dX11_school_10 : decode cX11_school 10 = .ok (.invokestatic 94, 3) := by decide +kernel
theorem dX11_school_13 : decode cX11_school 13 = .ok (.ifCond .eq 9, 3) := by decide +kernel
theorem dX11_school_16 : decode cX11_school 16 = .ok (.iload_n 3, 1) := by decide +kernel
theorem dX11_school_17 : decode cX11_school 17 = .ok (.bipush 8, 2) := by decide +kernel
theorem dX11_school_19 : decode cX11_school 19 = .ok (.if_icmp .le 5, 3) := by decide +kernel
theorem dX11_school_22 : decode cX11_school 22 = .ok (.iconst (-1), 1) := by decide +kernel
theorem dX11_school_23 : decode cX11_school 23 = .ok (.ireturn, 1) := by decide +kernel
theorem dX11_school_24 : decode cX11_school 24 = .ok (.iload_n 3, 1) := by decide +kernel
theorem dX11_school_25 : decode cX11_school 25 = .ok (.ifCond .ge 9, 3) := by decide +kernel
theorem dX11_school_28 : decode cX11_school 28 = .ok (.aload_n 0, 1) := by decide +kernel
theorem dX11_school_29 : decode cX11_school 29 = .ok (.iconst 5, 1) := by decide +kernel
theorem dX11_school_30 : decode cX11_school 30 = .ok (.invokevirtual 76, 3) := by decide +kernel
theorem dX11_school_33 : decode cX11_school 33 = .ok (.ireturn, 1) := by decide +kernel
theorem dX11_school_34 : decode cX11_school 34 = .ok (.aload_n 0, 1) := by decide +kernel
theorem dX11_school_35 : decode cX11_school 35 = .ok (.getfield 28, 3) := by decide +kernel
theorem dX11_school_38 : decode cX11_school 38 = .ok (.iload_n 1, 1) := by decide +kernel
theorem dX11_school_39 : decode cX11_school 39 = .ok (.new 151, 3) := by decide +kernel
theorem dX11_school_42 : decode cX11_school 42 = .ok (.dup, 1) := by decide +kernel
theorem dX11_school_43 : decode cX11_school 43 = .ok (.iload_n 2, 1) := by decide +kernel
theorem dX11_school_44 : decode cX11_school 44 = .ok (.iload_n 3, 1) := by decide +kernel
theorem dX11_school_45 : decode cX11_school 45 = .ok (.invokespecial 153, 3) := by decide +kernel
theorem dX11_school_48 : decode cX11_school 48 = .ok (.aastore, 1) := by decide +kernel
theorem dX11_school_49 : decode cX11_school 49 = .ok (.aload_n 0, 1) := by decide +kernel
theorem dX11_school_50 : decode cX11_school 50 = .ok (.iconst 1, 1) := by decide +kernel
theorem dX11_school_51 : decode cX11_school 51 = .ok (.invokevirtual 87, 3) := by decide +kernel
theorem dX11_school_54 : decode cX11_school 54 = .ok (.ireturn, 1) := by decide +kernel
theorem dX11_clear_0 : decode cX11_clear 0 = .ok (.iload_n 1, 1) := by decide +kernel
theorem dX11_clear_1 : decode cX11_clear 1 = .ok (.invokestatic 144, 3) := by decide +kernel
theorem dX11_clear_4 : decode cX11_clear 4 = .ok (.ifCond .ne 5, 3) := by decide +kernel
theorem dX11_clear_7 : decode cX11_clear 7 = .ok (.iconst (-1), 1) := by decide +kernel
theorem dX11_clear_8 : decode cX11_clear 8 = .ok (.ireturn, 1) := by decide +kernel
theorem dX11_clear_9 : decode cX11_clear 9 = .ok (.aload_n 0, 1) := by decide +kernel
theorem dX11_clear_10 : decode cX11_clear 10 = .ok (.getfield 28, 3) := by decide +kernel
theorem dX11_clear_13 : decode cX11_clear 13 = .ok (.iload_n 1, 1) := by decide +kernel
theorem dX11_clear_14 : decode cX11_clear 14 = .ok (.aaload, 1) := by decide +kernel
theorem dX11_clear_15 : decode cX11_clear 15 = .ok (.ifnull 7, 3) := by decide +kernel
theorem dX11_clear_18 : decode cX11_clear 18 = .ok (.iconst 1, 1) := by decide +kernel
theorem dX11_clear_19 : decode cX11_clear 19 = .ok (.goto 4, 3) := by decide +kernel
theorem dX11_clear_22 : decode cX11_clear 22 = .ok (.iconst 0, 1) := by decide +kernel
theorem dX11_clear_23 : decode cX11_clear 23 = .ok (.istore_n 2, 1) := by decide +kernel
theorem dX11_clear_24 : decode cX11_clear 24 = .ok (.aload_n 0, 1) := by decide +kernel
theorem dX11_clear_25 : decode cX11_clear 25 = .ok (.getfield 28, 3) := by decide +kernel
theorem dX11_clear_28 : decode cX11_clear 28 = .ok (.iload_n 1, 1) := by decide +kernel
theorem dX11_clear_29 : decode cX11_clear 29 = .ok (.aconst_null, 1) := by decide +kernel
theorem dX11_clear_30 : decode cX11_clear 30 = .ok (.aastore, 1) := by decide +kernel
theorem dX11_clear_31 : decode cX11_clear 31 = .ok (.aload_n 0, 1) := by decide +kernel
theorem dX11_clear_32 : decode cX11_clear 32 = .ok (.iload_n 2, 1) := by decide +kernel
theorem dX11_clear_33 : decode cX11_clear 33 = .ok (.invokevirtual 87, 3) := by decide +kernel
theorem dX11_clear_36 : decode cX11_clear 36 = .ok (.ireturn, 1) := by decide +kernel
theorem dX11_truth_0 : decode cX11_truth 0 = .ok (.iload_n 1, 1) := by decide +kernel
theorem dX11_truth_1 : decode cX11_truth 1 = .ok (.invokestatic 144, 3) := by decide +kernel
theorem dX11_truth_4 : decode cX11_truth 4 = .ok (.ifCond .eq 12, 3) := by decide +kernel
theorem dX11_truth_7 : decode cX11_truth 7 = .ok (.iload_n 2, 1) := by decide +kernel
theorem dX11_truth_8 : decode cX11_truth 8 = .ok (.iconst 0, 1) := by decide +kernel
theorem dX11_truth_9 : decode cX11_truth 9 = .ok (.iconst 2, 1) := by decide +kernel
theorem dX11_truth_10 : decode cX11_truth 10 = .ok (.invokestatic 94, 3) := by decide +kernel
theorem dX11_truth_13 : decode cX11_truth 13 = .ok (.ifCond .ne 5, 3) := by decide +kernel
theorem dX11_truth_16 : decode cX11_truth 16 = .ok (.iconst (-1), 1) := by decide +kernel
theorem dX11_truth_17 : decode cX11_truth 17 = .ok (.ireturn, 1) := by decide +kernel
theorem dX11_truth_18 : decode cX11_truth 18 = .ok (.aload_n 0, 1) := by decide +kernel
theorem dX11_truth_19 : decode cX11_truth 19 = .ok (.getfield 28, 3) := by decide +kernel
theorem dX11_truth_22 : decode cX11_truth 22 = .ok (.iload_n 1, 1) := by decide +kernel
theorem dX11_truth_23 : decode cX11_truth 23 = .ok (.aaload, 1) := by decide +kernel
theorem dX11_truth_24 : decode cX11_truth 24 = .ok (.astore 5, 2) := by decide +kernel
theorem dX11_truth_26 : decode cX11_truth 26 = .ok (.aload 5, 2) := by decide +kernel
theorem dX11_truth_28 : decode cX11_truth 28 = .ok (.ifnonnull 9, 3) := by decide +kernel
theorem dX11_truth_31 : decode cX11_truth 31 = .ok (.aload_n 0, 1) := by decide +kernel
theorem dX11_truth_32 : decode cX11_truth 32 = .ok (.iconst 1, 1) := by decide +kernel
theorem dX11_truth_33 : decode cX11_truth 33 = .ok (.invokevirtual 76, 3) := by decide +kernel
theorem dX11_truth_36 : decode cX11_truth 36 = .ok (.ireturn, 1) := by decide +kernel
theorem dX11_truth_37 : decode cX11_truth 37 = .ok (.aload 5, 2) := by decide +kernel
theorem dX11_truth_39 : decode cX11_truth 39 = .ok (.iload_n 2, 1) := by decide +kernel
theorem dX11_truth_40 : decode cX11_truth 40 = .ok (.invokestatic 156, 3) := by decide +kernel
theorem dX11_truth_43 : decode cX11_truth 43 = .ok (.ifCond .eq 11, 3) := by decide +kernel
theorem dX11_truth_46 : decode cX11_truth 46 = .ok (.aload 5, 2) := by decide +kernel
theorem dX11_truth_48 : decode cX11_truth 48 = .ok (.instanceof 59, 3) := by decide +kernel
theorem dX11_truth_51 : decode cX11_truth 51 = .ok (.ifCond .ne 9, 3) := by decide +kernel
theorem dX11_truth_54 : decode cX11_truth 54 = .ok (.aload_n 0, 1) := by decide +kernel
theorem dX11_truth_55 : decode cX11_truth 55 = .ok (.iconst 3, 1) := by decide +kernel
theorem dX11_truth_56 : decode cX11_truth 56 = .ok (.invokevirtual 76, 3) := by decide +kernel
theorem dX11_truth_59 : decode cX11_truth 59 = .ok (.ireturn, 1) := by decide +kernel
theorem dX11_truth_60 : decode cX11_truth 60 = .ok (.iload_n 3, 1) := by decide +kernel
theorem dX11_truth_61 : decode cX11_truth 61 = .ok (.iconst 0, 1) := by decide +kernel
theorem dX11_truth_62 : decode cX11_truth 62 = .ok (.getstatic 160, 3) := by decide +kernel
theorem dX11_truth_65 : decode cX11_truth 65 = .ok (.iload_n 2, 1) := by decide +kernel
theorem dX11_truth_66 : decode cX11_truth 66 = .ok (.iaload, 1) := by decide +kernel
theorem dX11_truth_67 : decode cX11_truth 67 = .ok (.iconst 1, 1) := by decide +kernel
theorem dX11_truth_68 : decode cX11_truth 68 = .ok (.isub, 1) := by decide +kernel
theorem dX11_truth_69 : decode cX11_truth 69 = .ok (.invokestatic 94, 3) := by decide +kernel
theorem dX11_truth_72 : decode cX11_truth 72 = .ok (.ifCond .ne 9, 3) := by decide +kernel
theorem dX11_truth_75 : decode cX11_truth 75 = .ok (.aload_n 0, 1) := by decide +kernel
theorem dX11_truth_76 : decode cX11_truth 76 = .ok (.iconst 2, 1) := by decide +kernel
theorem dX11_truth_77 : decode cX11_truth 77 = .ok (.invokevirtual 76, 3) := by decide +kernel
theorem dX11_truth_80 : decode cX11_truth 80 = .ok (.ireturn, 1) := by decide +kernel
theorem dX11_truth_81 : decode cX11_truth 81 = .ok (.aload 5, 2) := by decide +kernel
theorem dX11_truth_83 : decode cX11_truth 83 = .ok (.checkcast 59, 3) := by decide +kernel
theorem dX11_truth_86 : decode cX11_truth 86 = .ok (.astore 6, 2) := by decide +kernel
theorem dX11_truth_88 : decode cX11_truth 88 = .ok (.aload 6, 2) := by decide +kernel
theorem dX11_truth_90 : decode cX11_truth 90 = .ok (.iload_n 2, 1) := by decide +kernel
theorem dX11_truth_91 : decode cX11_truth 91 = .ok (.iload_n 3, 1) := by decide +kernel
theorem dX11_truth_92 : decode cX11_truth 92 = .ok (.invokevirtual 163, 3) := by decide +kernel
theorem dX11_truth_95 : decode cX11_truth 95 = .ok (.ifCond .eq 7, 3) := by decide +kernel
theorem dX11_truth_98 : decode cX11_truth 98 = .ok (.iconst 1, 1) := by decide +kernel
theorem dX11_truth_99 : decode cX11_truth 99 = .ok (.goto 4, 3) := by decide +kernel
theorem dX11_truth_102 : decode cX11_truth 102 = .ok (.iconst 0, 1) := by decide +kernel
theorem dX11_truth_103 : decode cX11_truth 103 = .ok (.istore 7, 2) := by decide +kernel
theorem dX11_truth_105 : decode cX11_truth 105 = .ok (.aload 6, 2) := by decide +kernel
theorem dX11_truth_107 : decode cX11_truth 107 = .ok (.iload_n 2, 1) := by decide +kernel
theorem dX11_truth_108 : decode cX11_truth 108 = .ok (.iload_n 3, 1) := by decide +kernel
theorem dX11_truth_109 : decode cX11_truth 109 = .ok (.iload 4, 2) := by decide +kernel
theorem dX11_truth_111 : decode cX11_truth 111 = .ok (.invokevirtual 166, 3) := by decide +kernel
theorem dX11_truth_114 : decode cX11_truth 114 = .ok (.aload_n 0, 1) := by decide +kernel
theorem dX11_truth_115 : decode cX11_truth 115 = .ok (.iload 7, 2) := by decide +kernel
theorem dX11_truth_117 : decode cX11_truth 117 = .ok (.invokevirtual 87, 3) := by decide +kernel
theorem dX11_truth_120 : decode cX11_truth 120 = .ok (.ireturn, 1) := by decide +kernel
theorem dX11_is_0 : decode cX11_is 0 = .ok (.iload_n 1, 1) := by decide +kernel
theorem dX11_is_1 : decode cX11_is 1 = .ok (.invokestatic 144, 3) := by decide +kernel
theorem dX11_is_4 : decode cX11_is 4 = .ok (.ifCond .eq 12, 3) := by decide +kernel
theorem dX11_is_7 : decode cX11_is 7 = .ok (.iload_n 2, 1) := by decide +kernel
theorem dX11_is_8 : decode cX11_is 8 = .ok (.iconst 0, 1) := by decide +kernel
theorem dX11_is_9 : decode cX11_is 9 = .ok (.iconst 4, 1) := by decide +kernel
theorem dX11_is_10 : decode cX11_is 10 = .ok (.invokestatic 94, 3) := by decide +kernel
theorem dX11_is_13 : decode cX11_is 13 = .ok (.ifCond .ne 5, 3) := by decide +kernel
theorem dX11_is_16 : decode cX11_is 16 = .ok (.iconst (-1), 1) := by decide +kernel
theorem dX11_is_17 : decode cX11_is 17 = .ok (.ireturn, 1) := by decide +kernel
theorem dX11_is_18 : decode cX11_is 18 = .ok (.aload_n 0, 1) := by decide +kernel
theorem dX11_is_19 : decode cX11_is 19 = .ok (.aload_n 0, 1) := by decide +kernel
theorem dX11_is_20 : decode cX11_is 20 = .ok (.getfield 28, 3) := by decide +kernel
theorem dX11_is_23 : decode cX11_is 23 = .ok (.iload_n 1, 1) := by decide +kernel
theorem dX11_is_24 : decode cX11_is 24 = .ok (.aaload, 1) := by decide +kernel
theorem dX11_is_25 : decode cX11_is 25 = .ok (.iload_n 2, 1) := by decide +kernel
theorem dX11_is_26 : decode cX11_is 26 = .ok (.invokestatic 156, 3) := by decide +kernel
theorem dX11_is_29 : decode cX11_is 29 = .ok (.ifCond .eq 7, 3) := by decide +kernel
theorem dX11_is_32 : decode cX11_is 32 = .ok (.iconst 1, 1) := by decide +kernel
theorem dX11_is_33 : decode cX11_is 33 = .ok (.goto 4, 3) := by decide +kernel
theorem dX11_is_36 : decode cX11_is 36 = .ok (.iconst 0, 1) := by decide +kernel
theorem dX11_is_37 : decode cX11_is 37 = .ok (.invokevirtual 87, 3) := by decide +kernel
theorem dX11_is_40 : decode cX11_is 40 = .ok (.ireturn, 1) := by decide +kernel
theorem dX11_seat_0 : decode cX11_seat 0 = .ok (.iload_n 1, 1) := by decide +kernel
theorem dX11_seat_1 : decode cX11_seat 1 = .ok (.invokestatic 144, 3) := by decide +kernel
theorem dX11_seat_4 : decode cX11_seat 4 = .ok (.ifCond .eq 10, 3) := by decide +kernel
theorem dX11_seat_7 : decode cX11_seat 7 = .ok (.iload_n 3, 1) := by decide +kernel
theorem dX11_seat_8 : decode cX11_seat 8 = .ok (.invokestatic 144, 3) := by decide +kernel
theorem dX11_seat_11 : decode cX11_seat 11 = .ok (.ifCond .ne 5, 3) := by decide +kernel
theorem dX11_seat_14 : decode cX11_seat 14 = .ok (.iconst (-1), 1) := by decide +kernel
theorem dX11_seat_15 : decode cX11_seat 15 = .ok (.ireturn, 1) := by decide +kernel
theorem dX11_seat_16 : decode cX11_seat 16 = .ok (.aload_n 0, 1) := by decide +kernel
theorem dX11_seat_17 : decode cX11_seat 17 = .ok (.getfield 28, 3) := by decide +kernel
theorem dX11_seat_20 : decode cX11_seat 20 = .ok (.iload_n 1, 1) := by decide +kernel
theorem dX11_seat_21 : decode cX11_seat 21 = .ok (.aaload, 1) := by decide +kernel
theorem dX11_seat_22 : decode cX11_seat 22 = .ok (.astore 4, 2) := by decide +kernel
theorem dX11_seat_24 : decode cX11_seat 24 = .ok (.aload_n 0, 1) := by decide +kernel
theorem dX11_seat_25 : decode cX11_seat 25 = .ok (.getfield 28, 3) := by decide +kernel
theorem dX11_seat_28 : decode cX11_seat 28 = .ok (.iload_n 3, 1) := by decide +kernel
theorem dX11_seat_29 : decode cX11_seat 29 = .ok (.aaload, 1) := by decide +kernel
theorem dX11_seat_30 : decode cX11_seat 30 = .ok (.astore 5, 2) := by decide +kernel
theorem dX11_seat_32 : decode cX11_seat 32 = .ok (.aload 4, 2) := by decide +kernel
theorem dX11_seat_34 : decode cX11_seat 34 = .ok (.instanceof 59, 3) := by decide +kernel
theorem dX11_seat_37 : decode cX11_seat 37 = .ok (.ifCond .ne 11, 3) := by decide +kernel
theorem dX11_seat_40 : decode cX11_seat 40 = .ok (.aload 5, 2) := by decide +kernel
theorem dX11_seat_42 : decode cX11_seat 42 = .ok (.instanceof 151, 3) := by decide +kernel
theorem dX11_seat_45 : decode cX11_seat 45 = .ok (.ifCond .eq 9, 3) := by decide +kernel
theorem dX11_seat_48 : decode cX11_seat 48 = .ok (.aload_n 0, 1) := by decide +kernel
theorem dX11_seat_49 : decode cX11_seat 49 = .ok (.iconst 3, 1) := by decide +kernel
theorem dX11_seat_50 : decode cX11_seat 50 = .ok (.invokevirtual 76, 3) := by decide +kernel
theorem dX11_seat_53 : decode cX11_seat 53 = .ok (.ireturn, 1) := by decide +kernel
theorem dX11_seat_54 : decode cX11_seat 54 = .ok (.aload 4, 2) := by decide +kernel
theorem dX11_seat_56 : decode cX11_seat 56 = .ok (.instanceof 151, 3) := by decide +kernel
theorem dX11_seat_59 : decode cX11_seat 59 = .ok (.ifCond .ne 9, 3) := by decide +kernel
theorem dX11_seat_62 : decode cX11_seat 62 = .ok (.aload_n 0, 1) := by decide +kernel
theorem dX11_seat_63 : decode cX11_seat 63 = .ok (.iconst 1, 1) := by decide +kernel
theorem dX11_seat_64 : decode cX11_seat 64 = .ok (.invokevirtual 76, 3) := by decide +kernel
theorem dX11_seat_67 : decode cX11_seat 67 = .ok (.ireturn, 1) := by decide +kernel
theorem dX11_seat_68 : decode cX11_seat 68 = .ok (.aload 4, 2) := by decide +kernel
theorem dX11_seat_70 : decode cX11_seat 70 = .ok (.checkcast 151, 3) := by decide +kernel
theorem dX11_seat_73 : decode cX11_seat 73 = .ok (.astore 6, 2) := by decide +kernel
theorem dX11_seat_75 : decode cX11_seat 75 = .ok (.iload_n 2, 1) := by decide +kernel
theorem dX11_seat_76 : decode cX11_seat 76 = .ok (.iconst 0, 1) := by decide +kernel
theorem dX11_seat_77 : decode cX11_seat 77 = .ok (.aload 6, 2) := by decide +kernel
theorem dX11_seat_79 : decode cX11_seat 79 = .ok (.getfield 170, 3) := by decide +kernel
theorem dX11_seat_82 : decode cX11_seat 82 = .ok (.arraylength, 1) := by decide +kernel
theorem dX11_seat_83 : decode cX11_seat 83 = .ok (.iconst 1, 1) := by decide +kernel
theorem dX11_seat_84 : decode cX11_seat 84 = .ok (.isub, 1) := by decide +kernel
theorem dX11_seat_85 : decode cX11_seat 85 = .ok (.invokestatic 94, 3) := by decide +kernel
theorem dX11_seat_88 : decode cX11_seat 88 = .ok (.ifCond .ne 9, 3) := by decide +kernel
theorem dX11_seat_91 : decode cX11_seat 91 = .ok (.aload_n 0, 1) := by decide +kernel
theorem dX11_seat_92 : decode cX11_seat 92 = .ok (.iconst 2, 1) := by decide +kernel
theorem dX11_seat_93 : decode cX11_seat 93 = .ok (.invokevirtual 76, 3) := by decide +kernel
theorem dX11_seat_96 : decode cX11_seat 96 = .ok (.ireturn, 1) := by decide +kernel
theorem dX11_seat_97 : decode cX11_seat 97 = .ok (.aload 5, 2) := by decide +kernel
theorem dX11_seat_99 : decode cX11_seat 99 = .ok (.ifnull 19, 3) := by decide +kernel
theorem dX11_seat_102 : decode cX11_seat 102 = .ok (.aload 6, 2) := by decide +kernel
theorem dX11_seat_104 : decode cX11_seat 104 = .ok (.aload 5, 2) := by decide +kernel
theorem dX11_seat_106 : decode cX11_seat 106 = .ok (.invokevirtual 173, 3) := by decide +kernel
theorem dX11_seat_109 : decode cX11_seat 109 = .ok (.ifCond .ne 9, 3) := by decide +kernel
theorem dX11_seat_112 : decode cX11_seat 112 = .ok (.aload_n 0, 1) := by decide +kernel
theorem dX11_seat_113 : decode cX11_seat 113 = .ok (.iconst 4, 1) := by decide +kernel
theorem dX11_seat_114 : decode cX11_seat 114 = .ok (.invokevirtual 76, 3) := by decide +kernel
theorem dX11_seat_117 : decode cX11_seat 117 = .ok (.ireturn, 1) := by decide +kernel
theorem dX11_seat_118 : decode cX11_seat 118 = .ok (.aload 6, 2) := by decide +kernel
theorem dX11_seat_120 : decode cX11_seat 120 = .ok (.getfield 170, 3) := by decide +kernel
theorem dX11_seat_123 : decode cX11_seat 123 = .ok (.iload_n 2, 1) := by decide +kernel
theorem dX11_seat_124 : decode cX11_seat 124 = .ok (.aload 5, 2) := by decide +kernel
theorem dX11_seat_126 : decode cX11_seat 126 = .ok (.instanceof 59, 3) := by decide +kernel
theorem dX11_seat_129 : decode cX11_seat 129 = .ok (.ifCond .eq 11, 3) := by decide +kernel
theorem dX11_seat_132 : decode cX11_seat 132 = .ok (.aload 5, 2) := by decide +kernel
theorem dX11_seat_134 : decode cX11_seat 134 = .ok (.checkcast 59, 3) := by decide +kernel
theorem dX11_seat_137 : decode cX11_seat 137 = .ok (.goto 4, 3) := by decide +kernel
theorem dX11_seat_140 : decode cX11_seat 140 = .ok (.aconst_null, 1) := by decide +kernel
theorem dX11_seat_141 : decode cX11_seat 141 = .ok (.aastore, 1) := by decide +kernel
theorem dX11_seat_142 : decode cX11_seat 142 = .ok (.aload_n 0, 1) := by decide +kernel
theorem dX11_seat_143 : decode cX11_seat 143 = .ok (.iconst 1, 1) := by decide +kernel
theorem dX11_seat_144 : decode cX11_seat 144 = .ok (.invokevirtual 87, 3) := by decide +kernel
theorem dX11_seat_147 : decode cX11_seat 147 = .ok (.ireturn, 1) := by decide +kernel
theorem dX11_seated_0 : decode cX11_seated 0 = .ok (.iload_n 1, 1) := by decide +kernel
theorem dX11_seated_1 : decode cX11_seated 1 = .ok (.invokestatic 144, 3) := by decide +kernel
theorem dX11_seated_4 : decode cX11_seated 4 = .ok (.ifCond .ne 5, 3) := by decide +kernel
theorem dX11_seated_7 : decode cX11_seated 7 = .ok (.iconst (-1), 1) := by decide +kernel
theorem dX11_seated_8 : decode cX11_seated 8 = .ok (.ireturn, 1) := by decide +kernel
theorem dX11_seated_9 : decode cX11_seated 9 = .ok (.aload_n 0, 1) := by decide +kernel
theorem dX11_seated_10 : decode cX11_seated 10 = .ok (.getfield 28, 3) := by decide +kernel
theorem dX11_seated_13 : decode cX11_seated 13 = .ok (.iload_n 1, 1) := by decide +kernel
theorem dX11_seated_14 : decode cX11_seated 14 = .ok (.aaload, 1) := by decide +kernel
theorem dX11_seated_15 : decode cX11_seated 15 = .ok (.ifnonnull 9, 3) := by decide +kernel
theorem dX11_seated_18 : decode cX11_seated 18 = .ok (.aload_n 0, 1) := by decide +kernel
theorem dX11_seated_19 : decode cX11_seated 19 = .ok (.iconst 1, 1) := by decide +kernel
theorem dX11_seated_20 : decode cX11_seated 20 = .ok (.invokevirtual 76, 3) := by decide +kernel
theorem dX11_seated_23 : decode cX11_seated 23 = .ok (.ireturn, 1) := by decide +kernel
theorem dX11_seated_24 : decode cX11_seated 24 = .ok (.aload_n 0, 1) := by decide +kernel
theorem dX11_seated_25 : decode cX11_seated 25 = .ok (.getfield 28, 3) := by decide +kernel
theorem dX11_seated_28 : decode cX11_seated 28 = .ok (.iload_n 1, 1) := by decide +kernel
theorem dX11_seated_29 : decode cX11_seated 29 = .ok (.aaload, 1) := by decide +kernel
theorem dX11_seated_30 : decode cX11_seated 30 = .ok (.instanceof 151, 3) := by decide +kernel
theorem dX11_seated_33 : decode cX11_seated 33 = .ok (.ifCond .ne 9, 3) := by decide +kernel
theorem dX11_seated_36 : decode cX11_seated 36 = .ok (.aload_n 0, 1) := by decide +kernel
theorem dX11_seated_37 : decode cX11_seated 37 = .ok (.iconst 3, 1) := by decide +kernel
theorem dX11_seated_38 : decode cX11_seated 38 = .ok (.invokevirtual 76, 3) := by decide +kernel
theorem dX11_seated_41 : decode cX11_seated 41 = .ok (.ireturn, 1) := by decide +kernel
theorem dX11_seated_42 : decode cX11_seated 42 = .ok (.aload_n 0, 1) := by decide +kernel
theorem dX11_seated_43 : decode cX11_seated 43 = .ok (.getfield 28, 3) := by decide +kernel
theorem dX11_seated_46 : decode cX11_seated 46 = .ok (.iload_n 1, 1) := by decide +kernel
theorem dX11_seated_47 : decode cX11_seated 47 = .ok (.aaload, 1) := by decide +kernel
theorem dX11_seated_48 : decode cX11_seated 48 = .ok (.checkcast 151, 3) := by decide +kernel
theorem dX11_seated_51 : decode cX11_seated 51 = .ok (.astore_n 3, 1) := by decide +kernel
theorem dX11_seated_52 : decode cX11_seated 52 = .ok (.iload_n 2, 1) := by decide +kernel
theorem dX11_seated_53 : decode cX11_seated 53 = .ok (.iconst 0, 1) := by decide +kernel
theorem dX11_seated_54 : decode cX11_seated 54 = .ok (.aload_n 3, 1) := by decide +kernel
theorem dX11_seated_55 : decode cX11_seated 55 = .ok (.getfield 170, 3) := by decide +kernel
theorem dX11_seated_58 : decode cX11_seated 58 = .ok (.arraylength, 1) := by decide +kernel
theorem dX11_seated_59 : decode cX11_seated 59 = .ok (.iconst 1, 1) := by decide +kernel
theorem dX11_seated_60 : decode cX11_seated 60 = .ok (.isub, 1) := by decide +kernel
theorem dX11_seated_61 : decode cX11_seated 61 = .ok (.invokestatic 94, 3) := by decide +kernel
theorem dX11_seated_64 : decode cX11_seated 64 = .ok (.ifCond .ne 9, 3) := by decide +kernel
theorem dX11_seated_67 : decode cX11_seated 67 = .ok (.aload_n 0, 1) := by decide +kernel
theorem dX11_seated_68 : decode cX11_seated 68 = .ok (.iconst 2, 1) := by decide +kernel
theorem dX11_seated_69 : decode cX11_seated 69 = .ok (.invokevirtual 76, 3) := by decide +kernel
theorem dX11_seated_72 : decode cX11_seated 72 = .ok (.ireturn, 1) := by decide +kernel
theorem dX11_seated_73 : decode cX11_seated 73 = .ok (.aload_n 3, 1) := by decide +kernel
theorem dX11_seated_74 : decode cX11_seated 74 = .ok (.getfield 170, 3) := by decide +kernel
theorem dX11_seated_77 : decode cX11_seated 77 = .ok (.iload_n 2, 1) := by decide +kernel
theorem dX11_seated_78 : decode cX11_seated 78 = .ok (.aaload, 1) := by decide +kernel
theorem dX11_seated_79 : decode cX11_seated 79 = .ok (.astore 4, 2) := by decide +kernel
theorem dX11_seated_81 : decode cX11_seated 81 = .ok (.aload_n 0, 1) := by decide +kernel
theorem dX11_seated_82 : decode cX11_seated 82 = .ok (.aload 4, 2) := by decide +kernel
theorem dX11_seated_84 : decode cX11_seated 84 = .ok (.ifnonnull 8, 3) := by decide +kernel
theorem dX11_seated_87 : decode cX11_seated 87 = .ok (.bipush (-2), 2) := by decide +kernel
theorem dX11_seated_89 : decode cX11_seated 89 = .ok (.goto 8, 3) := by decide +kernel
theorem dX11_seated_92 : decode cX11_seated 92 = .ok (.aload 4, 2) := by decide +kernel
theorem dX11_seated_94 : decode cX11_seated 94 = .ok (.invokevirtual 177, 3) := by decide +kernel
theorem dX11_seated_97 : decode cX11_seated 97 = .ok (.invokevirtual 87, 3) := by decide +kernel
theorem dX11_seated_100 : decode cX11_seated 100 = .ok (.ireturn, 1) := by decide +kernel
theorem dX11_strong_0 : decode cX11_strong 0 = .ok (.iload_n 1, 1) := by decide +kernel
theorem dX11_strong_1 : decode cX11_strong 1 = .ok (.iconst 1, 1) := by decide +kernel
theorem dX11_strong_2 : decode cX11_strong 2 = .ok (.bipush 16, 2) := by decide +kernel
theorem dX11_strong_4 : decode cX11_strong 4 = .ok (.invokestatic 94, 3) := by decide +kernel
theorem dX11_strong_7 : decode cX11_strong 7 = .ok (.ifCond .ne 5, 3) := by decide +kernel
theorem dX11_strong_10 : decode cX11_strong 10 = .ok (.iconst (-1), 1) := by decide +kernel
theorem dX11_strong_11 : decode cX11_strong 11 = .ok (.ireturn, 1) := by decide +kernel
theorem dX11_strong_12 : decode cX11_strong 12 = .ok (.aload_n 0, 1) := by decide +kernel
theorem dX11_strong_13 : decode cX11_strong 13 = .ok (.getfield 35, 3) := by decide +kernel
theorem dX11_strong_16 : decode cX11_strong 16 = .ok (.getfield 181, 3) := by decide +kernel
theorem dX11_strong_19 : decode cX11_strong 19 = .ok (.istore_n 2, 1) := by decide +kernel
theorem dX11_strong_20 : decode cX11_strong 20 = .ok (.aload_n 0, 1) := by decide +kernel
theorem dX11_strong_21 : decode cX11_strong 21 = .ok (.getfield 35, 3) := by decide +kernel
theorem dX11_strong_24 : decode cX11_strong 24 = .ok (.iload_n 1, 1) := by decide +kernel
theorem dX11_strong_25 : decode cX11_strong 25 = .ok (.putfield 181, 3) := by decide +kernel
theorem dX11_strong_28 : decode cX11_strong 28 = .ok (.aload_n 0, 1) := by decide +kernel
theorem dX11_strong_29 : decode cX11_strong 29 = .ok (.iload_n 2, 1) := by decide +kernel
theorem dX11_strong_30 : decode cX11_strong 30 = .ok (.invokevirtual 87, 3) := by decide +kernel
theorem dX11_strong_33 : decode cX11_strong 33 = .ok (.ireturn, 1) := by decide +kernel
theorem dX11_key_0 : decode cX11_key 0 = .ok (.iload_n 1, 1) := by decide +kernel
theorem dX11_key_1 : decode cX11_key 1 = .ok (.iconst 0, 1) := by decide +kernel
theorem dX11_key_2 : decode cX11_key 2 = .ok (.sipush 4095, 3) := by decide +kernel
theorem dX11_key_5 : decode cX11_key 5 = .ok (.invokestatic 94, 3) := by decide +kernel
theorem dX11_key_8 : decode cX11_key 8 = .ok (.ifCond .ne 5, 3) := by decide +kernel
theorem dX11_key_11 : decode cX11_key 11 = .ok (.iconst (-1), 1) := by decide +kernel
theorem dX11_key_12 : decode cX11_key 12 = .ok (.ireturn, 1) := by decide +kernel
theorem dX11_key_13 : decode cX11_key 13 = .ok (.aload_n 0, 1) := by decide +kernel
theorem dX11_key_14 : decode cX11_key 14 = .ok (.getfield 44, 3) := by decide +kernel
theorem dX11_key_17 : decode cX11_key 17 = .ok (.getfield 184, 3) := by decide +kernel
theorem dX11_key_20 : decode cX11_key 20 = .ok (.istore_n 2, 1) := by decide +kernel
theorem dX11_key_21 : decode cX11_key 21 = .ok (.aload_n 0, 1) := by decide +kernel
theorem dX11_key_22 : decode cX11_key 22 = .ok (.getfield 44, 3) := by decide +kernel
theorem dX11_key_25 : decode cX11_key 25 = .ok (.iload_n 1, 1) := by decide +kernel
theorem dX11_key_26 : decode cX11_key 26 = .ok (.putfield 184, 3) := by decide +kernel
theorem dX11_key_29 : decode cX11_key 29 = .ok (.aload_n 0, 1) := by decide +kernel
theorem dX11_key_30 : decode cX11_key 30 = .ok (.iload_n 2, 1) := by decide +kernel
theorem dX11_key_31 : decode cX11_key 31 = .ok (.invokevirtual 87, 3) := by decide +kernel
theorem dX11_key_34 : decode cX11_key 34 = .ok (.ireturn, 1) := by decide +kernel
theorem dX11_weight_0 : decode cX11_weight 0 = .ok (.iload_n 1, 1) := by decide +kernel
theorem dX11_weight_1 : decode cX11_weight 1 = .ok (.iconst 0, 1) := by decide +kernel
theorem dX11_weight_2 : decode cX11_weight 2 = .ok (.aload_n 0, 1) := by decide +kernel
theorem dX11_weight_3 : decode cX11_weight 3 = .ok (.getfield 44, 3) := by decide +kernel
theorem dX11_weight_6 : decode cX11_weight 6 = .ok (.getfield 187, 3) := by decide +kernel
theorem dX11_weight_9 : decode cX11_weight 9 = .ok (.arraylength, 1) := by decide +kernel
theorem dX11_weight_10 : decode cX11_weight 10 = .ok (.iconst 1, 1) := by decide +kernel
theorem dX11_weight_11 : decode cX11_weight 11 = .ok (.isub, 1) := by decide +kernel
theorem dX11_weight_12 : decode cX11_weight 12 = .ok (.invokestatic 94, 3) := by decide +kernel
theorem dX11_weight_15 : decode cX11_weight 15 = .ok (.ifCond .eq 13, 3) := by decide +kernel
theorem dX11_weight_18 : decode cX11_weight 18 = .ok (.iload_n 2, 1) := by decide +kernel
theorem dX11_weight_19 : decode cX11_weight 19 = .ok (.iconst 0, 1) := by decide +kernel
theorem dX11_weight_20 : decode cX11_weight 20 = .ok (.bipush 9, 2) := by decide +kernel
theorem dX11_weight_22 : decode cX11_weight 22 = .ok (.invokestatic 94, 3) := by decide +kernel
theorem dX11_weight_25 : decode cX11_weight 25 = .ok (.ifCond .ne 5, 3) := by decide +kernel
theorem dX11_weight_28 : decode cX11_weight 28 = .ok (.iconst (-1), 1) := by decide +kernel
theorem dX11_weight_29 : decode cX11_weight 29 = .ok (.ireturn, 1) := by decide +kernel
theorem dX11_weight_30 : decode cX11_weight 30 = .ok (.aload_n 0, 1) := by decide +kernel
theorem dX11_weight_31 : decode cX11_weight 31 = .ok (.getfield 44, 3) := by decide +kernel
theorem dX11_weight_34 : decode cX11_weight 34 = .ok (.getfield 187, 3) := by decide +kernel
theorem dX11_weight_37 : decode cX11_weight 37 = .ok (.iload_n 1, 1) := by decide +kernel
theorem dX11_weight_38 : decode cX11_weight 38 = .ok (.iaload, 1) := by decide +kernel
theorem dX11_weight_39 : decode cX11_weight 39 = .ok (.istore_n 3, 1) := by decide +kernel
theorem dX11_weight_40 : decode cX11_weight 40 = .ok (.aload_n 0, 1) := by decide +kernel
theorem dX11_weight_41 : decode cX11_weight 41 = .ok (.getfield 44, 3) := by decide +kernel
theorem dX11_weight_44 : decode cX11_weight 44 = .ok (.getfield 187, 3) := by decide +kernel
theorem dX11_weight_47 : decode cX11_weight 47 = .ok (.iload_n 1, 1) := by decide +kernel
theorem dX11_weight_48 : decode cX11_weight 48 = .ok (.iload_n 2, 1) := by decide +kernel
theorem dX11_weight_49 : decode cX11_weight 49 = .ok (.iastore, 1) := by decide +kernel
theorem dX11_weight_50 : decode cX11_weight 50 = .ok (.aload_n 0, 1) := by decide +kernel
theorem dX11_weight_51 : decode cX11_weight 51 = .ok (.iload_n 3, 1) := by decide +kernel
theorem dX11_weight_52 : decode cX11_weight 52 = .ok (.invokevirtual 87, 3) := by decide +kernel
theorem dX11_weight_55 : decode cX11_weight 55 = .ok (.ireturn, 1) := by decide +kernel
theorem dX11_faults_0 : decode cX11_faults 0 = .ok (.iload_n 1, 1) := by decide +kernel
theorem dX11_faults_1 : decode cX11_faults 1 = .ok (.invokestatic 144, 3) := by decide +kernel
theorem dX11_faults_4 : decode cX11_faults 4 = .ok (.ifCond .ne 5, 3) := by decide +kernel
theorem dX11_faults_7 : decode cX11_faults 7 = .ok (.iconst (-1), 1) := by decide +kernel
theorem dX11_faults_8 : decode cX11_faults 8 = .ok (.ireturn, 1) := by decide +kernel
theorem dX11_faults_9 : decode cX11_faults 9 = .ok (.aload_n 0, 1) := by decide +kernel
theorem dX11_faults_10 : decode cX11_faults 10 = .ok (.getfield 35, 3) := by decide +kernel
theorem dX11_faults_13 : decode cX11_faults 13 = .ok (.invokevirtual 190, 3) := by decide +kernel
theorem dX11_faults_16 : decode cX11_faults 16 = .ok (.iconst 0, 1) := by decide +kernel
theorem dX11_faults_17 : decode cX11_faults 17 = .ok (.istore_n 2, 1) := by decide +kernel
theorem dX11_faults_18 : decode cX11_faults 18 = .ok (.iconst 0, 1) := by decide +kernel
theorem dX11_faults_19 : decode cX11_faults 19 = .ok (.istore_n 3, 1) := by decide +kernel
theorem dX11_faults_20 : decode cX11_faults 20 = .ok (.iload_n 3, 1) := by decide +kernel
theorem dX11_faults_21 : decode cX11_faults 21 = .ok (.bipush 6, 2) := by decide +kernel
theorem dX11_faults_23 : decode cX11_faults 23 = .ok (.if_icmp .ge 56, 3) := by decide +kernel
theorem dX11_faults_26 : decode cX11_faults 26 = .ok (.aload_n 0, 1) := by decide +kernel
theorem dX11_faults_27 : decode cX11_faults 27 = .ok (.getfield 11, 3) := by decide +kernel
theorem dX11_faults_30 : decode cX11_faults 30 = .ok (.iload_n 3, 1) := by decide +kernel
theorem dX11_faults_31 : decode cX11_faults 31 = .ok (.aaload, 1) := by decide +kernel
theorem dX11_faults_32 : decode cX11_faults 32 = .ok (.invokestatic 112, 3) := by decide +kernel
theorem dX11_faults_35 : decode cX11_faults 35 = .ok (.istore 4, 2) := by decide +kernel
theorem dX11_faults_37 : decode cX11_faults 37 = .ok (.iload 4, 2) := by decide +kernel
theorem dX11_faults_39 : decode cX11_faults 39 = .ok (.iconst 2, 1) := by decide +kernel
theorem dX11_faults_40 : decode cX11_faults 40 = .ok (.if_icmp .ne 10, 3) := by decide +kernel
theorem dX11_faults_43 : decode cX11_faults 43 = .ok (.aload_n 0, 1) := by decide +kernel
theorem dX11_faults_44 : decode cX11_faults 44 = .ok (.iload 4, 2) := by decide +kernel
theorem dX11_faults_46 : decode cX11_faults 46 = .ok (.invokevirtual 76, 3) := by decide +kernel
theorem dX11_faults_49 : decode cX11_faults 49 = .ok (.ireturn, 1) := by decide +kernel
theorem dX11_faults_50 : decode cX11_faults 50 = .ok (.iload_n 2, 1) := by decide +kernel
theorem dX11_faults_51 : decode cX11_faults 51 = .ok (.iload 4, 2) := by decide +kernel
theorem dX11_faults_53 : decode cX11_faults 53 = .ok (.ifCond .ne 15, 3) := by decide +kernel
theorem dX11_faults_56 : decode cX11_faults 56 = .ok (.aload_n 0, 1) := by decide +kernel
theorem dX11_faults_57 : decode cX11_faults 57 = .ok (.getfield 11, 3) := by decide +kernel
theorem dX11_faults_60 : decode cX11_faults 60 = .ok (.iload_n 3, 1) := by decide +kernel
theorem dX11_faults_61 : decode cX11_faults 61 = .ok (.aaload, 1) := by decide +kernel
theorem dX11_faults_62 : decode cX11_faults 62 = .ok (.getfield 116, 3) := by decide +kernel
theorem dX11_faults_65 : decode cX11_faults 65 = .ok (.goto 4, 3) := by decide +kernel
theorem dX11_faults_68 : decode cX11_faults 68 = .ok (.iconst 0, 1) := by decide +kernel
theorem dX11_faults_69 : decode cX11_faults 69 = .ok (.invokestatic 193, 3) := by decide +kernel
theorem dX11_faults_72 : decode cX11_faults 72 = .ok (.istore_n 2, 1) := by decide +kernel
theorem dX11_faults_73 : decode cX11_faults 73 = .ok (.iinc 3 1, 3) := by decide +kernel
theorem dX11_faults_76 : decode cX11_faults 76 = .ok (.goto (-56), 3) := by decide +kernel
theorem dX11_faults_79 : decode cX11_faults 79 = .ok (.aload_n 0, 1) := by decide +kernel
theorem dX11_faults_80 : decode cX11_faults 80 = .ok (.getfield 28, 3) := by decide +kernel
theorem dX11_faults_83 : decode cX11_faults 83 = .ok (.iload_n 1, 1) := by decide +kernel
theorem dX11_faults_84 : decode cX11_faults 84 = .ok (.aaload, 1) := by decide +kernel
theorem dX11_faults_85 : decode cX11_faults 85 = .ok (.astore_n 3, 1) := by decide +kernel
theorem dX11_faults_86 : decode cX11_faults 86 = .ok (.aload_n 3, 1) := by decide +kernel
theorem dX11_faults_87 : decode cX11_faults 87 = .ok (.ifnonnull 9, 3) := by decide +kernel
theorem dX11_faults_90 : decode cX11_faults 90 = .ok (.aload_n 0, 1) := by decide +kernel
theorem dX11_faults_91 : decode cX11_faults 91 = .ok (.iconst 1, 1) := by decide +kernel
theorem dX11_faults_92 : decode cX11_faults 92 = .ok (.invokevirtual 76, 3) := by decide +kernel
theorem dX11_faults_95 : decode cX11_faults 95 = .ok (.ireturn, 1) := by decide +kernel
theorem dX11_faults_96 : decode cX11_faults 96 = .ok (.aload_n 0, 1) := by decide +kernel
theorem dX11_faults_97 : decode cX11_faults 97 = .ok (.iconst 0, 1) := by decide +kernel
theorem dX11_faults_98 : decode cX11_faults 98 = .ok (.putfield 199, 3) := by decide +kernel
theorem dX11_faults_101 : decode cX11_faults 101 = .ok (.aload_n 0, 1) := by decide +kernel
theorem dX11_faults_102 : decode cX11_faults 102 = .ok (.iconst 0, 1) := by decide +kernel
theorem dX11_faults_103 : decode cX11_faults 103 = .ok (.putfield 202, 3) := by decide +kernel
theorem dX11_faults_106 : decode cX11_faults 106 = .ok (.aload_n 0, 1) := by decide +kernel
theorem dX11_faults_107 : decode cX11_faults 107 = .ok (.invokevirtual 205, 3) := by decide +kernel
theorem dX11_faults_110 : decode cX11_faults 110 = .ok (.iconst 0, 1) := by decide +kernel
theorem dX11_faults_111 : decode cX11_faults 111 = .ok (.istore 4, 2) := by decide +kernel
theorem dX11_faults_113 : decode cX11_faults 113 = .ok (.iload 4, 2) := by decide +kernel
theorem dX11_faults_115 : decode cX11_faults 115 = .ok (.iload_n 2, 1) := by decide +kernel
theorem dX11_faults_116 : decode cX11_faults 116 = .ok (.if_icmp .ge 53, 3) := by decide +kernel
theorem dX11_faults_119 : decode cX11_faults 119 = .ok (.iconst 0, 1) := by decide +kernel
theorem dX11_faults_120 : decode cX11_faults 120 = .ok (.istore 5, 2) := by decide +kernel
theorem dX11_faults_122 : decode cX11_faults 122 = .ok (.iload 5, 2) := by decide +kernel
theorem dX11_faults_124 : decode cX11_faults 124 = .ok (.bipush 6, 2) := by decide +kernel
theorem dX11_faults_126 : decode cX11_faults 126 = .ok (.if_icmp .ge 37, 3) := by decide +kernel
theorem dX11_faults_129 : decode cX11_faults 129 = .ok (.iload 5, 2) := by decide +kernel
theorem dX11_faults_131 : decode cX11_faults 131 = .ok (.istore 6, 2) := by decide +kernel
theorem dX11_faults_133 : decode cX11_faults 133 = .ok (.iload 6, 2) := by decide +kernel
theorem dX11_faults_135 : decode cX11_faults 135 = .ok (.bipush 6, 2) := by decide +kernel
theorem dX11_faults_137 : decode cX11_faults 137 = .ok (.if_icmp .ge 20, 3) := by decide +kernel
theorem dX11_faults_140 : decode cX11_faults 140 = .ok (.aload_n 0, 1) := by decide +kernel
theorem dX11_faults_141 : decode cX11_faults 141 = .ok (.aload_n 3, 1) := by decide +kernel
theorem dX11_faults_142 : decode cX11_faults 142 = .ok (.iload 4, 2) := by decide +kernel
theorem dX11_faults_144 : decode cX11_faults 144 = .ok (.iload 5, 2) := by decide +kernel
theorem dX11_faults_146 : decode cX11_faults 146 = .ok (.iload 6, 2) := by decide +kernel
theorem dX11_faults_148 : decode cX11_faults 148 = .ok (.invokevirtual 208, 3) := by decide +kernel
theorem dX11_faults_151 : decode cX11_faults 151 = .ok (.iinc 6 1, 3) := by decide +kernel
theorem dX11_faults_154 : decode cX11_faults 154 = .ok (.goto (-21), 3) := by decide +kernel
theorem dX11_faults_157 : decode cX11_faults 157 = .ok (.iinc 5 1, 3) := by decide +kernel
theorem dX11_faults_160 : decode cX11_faults 160 = .ok (.goto (-38), 3) := by decide +kernel
theorem dX11_faults_163 : decode cX11_faults 163 = .ok (.iinc 4 1, 3) := by decide +kernel
theorem dX11_faults_166 : decode cX11_faults 166 = .ok (.goto (-53), 3) := by decide +kernel
theorem dX11_faults_169 : decode cX11_faults 169 = .ok (.aload_n 0, 1) := by decide +kernel
theorem dX11_faults_170 : decode cX11_faults 170 = .ok (.aload_n 0, 1) := by decide +kernel
theorem dX11_faults_171 : decode cX11_faults 171 = .ok (.getfield 202, 3) := by decide +kernel
theorem dX11_faults_174 : decode cX11_faults 174 = .ok (.invokevirtual 87, 3) := by decide +kernel
theorem dX11_faults_177 : decode cX11_faults 177 = .ok (.ireturn, 1) := by decide +kernel
theorem dX11_fault_0 : decode cX11_fault 0 = .ok (.iload_n 2, 1) := by decide +kernel
theorem dX11_fault_1 : decode cX11_fault 1 = .ok (.iconst 0, 1) := by decide +kernel
theorem dX11_fault_2 : decode cX11_fault 2 = .ok (.iconst 3, 1) := by decide +kernel
theorem dX11_fault_3 : decode cX11_fault 3 = .ok (.invokestatic 94, 3) := by decide +kernel
theorem dX11_fault_6 : decode cX11_fault 6 = .ok (.ifCond .ne 5, 3) := by decide +kernel
theorem dX11_fault_9 : decode cX11_fault 9 = .ok (.iconst (-1), 1) := by decide +kernel
theorem dX11_fault_10 : decode cX11_fault 10 = .ok (.ireturn, 1) := by decide +kernel
theorem dX11_fault_11 : decode cX11_fault 11 = .ok (.iload_n 1, 1) := by decide +kernel
theorem dX11_fault_12 : decode cX11_fault 12 = .ok (.iconst 0, 1) := by decide +kernel
theorem dX11_fault_13 : decode cX11_fault 13 = .ok (.aload_n 0, 1) := by decide +kernel
theorem dX11_fault_14 : decode cX11_fault 14 = .ok (.getfield 199, 3) := by decide +kernel
theorem dX11_fault_17 : decode cX11_fault 17 = .ok (.iconst 1, 1) := by decide +kernel
theorem dX11_fault_18 : decode cX11_fault 18 = .ok (.isub, 1) := by decide +kernel
theorem dX11_fault_19 : decode cX11_fault 19 = .ok (.invokestatic 94, 3) := by decide +kernel
theorem dX11_fault_22 : decode cX11_fault 22 = .ok (.ifCond .eq 12, 3) := by decide +kernel
theorem dX11_fault_25 : decode cX11_fault 25 = .ok (.aload_n 0, 1) := by decide +kernel
theorem dX11_fault_26 : decode cX11_fault 26 = .ok (.iload_n 1, 1) := by decide +kernel
theorem dX11_fault_27 : decode cX11_fault 27 = .ok (.iload_n 2, 1) := by decide +kernel
theorem dX11_fault_28 : decode cX11_fault 28 = .ok (.invokevirtual 212, 3) := by decide +kernel
theorem dX11_fault_31 : decode cX11_fault 31 = .ok (.goto 5, 3) := by decide +kernel
theorem dX11_fault_34 : decode cX11_fault 34 = .ok (.bipush (-2), 2) := by decide +kernel
theorem dX11_fault_36 : decode cX11_fault 36 = .ok (.ireturn, 1) := by decide +kernel
theorem dX11_mend_0 : decode cX11_mend 0 = .ok (.aload_n 0, 1) := by decide +kernel
theorem dX11_mend_1 : decode cX11_mend 1 = .ok (.getfield 35, 3) := by decide +kernel
theorem dX11_mend_4 : decode cX11_mend 4 = .ok (.invokevirtual 190, 3) := by decide +kernel
theorem dX11_mend_7 : decode cX11_mend 7 = .ok (.iload_n 1, 1) := by decide +kernel
theorem dX11_mend_8 : decode cX11_mend 8 = .ok (.iconst 0, 1) := by decide +kernel
theorem dX11_mend_9 : decode cX11_mend 9 = .ok (.aload_n 0, 1) := by decide +kernel
theorem dX11_mend_10 : decode cX11_mend 10 = .ok (.getfield 199, 3) := by decide +kernel
theorem dX11_mend_13 : decode cX11_mend 13 = .ok (.iconst 1, 1) := by decide +kernel
theorem dX11_mend_14 : decode cX11_mend 14 = .ok (.isub, 1) := by decide +kernel
theorem dX11_mend_15 : decode cX11_mend 15 = .ok (.invokestatic 94, 3) := by decide +kernel
theorem dX11_mend_18 : decode cX11_mend 18 = .ok (.ifCond .ne 10, 3) := by decide +kernel
theorem dX11_mend_21 : decode cX11_mend 21 = .ok (.aload_n 0, 1) := by decide +kernel
theorem dX11_mend_22 : decode cX11_mend 22 = .ok (.bipush (-2), 2) := by decide +kernel
theorem dX11_mend_24 : decode cX11_mend 24 = .ok (.invokevirtual 87, 3) := by decide +kernel
theorem dX11_mend_27 : decode cX11_mend 27 = .ok (.ireturn, 1) := by decide +kernel
theorem dX11_mend_28 : decode cX11_mend 28 = .ok (.aload_n 0, 1) := by decide +kernel
theorem dX11_mend_29 : decode cX11_mend 29 = .ok (.iload_n 1, 1) := by decide +kernel
theorem dX11_mend_30 : decode cX11_mend 30 = .ok (.iconst 2, 1) := by decide +kernel
theorem dX11_mend_31 : decode cX11_mend 31 = .ok (.invokevirtual 212, 3) := by decide +kernel
theorem dX11_mend_34 : decode cX11_mend 34 = .ok (.istore_n 2, 1) := by decide +kernel
theorem dX11_mend_35 : decode cX11_mend 35 = .ok (.aload_n 0, 1) := by decide +kernel
theorem dX11_mend_36 : decode cX11_mend 36 = .ok (.iload_n 1, 1) := by decide +kernel
theorem dX11_mend_37 : decode cX11_mend 37 = .ok (.iconst 3, 1) := by decide +kernel
theorem dX11_mend_38 : decode cX11_mend 38 = .ok (.invokevirtual 212, 3) := by decide +kernel
theorem dX11_mend_41 : decode cX11_mend 41 = .ok (.istore_n 3, 1) := by decide +kernel
theorem dX11_mend_42 : decode cX11_mend 42 = .ok (.aload_n 0, 1) := by decide +kernel
theorem dX11_mend_43 : decode cX11_mend 43 = .ok (.getfield 11, 3) := by decide +kernel
theorem dX11_mend_46 : decode cX11_mend 46 = .ok (.iload_n 2, 1) := by decide +kernel
theorem dX11_mend_47 : decode cX11_mend 47 = .ok (.aaload, 1) := by decide +kernel
theorem dX11_mend_48 : decode cX11_mend 48 = .ok (.invokestatic 112, 3) := by decide +kernel
theorem dX11_mend_51 : decode cX11_mend 51 = .ok (.iconst 2, 1) := by decide +kernel
theorem dX11_mend_52 : decode cX11_mend 52 = .ok (.if_icmp .eq 16, 3) := by decide +kernel
theorem dX11_mend_55 : decode cX11_mend 55 = .ok (.aload_n 0, 1) := by decide +kernel
theorem dX11_mend_56 : decode cX11_mend 56 = .ok (.getfield 11, 3) := by decide +kernel
theorem dX11_mend_59 : decode cX11_mend 59 = .ok (.iload_n 3, 1) := by decide +kernel
theorem dX11_mend_60 : decode cX11_mend 60 = .ok (.aaload, 1) := by decide +kernel
theorem dX11_mend_61 : decode cX11_mend 61 = .ok (.invokestatic 112, 3) := by decide +kernel
theorem dX11_mend_64 : decode cX11_mend 64 = .ok (.iconst 2, 1) := by decide +kernel
theorem dX11_mend_65 : decode cX11_mend 65 = .ok (.if_icmp .ne 9, 3) := by decide +kernel
theorem dX11_mend_68 : decode cX11_mend 68 = .ok (.aload_n 0, 1) := by decide +kernel
theorem dX11_mend_69 : decode cX11_mend 69 = .ok (.iconst 2, 1) := by decide +kernel
theorem dX11_mend_70 : decode cX11_mend 70 = .ok (.invokevirtual 76, 3) := by decide +kernel
theorem dX11_mend_73 : decode cX11_mend 73 = .ok (.ireturn, 1) := by decide +kernel
theorem dX11_mend_74 : decode cX11_mend 74 = .ok (.aload_n 0, 1) := by decide +kernel
theorem dX11_mend_75 : decode cX11_mend 75 = .ok (.getfield 35, 3) := by decide +kernel
theorem dX11_mend_78 : decode cX11_mend 78 = .ok (.aload_n 0, 1) := by decide +kernel
theorem dX11_mend_79 : decode cX11_mend 79 = .ok (.getfield 11, 3) := by decide +kernel
theorem dX11_mend_82 : decode cX11_mend 82 = .ok (.iload_n 2, 1) := by decide +kernel
theorem dX11_mend_83 : decode cX11_mend 83 = .ok (.aaload, 1) := by decide +kernel
theorem dX11_mend_84 : decode cX11_mend 84 = .ok (.aload_n 0, 1) := by decide +kernel
theorem dX11_mend_85 : decode cX11_mend 85 = .ok (.getfield 11, 3) := by decide +kernel
theorem dX11_mend_88 : decode cX11_mend 88 = .ok (.iload_n 3, 1) := by decide +kernel
theorem dX11_mend_89 : decode cX11_mend 89 = .ok (.aaload, 1) := by decide +kernel
theorem dX11_mend_90 : decode cX11_mend 90 = .ok (.aload_n 0, 1) := by decide +kernel
theorem dX11_mend_91 : decode cX11_mend 91 = .ok (.iload_n 1, 1) := by decide +kernel
theorem dX11_mend_92 : decode cX11_mend 92 = .ok (.iconst 1, 1) := by decide +kernel
theorem dX11_mend_93 : decode cX11_mend 93 = .ok (.invokevirtual 212, 3) := by decide +kernel
theorem dX11_mend_96 : decode cX11_mend 96 = .ok (.aload_n 0, 1) := by decide +kernel
theorem dX11_mend_97 : decode cX11_mend 97 = .ok (.getfield 11, 3) := by decide +kernel
theorem dX11_mend_100 : decode cX11_mend 100 = .ok (.iload_n 2, 1) := by decide +kernel
theorem dX11_mend_101 : decode cX11_mend 101 = .ok (.aaload, 1) := by decide +kernel
theorem dX11_mend_102 : decode cX11_mend 102 = .ok (.aload_n 0, 1) := by decide +kernel
theorem dX11_mend_103 : decode cX11_mend 103 = .ok (.getfield 11, 3) := by decide +kernel
theorem dX11_mend_106 : decode cX11_mend 106 = .ok (.iload_n 3, 1) := by decide +kernel
theorem dX11_mend_107 : decode cX11_mend 107 = .ok (.aaload, 1) := by decide +kernel
theorem dX11_mend_108 : decode cX11_mend 108 = .ok (.invokestatic 215, 3) := by decide +kernel
theorem dX11_mend_111 : decode cX11_mend 111 = .ok (.invokevirtual 219, 3) := by decide +kernel
theorem dX11_mend_114 : decode cX11_mend 114 = .ok (.aload_n 0, 1) := by decide +kernel
theorem dX11_mend_115 : decode cX11_mend 115 = .ok (.getfield 61, 3) := by decide +kernel
theorem dX11_mend_118 : decode cX11_mend 118 = .ok (.iload_n 1, 1) := by decide +kernel
theorem dX11_mend_119 : decode cX11_mend 119 = .ok (.aaload, 1) := by decide +kernel
theorem dX11_mend_120 : decode cX11_mend 120 = .ok (.astore 4, 2) := by decide +kernel
theorem dX11_mend_122 : decode cX11_mend 122 = .ok (.aload_n 0, 1) := by decide +kernel
theorem dX11_mend_123 : decode cX11_mend 123 = .ok (.aload_n 0, 1) := by decide +kernel
theorem dX11_mend_124 : decode cX11_mend 124 = .ok (.getfield 35, 3) := by decide +kernel
theorem dX11_mend_127 : decode cX11_mend 127 = .ok (.invokevirtual 223, 3) := by decide +kernel
theorem dX11_mend_130 : decode cX11_mend 130 = .ok (.ifCond .eq 20, 3) := by decide +kernel
theorem dX11_mend_133 : decode cX11_mend 133 = .ok (.aload 4, 2) := by decide +kernel
theorem dX11_mend_135 : decode cX11_mend 135 = .ok (.ifnull 15, 3) := by decide +kernel
theorem dX11_mend_138 : decode cX11_mend 138 = .ok (.aload 4, 2) := by decide +kernel
theorem dX11_mend_140 : decode cX11_mend 140 = .ok (.aload_n 0, 1) := by decide +kernel
theorem dX11_mend_141 : decode cX11_mend 141 = .ok (.getfield 35, 3) := by decide +kernel
theorem dX11_mend_144 : decode cX11_mend 144 = .ok (.invokevirtual 227, 3) := by decide +kernel
theorem dX11_mend_147 : decode cX11_mend 147 = .ok (.goto 5, 3) := by decide +kernel
theorem dX11_mend_150 : decode cX11_mend 150 = .ok (.bipush (-2), 2) := by decide +kernel
theorem dX11_mend_152 : decode cX11_mend 152 = .ok (.invokevirtual 87, 3) := by decide +kernel
theorem dX11_mend_155 : decode cX11_mend 155 = .ok (.ireturn, 1) := by decide +kernel
theorem dX11_canon_0 : decode cX11_canon 0 = .ok (.iload_n 1, 1) := by decide +kernel
theorem dX11_canon_1 : decode cX11_canon 1 = .ok (.invokestatic 72, 3) := by decide +kernel
theorem dX11_canon_4 : decode cX11_canon 4 = .ok (.ifCond .eq 21, 3) := by decide +kernel
theorem dX11_canon_7 : decode cX11_canon 7 = .ok (.iload_n 2, 1) := by decide +kernel
theorem dX11_canon_8 : decode cX11_canon 8 = .ok (.invokestatic 144, 3) := by decide +kernel
theorem dX11_canon_11 : decode cX11_canon 11 = .ok (.ifCond .eq 14, 3) := by decide +kernel
theorem dX11_canon_14 : decode cX11_canon 14 = .ok (.iload_n 3, 1) := by decide +kernel
theorem dX11_canon_15 : decode cX11_canon 15 = .ok (.iload 4, 2) := by decide +kernel
theorem dX11_canon_17 : decode cX11_canon 17 = .ok (.iload 5, 2) := by decide +kernel
theorem dX11_canon_19 : decode cX11_canon 19 = .ok (.invokestatic 231, 3) := by decide +kernel
theorem dX11_canon_22 : decode cX11_canon 22 = .ok (.ifCond .ne 5, 3) := by decide +kernel
theorem dX11_canon_25 : decode cX11_canon 25 = .ok (.iconst (-1), 1) := by decide +kernel
theorem dX11_canon_26 : decode cX11_canon 26 = .ok (.ireturn, 1) := by decide +kernel
theorem dX11_canon_27 : decode cX11_canon 27 = .ok (.aload_n 0, 1) := by decide +kernel
theorem dX11_canon_28 : decode cX11_canon 28 = .ok (.getfield 35, 3) := by decide +kernel
theorem dX11_canon_31 : decode cX11_canon 31 = .ok (.invokevirtual 190, 3) := by decide +kernel
theorem dX11_canon_34 : decode cX11_canon 34 = .ok (.aload_n 0, 1) := by decide +kernel
theorem dX11_canon_35 : decode cX11_canon 35 = .ok (.getfield 11, 3) := by decide +kernel
theorem dX11_canon_38 : decode cX11_canon 38 = .ok (.iload_n 1, 1) := by decide +kernel
theorem dX11_canon_39 : decode cX11_canon 39 = .ok (.aaload, 1) := by decide +kernel
theorem dX11_canon_40 : decode cX11_canon 40 = .ok (.invokestatic 112, 3) := by decide +kernel
theorem dX11_canon_43 : decode cX11_canon 43 = .ok (.istore 6, 2) := by decide +kernel
theorem dX11_canon_45 : decode cX11_canon 45 = .ok (.iload 6, 2) := by decide +kernel
theorem dX11_canon_47 : decode cX11_canon 47 = .ok (.ifCond .eq 10, 3) := by decide +kernel
theorem dX11_canon_50 : decode cX11_canon 50 = .ok (.aload_n 0, 1) := by decide +kernel
theorem dX11_canon_51 : decode cX11_canon 51 = .ok (.iload 6, 2) := by decide +kernel
theorem dX11_canon_53 : decode cX11_canon 53 = .ok (.invokevirtual 76, 3) := by decide +kernel
theorem dX11_canon_56 : decode cX11_canon 56 = .ok (.ireturn, 1) := by decide +kernel
theorem dX11_canon_57 : decode cX11_canon 57 = .ok (.aload_n 0, 1) := by decide +kernel
theorem dX11_canon_58 : decode cX11_canon 58 = .ok (.getfield 28, 3) := by decide +kernel
theorem dX11_canon_61 : decode cX11_canon 61 = .ok (.iload_n 2, 1) := by decide +kernel
theorem dX11_canon_62 : decode cX11_canon 62 = .ok (.aaload, 1) := by decide +kernel
theorem dX11_canon_63 : decode cX11_canon 63 = .ok (.ifnonnull 11, 3) := by decide +kernel
theorem dX11_canon_66 : decode cX11_canon 66 = .ok (.aload_n 0, 1) := by decide +kernel
theorem dX11_canon_67 : decode cX11_canon 67 = .ok (.iconst 1, 1) := by decide +kernel
theorem dX11_canon_68 : decode cX11_canon 68 = .ok (.invokevirtual 76, 3) := by decide +kernel
theorem dX11_canon_71 : decode cX11_canon 71 = .ok (.goto 28, 3) := by decide +kernel
theorem dX11_canon_74 : decode cX11_canon 74 = .ok (.aload_n 0, 1) := by decide +kernel
theorem dX11_canon_75 : decode cX11_canon 75 = .ok (.aload_n 0, 1) := by decide +kernel
theorem dX11_canon_76 : decode cX11_canon 76 = .ok (.aload_n 0, 1) := by decide +kernel
theorem dX11_canon_77 : decode cX11_canon 77 = .ok (.getfield 11, 3) := by decide +kernel
theorem dX11_canon_80 : decode cX11_canon 80 = .ok (.iload_n 1, 1) := by decide +kernel
theorem dX11_canon_81 : decode cX11_canon 81 = .ok (.aaload, 1) := by decide +kernel
theorem dX11_canon_82 : decode cX11_canon 82 = .ok (.aload_n 0, 1) := by decide +kernel
theorem dX11_canon_83 : decode cX11_canon 83 = .ok (.getfield 28, 3) := by decide +kernel
theorem dX11_canon_86 : decode cX11_canon 86 = .ok (.iload_n 2, 1) := by decide +kernel
theorem dX11_canon_87 : decode cX11_canon 87 = .ok (.aaload, 1) := by decide +kernel
theorem dX11_canon_88 : decode cX11_canon 88 = .ok (.iload_n 3, 1) := by decide +kernel
theorem dX11_canon_89 : decode cX11_canon 89 = .ok (.iload 4, 2) := by decide +kernel
theorem dX11_canon_91 : decode cX11_canon 91 = .ok (.iload 5, 2) := by decide +kernel
theorem dX11_canon_93 : decode cX11_canon 93 = .ok (.invokevirtual 234, 3) := by decide +kernel
theorem dX11_canon_96 : decode cX11_canon 96 = .ok (.invokevirtual 87, 3) := by decide +kernel
theorem dX11_canon_99 : decode cX11_canon 99 = .ok (.ireturn, 1) := by decide +kernel
theorem dX11_canons_0 : decode cX11_canons 0 = .ok (.iload_n 1, 1) := by decide +kernel
theorem dX11_canons_1 : decode cX11_canons 1 = .ok (.invokestatic 72, 3) := by decide +kernel
theorem dX11_canons_4 : decode cX11_canons 4 = .ok (.ifCond .eq 20, 3) := by decide +kernel
theorem dX11_canons_7 : decode cX11_canons 7 = .ok (.iload_n 2, 1) := by decide +kernel
theorem dX11_canons_8 : decode cX11_canons 8 = .ok (.invokestatic 144, 3) := by decide +kernel
theorem dX11_canons_11 : decode cX11_canons 11 = .ok (.ifCond .eq 13, 3) := by decide +kernel
theorem dX11_canons_14 : decode cX11_canons 14 = .ok (.iconst 0, 1) := by decide +kernel
theorem dX11_canons_15 : decode cX11_canons 15 = .ok (.iload_n 3, 1) := by decide +kernel
theorem dX11_canons_16 : decode cX11_canons 16 = .ok (.iload 4, 2) := by decide +kernel
theorem dX11_canons_18 : decode cX11_canons 18 = .ok (.invokestatic 231, 3) := by decide +kernel
theorem dX11_canons_21 : decode cX11_canons 21 = .ok (.ifCond .ne 5, 3) := by decide +kernel
theorem dX11_canons_24 : decode cX11_canons 24 = .ok (.iconst (-1), 1) := by decide +kernel
theorem dX11_canons_25 : decode cX11_canons 25 = .ok (.ireturn, 1) := by decide +kernel
theorem dX11_canons_26 : decode cX11_canons 26 = .ok (.aload_n 0, 1) := by decide +kernel
theorem dX11_canons_27 : decode cX11_canons 27 = .ok (.getfield 35, 3) := by decide +kernel
theorem dX11_canons_30 : decode cX11_canons 30 = .ok (.invokevirtual 190, 3) := by decide +kernel
theorem dX11_canons_33 : decode cX11_canons 33 = .ok (.aload_n 0, 1) := by decide +kernel
theorem dX11_canons_34 : decode cX11_canons 34 = .ok (.getfield 11, 3) := by decide +kernel
theorem dX11_canons_37 : decode cX11_canons 37 = .ok (.iload_n 1, 1) := by decide +kernel
theorem dX11_canons_38 : decode cX11_canons 38 = .ok (.aaload, 1) := by decide +kernel
theorem dX11_canons_39 : decode cX11_canons 39 = .ok (.invokestatic 112, 3) := by decide +kernel
theorem dX11_canons_42 : decode cX11_canons 42 = .ok (.istore 5, 2) := by decide +kernel
theorem dX11_canons_44 : decode cX11_canons 44 = .ok (.iload 5, 2) := by decide +kernel
theorem dX11_canons_46 : decode cX11_canons 46 = .ok (.ifCond .eq 10, 3) := by decide +kernel
theorem dX11_canons_49 : decode cX11_canons 49 = .ok (.aload_n 0, 1) := by decide +kernel
theorem dX11_canons_50 : decode cX11_canons 50 = .ok (.iload 5, 2) := by decide +kernel
theorem dX11_canons_52 : decode cX11_canons 52 = .ok (.invokevirtual 76, 3) := by decide +kernel
theorem dX11_canons_55 : decode cX11_canons 55 = .ok (.ireturn, 1) := by decide +kernel
theorem dX11_canons_56 : decode cX11_canons 56 = .ok (.aload_n 0, 1) := by decide +kernel
theorem dX11_canons_57 : decode cX11_canons 57 = .ok (.getfield 28, 3) := by decide +kernel
theorem dX11_canons_60 : decode cX11_canons 60 = .ok (.iload_n 2, 1) := by decide +kernel
theorem dX11_canons_61 : decode cX11_canons 61 = .ok (.aaload, 1) := by decide +kernel
theorem dX11_canons_62 : decode cX11_canons 62 = .ok (.ifnonnull 9, 3) := by decide +kernel
theorem dX11_canons_65 : decode cX11_canons 65 = .ok (.aload_n 0, 1) := by decide +kernel
theorem dX11_canons_66 : decode cX11_canons 66 = .ok (.iconst 1, 1) := by decide +kernel
theorem dX11_canons_67 : decode cX11_canons 67 = .ok (.invokevirtual 76, 3) := by decide +kernel
theorem dX11_canons_70 : decode cX11_canons 70 = .ok (.ireturn, 1) := by decide +kernel
theorem dX11_canons_71 : decode cX11_canons 71 = .ok (.iconst 0, 1) := by decide +kernel
theorem dX11_canons_72 : decode cX11_canons 72 = .ok (.istore 6, 2) := by decide +kernel
theorem dX11_canons_74 : decode cX11_canons 74 = .ok (.iconst 1, 1) := by decide +kernel
theorem dX11_canons_75 : decode cX11_canons 75 = .ok (.istore 7, 2) := by decide +kernel
theorem dX11_canons_77 : decode cX11_canons 77 = .ok (.iload 7, 2) := by decide +kernel
theorem dX11_canons_79 : decode cX11_canons 79 = .ok (.bipush 20, 2) := by decide +kernel
theorem dX11_canons_81 : decode cX11_canons 81 = .ok (.if_icmp .gt 46, 3) := by decide +kernel
theorem dX11_canons_84 : decode cX11_canons 84 = .ok (.aload_n 0, 1) := by decide +kernel
theorem dX11_canons_85 : decode cX11_canons 85 = .ok (.aload_n 0, 1) := by decide +kernel
theorem dX11_canons_86 : decode cX11_canons 86 = .ok (.getfield 11, 3) := by decide +kernel
theorem dX11_canons_89 : decode cX11_canons 89 = .ok (.iload_n 1, 1) := by decide +kernel
theorem dX11_canons_90 : decode cX11_canons 90 = .ok (.aaload, 1) := by decide +kernel
theorem dX11_canons_91 : decode cX11_canons 91 = .ok (.aload_n 0, 1) := by decide +kernel
theorem dX11_canons_92 : decode cX11_canons 92 = .ok (.getfield 28, 3) := by decide +kernel
theorem dX11_canons_95 : decode cX11_canons 95 = .ok (.iload_n 2, 1) := by decide +kernel
theorem dX11_canons_96 : decode cX11_canons 96 = .ok (.aaload, 1) := by decide +kernel
theorem dX11_canons_97 : decode cX11_canons 97 = .ok (.iload 7, 2) := by decide +kernel
theorem dX11_canons_99 : decode cX11_canons 99 = .ok (.iload_n 3, 1) := by decide +kernel
theorem dX11_canons_100 : decode cX11_canons 100 = .ok (.iload 4, 2) := by decide +kernel
theorem dX11_canons_102 : decode cX11_canons 102 = .ok (.invokevirtual 234, 3) := by decide +kernel
theorem dX11_canons_105 : decode cX11_canons 105 = .ok (.bipush (-2), 2) := by decide +kernel
theorem dX11_canons_107 : decode cX11_canons 107 = .ok (.if_icmp .ne 14, 3) := by decide +kernel
theorem dX11_canons_110 : decode cX11_canons 110 = .ok (.iload 6, 2) := by decide +kernel
theorem dX11_canons_112 : decode cX11_canons 112 = .ok (.iconst 1, 1) := by decide +kernel
theorem dX11_canons_113 : decode cX11_canons 113 = .ok (.iload 7, 2) := by decide +kernel
theorem dX11_canons_115 : decode cX11_canons 115 = .ok (.iconst 1, 1) := by decide +kernel
theorem dX11_canons_116 : decode cX11_canons 116 = .ok (.isub, 1) := by decide +kernel
theorem dX11_canons_117 : decode cX11_canons 117 = .ok (.ishl, 1) := by decide +kernel
theorem dX11_canons_118 : decode cX11_canons 118 = .ok (.ior, 1) := by decide +kernel
theorem dX11_canons_119 : decode cX11_canons 119 = .ok (.istore 6, 2) := by decide +kernel
theorem dX11_canons_121 : decode cX11_canons 121 = .ok (.iinc 7 1, 3) := by decide +kernel
theorem dX11_canons_124 : decode cX11_canons 124 = .ok (.goto (-47), 3) := by decide +kernel
theorem dX11_canons_127 : decode cX11_canons 127 = .ok (.aload_n 0, 1) := by decide +kernel
theorem dX11_canons_128 : decode cX11_canons 128 = .ok (.iload 6, 2) := by decide +kernel
theorem dX11_canons_130 : decode cX11_canons 130 = .ok (.invokevirtual 87, 3) := by decide +kernel
theorem dX11_canons_133 : decode cX11_canons 133 = .ok (.ireturn, 1) := by decide +kernel
theorem dX11_follows_0 : decode cX11_follows 0 = .ok (.iload_n 1, 1) := by decide +kernel
theorem dX11_follows_1 : decode cX11_follows 1 = .ok (.invokestatic 72, 3) := by decide +kernel
theorem dX11_follows_4 : decode cX11_follows 4 = .ok (.ifCond .eq 25, 3) := by decide +kernel
theorem dX11_follows_7 : decode cX11_follows 7 = .ok (.iload_n 2, 1) := by decide +kernel
theorem dX11_follows_8 : decode cX11_follows 8 = .ok (.iconst 0, 1) := by decide +kernel
theorem dX11_follows_9 : decode cX11_follows 9 = .ok (.sipush 1000, 3) := by decide +kernel
theorem dX11_follows_12 : decode cX11_follows 12 = .ok (.invokestatic 94, 3) := by decide +kernel
theorem dX11_follows_15 : decode cX11_follows 15 = .ok (.ifCond .eq 14, 3) := by decide +kernel
theorem dX11_follows_18 : decode cX11_follows 18 = .ok (.iload_n 3, 1) := by decide +kernel
theorem dX11_follows_19 : decode cX11_follows 19 = .ok (.iload 4, 2) := by decide +kernel
theorem dX11_follows_21 : decode cX11_follows 21 = .ok (.iload 5, 2) := by decide +kernel
theorem dX11_follows_23 : decode cX11_follows 23 = .ok (.invokestatic 231, 3) := by decide +kernel
theorem dX11_follows_26 : decode cX11_follows 26 = .ok (.ifCond .ne 5, 3) := by decide +kernel
theorem dX11_follows_29 : decode cX11_follows 29 = .ok (.iconst (-1), 1) := by decide +kernel
theorem dX11_follows_30 : decode cX11_follows 30 = .ok (.ireturn, 1) := by decide +kernel
theorem dX11_follows_31 : decode cX11_follows 31 = .ok (.aload_n 0, 1) := by decide +kernel
theorem dX11_follows_32 : decode cX11_follows 32 = .ok (.getfield 11, 3) := by decide +kernel
theorem dX11_follows_35 : decode cX11_follows 35 = .ok (.iload_n 1, 1) := by decide +kernel
theorem dX11_follows_36 : decode cX11_follows 36 = .ok (.aaload, 1) := by decide +kernel
theorem dX11_follows_37 : decode cX11_follows 37 = .ok (.invokestatic 112, 3) := by decide +kernel
theorem dX11_follows_40 : decode cX11_follows 40 = .ok (.istore 6, 2) := by decide +kernel
theorem dX11_follows_42 : decode cX11_follows 42 = .ok (.iload 6, 2) := by decide +kernel
theorem dX11_follows_44 : decode cX11_follows 44 = .ok (.ifCond .ne 25, 3) := by decide +kernel
theorem dX11_follows_47 : decode cX11_follows 47 = .ok (.aload_n 0, 1) := by decide +kernel
theorem dX11_follows_48 : decode cX11_follows 48 = .ok (.aload_n 0, 1) := by decide +kernel
theorem dX11_follows_49 : decode cX11_follows 49 = .ok (.getfield 11, 3) := by decide +kernel
theorem dX11_follows_52 : decode cX11_follows 52 = .ok (.iload_n 1, 1) := by decide +kernel
theorem dX11_follows_53 : decode cX11_follows 53 = .ok (.aaload, 1) := by decide +kernel
theorem dX11_follows_54 : decode cX11_follows 54 = .ok (.iload_n 2, 1) := by decide +kernel
theorem dX11_follows_55 : decode cX11_follows 55 = .ok (.iload_n 3, 1) := by decide +kernel
theorem dX11_follows_56 : decode cX11_follows 56 = .ok (.iload 4, 2) := by decide +kernel
theorem dX11_follows_58 : decode cX11_follows 58 = .ok (.iload 5, 2) := by decide +kernel
theorem dX11_follows_60 : decode cX11_follows 60 = .ok (.invokevirtual 238, 3) := by decide +kernel
theorem dX11_follows_63 : decode cX11_follows 63 = .ok (.invokevirtual 87, 3) := by decide +kernel
theorem dX11_follows_66 : decode cX11_follows 66 = .ok (.goto 9, 3) := by decide +kernel
theorem dX11_follows_69 : decode cX11_follows 69 = .ok (.aload_n 0, 1) := by decide +kernel
theorem dX11_follows_70 : decode cX11_follows 70 = .ok (.iload 6, 2) := by decide +kernel
theorem dX11_follows_72 : decode cX11_follows 72 = .ok (.invokevirtual 76, 3) := by decide +kernel
theorem dX11_follows_75 : decode cX11_follows 75 = .ok (.ireturn, 1) := by decide +kernel
theorem dX11_set_0 : decode cX11_set 0 = .ok (.iload_n 1, 1) := by decide +kernel
theorem dX11_set_1 : decode cX11_set 1 = .ok (.invokestatic 72, 3) := by decide +kernel
theorem dX11_set_4 : decode cX11_set 4 = .ok (.ifCond .eq 28, 3) := by decide +kernel
theorem dX11_set_7 : decode cX11_set 7 = .ok (.iload_n 2, 1) := by decide +kernel
theorem dX11_set_8 : decode cX11_set 8 = .ok (.invokestatic 72, 3) := by decide +kernel
theorem dX11_set_11 : decode cX11_set 11 = .ok (.ifCond .eq 21, 3) := by decide +kernel
theorem dX11_set_14 : decode cX11_set 14 = .ok (.iload_n 3, 1) := by decide +kernel
theorem dX11_set_15 : decode cX11_set 15 = .ok (.invokestatic 144, 3) := by decide +kernel
theorem dX11_set_18 : decode cX11_set 18 = .ok (.ifCond .eq 14, 3) := by decide +kernel
theorem dX11_set_21 : decode cX11_set 21 = .ok (.iload 7, 2) := by decide +kernel
theorem dX11_set_23 : decode cX11_set 23 = .ok (.iconst 0, 1) := by decide +kernel
theorem dX11_set_24 : decode cX11_set 24 = .ok (.bipush 30, 2) := by decide +kernel
theorem dX11_set_26 : decode cX11_set 26 = .ok (.invokestatic 94, 3) := by decide +kernel
theorem dX11_set_29 : decode cX11_set 29 = .ok (.ifCond .ne 5, 3) := by decide +kernel
theorem dX11_set_32 : decode cX11_set 32 = .ok (.iconst (-1), 1) := by decide +kernel
theorem dX11_set_33 : decode cX11_set 33 = .ok (.ireturn, 1) := by decide +kernel
theorem dX11_set_34 : decode cX11_set 34 = .ok (.iload 5, 2) := by decide +kernel
theorem dX11_set_36 : decode cX11_set 36 = .ok (.iconst 1, 1) := by decide +kernel
theorem dX11_set_37 : decode cX11_set 37 = .ok (.bipush 120, 2) := by decide +kernel
theorem dX11_set_39 : decode cX11_set 39 = .ok (.invokestatic 94, 3) := by decide +kernel
theorem dX11_set_42 : decode cX11_set 42 = .ok (.ifCond .eq 25, 3) := by decide +kernel
theorem dX11_set_45 : decode cX11_set 45 = .ok (.iload 6, 2) := by decide +kernel
theorem dX11_set_47 : decode cX11_set 47 = .ok (.iload 5, 2) := by decide +kernel
theorem dX11_set_49 : decode cX11_set 49 = .ok (.bipush 120, 2) := by decide +kernel
theorem dX11_set_51 : decode cX11_set 51 = .ok (.invokestatic 94, 3) := by decide +kernel
theorem dX11_set_54 : decode cX11_set 54 = .ok (.ifCond .eq 13, 3) := by decide +kernel
theorem dX11_set_57 : decode cX11_set 57 = .ok (.iload 6, 2) := by decide +kernel
theorem dX11_set_59 : decode cX11_set 59 = .ok (.iload 5, 2) := by decide +kernel
theorem dX11_set_61 : decode cX11_set 61 = .ok (.isub, 1) := by decide +kernel
theorem dX11_set_62 : decode cX11_set 62 = .ok (.bipush 15, 2) := by decide +kernel
theorem dX11_set_64 : decode cX11_set 64 = .ok (.if_icmp .le 5, 3) := by decide +kernel
theorem dX11_set_67 : decode cX11_set 67 = .ok (.iconst (-1), 1) := by decide +kernel
theorem dX11_set_68 : decode cX11_set 68 = .ok (.ireturn, 1) := by decide +kernel
theorem dX11_set_69 : decode cX11_set 69 = .ok (.aload_n 0, 1) := by decide +kernel
theorem dX11_set_70 : decode cX11_set 70 = .ok (.getfield 11, 3) := by decide +kernel
theorem dX11_set_73 : decode cX11_set 73 = .ok (.iload_n 2, 1) := by decide +kernel
theorem dX11_set_74 : decode cX11_set 74 = .ok (.aaload, 1) := by decide +kernel
theorem dX11_set_75 : decode cX11_set 75 = .ok (.invokestatic 112, 3) := by decide +kernel
theorem dX11_set_78 : decode cX11_set 78 = .ok (.istore 8, 2) := by decide +kernel
theorem dX11_set_80 : decode cX11_set 80 = .ok (.iload 8, 2) := by decide +kernel
theorem dX11_set_82 : decode cX11_set 82 = .ok (.ifCond .eq 10, 3) := by decide +kernel
theorem dX11_set_85 : decode cX11_set 85 = .ok (.aload_n 0, 1) := by decide +kernel
theorem dX11_set_86 : decode cX11_set 86 = .ok (.iload 8, 2) := by decide +kernel
theorem dX11_set_88 : decode cX11_set 88 = .ok (.invokevirtual 76, 3) := by decide +kernel
theorem dX11_set_91 : decode cX11_set 91 = .ok (.ireturn, 1) := by decide +kernel
theorem dX11_set_92 : decode cX11_set 92 = .ok (.aload_n 0, 1) := by decide +kernel
theorem dX11_set_93 : decode cX11_set 93 = .ok (.getfield 44, 3) := by decide +kernel
theorem dX11_set_96 : decode cX11_set 96 = .ok (.aload_n 0, 1) := by decide +kernel
theorem dX11_set_97 : decode cX11_set 97 = .ok (.getfield 11, 3) := by decide +kernel
theorem dX11_set_100 : decode cX11_set 100 = .ok (.iload_n 2, 1) := by decide +kernel
theorem dX11_set_101 : decode cX11_set 101 = .ok (.aaload, 1) := by decide +kernel
theorem dX11_set_102 : decode cX11_set 102 = .ok (.iload 4, 2) := by decide +kernel
theorem dX11_set_104 : decode cX11_set 104 = .ok (.iload 5, 2) := by decide +kernel
theorem dX11_set_106 : decode cX11_set 106 = .ok (.iload 6, 2) := by decide +kernel
theorem dX11_set_108 : decode cX11_set 108 = .ok (.invokevirtual 242, 3) := by decide +kernel
theorem dX11_set_111 : decode cX11_set 111 = .ok (.aload_n 0, 1) := by decide +kernel
theorem dX11_set_112 : decode cX11_set 112 = .ok (.getfield 44, 3) := by decide +kernel
theorem dX11_set_115 : decode cX11_set 115 = .ok (.iload_n 1, 1) := by decide +kernel
theorem dX11_set_116 : decode cX11_set 116 = .ok (.putfield 246, 3) := by decide +kernel
theorem dX11_set_119 : decode cX11_set 119 = .ok (.aload_n 0, 1) := by decide +kernel
theorem dX11_set_120 : decode cX11_set 120 = .ok (.getfield 44, 3) := by decide +kernel
theorem dX11_set_123 : decode cX11_set 123 = .ok (.iload_n 3, 1) := by decide +kernel
theorem dX11_set_124 : decode cX11_set 124 = .ok (.putfield 249, 3) := by decide +kernel
theorem dX11_set_127 : decode cX11_set 127 = .ok (.aload_n 0, 1) := by decide +kernel
theorem dX11_set_128 : decode cX11_set 128 = .ok (.iload 7, 2) := by decide +kernel
theorem dX11_set_130 : decode cX11_set 130 = .ok (.invokevirtual 252, 3) := by decide +kernel
theorem dX11_set_133 : decode cX11_set 133 = .ok (.ireturn, 1) := by decide +kernel
theorem dX11_goOn_0 : decode cX11_goOn 0 = .ok (.iload_n 1, 1) := by decide +kernel
theorem dX11_goOn_1 : decode cX11_goOn 1 = .ok (.iconst 0, 1) := by decide +kernel
theorem dX11_goOn_2 : decode cX11_goOn 2 = .ok (.bipush 30, 2) := by decide +kernel
theorem dX11_goOn_4 : decode cX11_goOn 4 = .ok (.invokestatic 94, 3) := by decide +kernel
theorem dX11_goOn_7 : decode cX11_goOn 7 = .ok (.ifCond .ne 5, 3) := by decide +kernel
theorem dX11_goOn_10 : decode cX11_goOn 10 = .ok (.iconst (-1), 1) := by decide +kernel
theorem dX11_goOn_11 : decode cX11_goOn 11 = .ok (.ireturn, 1) := by decide +kernel
theorem dX11_goOn_12 : decode cX11_goOn 12 = .ok (.aload_n 0, 1) := by decide +kernel
theorem dX11_goOn_13 : decode cX11_goOn 13 = .ok (.getfield 44, 3) := by decide +kernel
theorem dX11_goOn_16 : decode cX11_goOn 16 = .ok (.getfield 255, 3) := by decide +kernel
theorem dX11_goOn_19 : decode cX11_goOn 19 = .ok (.ifCond .eq 21, 3) := by decide +kernel
theorem dX11_goOn_22 : decode cX11_goOn 22 = .ok (.aload_n 0, 1) := by decide +kernel
theorem dX11_goOn_23 : decode cX11_goOn 23 = .ok (.getfield 44, 3) := by decide +kernel
theorem dX11_goOn_26 : decode cX11_goOn 26 = .ok (.getfield 258, 3) := by decide +kernel
theorem dX11_goOn_29 : decode cX11_goOn 29 = .ok (.ifCond .ne 11, 3) := by decide +kernel
theorem dX11_goOn_32 : decode cX11_goOn 32 = .ok (.aload_n 0, 1) := by decide +kernel
theorem dX11_goOn_33 : decode cX11_goOn 33 = .ok (.iload_n 1, 1) := by decide +kernel
theorem dX11_goOn_34 : decode cX11_goOn 34 = .ok (.invokevirtual 252, 3) := by decide +kernel
theorem dX11_goOn_37 : decode cX11_goOn 37 = .ok (.goto 9, 3) := by decide +kernel
theorem dX11_goOn_40 : decode cX11_goOn 40 = .ok (.aload_n 0, 1) := by decide +kernel
theorem dX11_goOn_41 : decode cX11_goOn 41 = .ok (.bipush 7, 2) := by decide +kernel
theorem dX11_goOn_43 : decode cX11_goOn 43 = .ok (.invokevirtual 76, 3) := by decide +kernel
theorem dX11_goOn_46 : decode cX11_goOn 46 = .ok (.ireturn, 1) := by decide +kernel
theorem dX11_least_0 : decode cX11_least 0 = .ok (.aload_n 0, 1) := by decide +kernel
theorem dX11_least_1 : decode cX11_least 1 = .ok (.getfield 44, 3) := by decide +kernel
theorem dX11_least_4 : decode cX11_least 4 = .ok (.invokevirtual 261, 3) := by decide +kernel
theorem dX11_least_7 : decode cX11_least 7 = .ok (.ifCond .eq 23, 3) := by decide +kernel
theorem dX11_least_10 : decode cX11_least 10 = .ok (.aload_n 0, 1) := by decide +kernel
theorem dX11_least_11 : decode cX11_least 11 = .ok (.getfield 44, 3) := by decide +kernel
theorem dX11_least_14 : decode cX11_least 14 = .ok (.invokevirtual 264, 3) := by decide +kernel
theorem dX11_least_17 : decode cX11_least 17 = .ok (.ifCond .eq 13, 3) := by decide +kernel
theorem dX11_least_20 : decode cX11_least 20 = .ok (.aload_n 0, 1) := by decide +kernel
theorem dX11_least_21 : decode cX11_least 21 = .ok (.getfield 44, 3) := by decide +kernel
theorem dX11_least_24 : decode cX11_least 24 = .ok (.invokevirtual 267, 3) := by decide +kernel
theorem dX11_least_27 : decode cX11_least 27 = .ok (.goto 5, 3) := by decide +kernel
theorem dX11_least_30 : decode cX11_least 30 = .ok (.bipush (-2), 2) := by decide +kernel
theorem dX11_least_32 : decode cX11_least 32 = .ok (.ireturn, 1) := by decide +kernel
theorem dX11_many_0 : decode cX11_many 0 = .ok (.aload_n 0, 1) := by decide +kernel
theorem dX11_many_1 : decode cX11_many 1 = .ok (.getfield 44, 3) := by decide +kernel
theorem dX11_many_4 : decode cX11_many 4 = .ok (.invokevirtual 261, 3) := by decide +kernel
theorem dX11_many_7 : decode cX11_many 7 = .ok (.ifCond .eq 13, 3) := by decide +kernel
theorem dX11_many_10 : decode cX11_many 10 = .ok (.aload_n 0, 1) := by decide +kernel
theorem dX11_many_11 : decode cX11_many 11 = .ok (.getfield 44, 3) := by decide +kernel
theorem dX11_many_14 : decode cX11_many 14 = .ok (.invokevirtual 270, 3) := by decide +kernel
theorem dX11_many_17 : decode cX11_many 17 = .ok (.goto 5, 3) := by decide +kernel
theorem dX11_many_20 : decode cX11_many 20 = .ok (.bipush (-2), 2) := by decide +kernel
theorem dX11_many_22 : decode cX11_many 22 = .ok (.ireturn, 1) := by decide +kernel
theorem dX11_row_0 : decode cX11_row 0 = .ok (.aload_n 0, 1) := by decide +kernel
theorem dX11_row_1 : decode cX11_row 1 = .ok (.getfield 44, 3) := by decide +kernel
theorem dX11_row_4 : decode cX11_row 4 = .ok (.getfield 255, 3) := by decide +kernel
theorem dX11_row_7 : decode cX11_row 7 = .ok (.ifCond .ne 6, 3) := by decide +kernel
theorem dX11_row_10 : decode cX11_row 10 = .ok (.bipush (-2), 2) := by decide +kernel
theorem dX11_row_12 : decode cX11_row 12 = .ok (.ireturn, 1) := by decide +kernel
theorem dX11_row_13 : decode cX11_row 13 = .ok (.aload_n 0, 1) := by decide +kernel
theorem dX11_row_14 : decode cX11_row 14 = .ok (.getfield 44, 3) := by decide +kernel
theorem dX11_row_17 : decode cX11_row 17 = .ok (.iload_n 2, 1) := by decide +kernel
theorem dX11_row_18 : decode cX11_row 18 = .ok (.iload_n 3, 1) := by decide +kernel
theorem dX11_row_19 : decode cX11_row 19 = .ok (.invokevirtual 273, 3) := by decide +kernel
theorem dX11_row_22 : decode cX11_row 22 = .ok (.ifCond .ne 5, 3) := by decide +kernel
theorem dX11_row_25 : decode cX11_row 25 = .ok (.iconst (-1), 1) := by decide +kernel
theorem dX11_row_26 : decode cX11_row 26 = .ok (.ireturn, 1) := by decide +kernel
theorem dX11_row_27 : decode cX11_row 27 = .ok (.aload_n 0, 1) := by decide +kernel
theorem dX11_row_28 : decode cX11_row 28 = .ok (.getfield 44, 3) := by decide +kernel
theorem dX11_row_31 : decode cX11_row 31 = .ok (.iload_n 1, 1) := by decide +kernel
theorem dX11_row_32 : decode cX11_row 32 = .ok (.invokevirtual 276, 3) := by decide +kernel
theorem dX11_row_35 : decode cX11_row 35 = .ok (.ifCond .eq 24, 3) := by decide +kernel
theorem dX11_row_38 : decode cX11_row 38 = .ok (.aload_n 0, 1) := by decide +kernel
theorem dX11_row_39 : decode cX11_row 39 = .ok (.getfield 44, 3) := by decide +kernel
theorem dX11_row_42 : decode cX11_row 42 = .ok (.getfield 279, 3) := by decide +kernel
theorem dX11_row_45 : decode cX11_row 45 = .ok (.aload_n 0, 1) := by decide +kernel
theorem dX11_row_46 : decode cX11_row 46 = .ok (.getfield 44, 3) := by decide +kernel
theorem dX11_row_49 : decode cX11_row 49 = .ok (.iload_n 1, 1) := by decide +kernel
theorem dX11_row_50 : decode cX11_row 50 = .ok (.iload_n 2, 1) := by decide +kernel
theorem dX11_row_51 : decode cX11_row 51 = .ok (.iload_n 3, 1) := by decide +kernel
theorem dX11_row_52 : decode cX11_row 52 = .ok (.invokevirtual 282, 3) := by decide +kernel
theorem dX11_row_55 : decode cX11_row 55 = .ok (.iaload, 1) := by decide +kernel
theorem dX11_row_56 : decode cX11_row 56 = .ok (.goto 5, 3) := by decide +kernel
theorem dX11_row_59 : decode cX11_row 59 = .ok (.bipush (-2), 2) := by decide +kernel
theorem dX11_row_61 : decode cX11_row 61 = .ok (.ireturn, 1) := by decide +kernel
theorem dX11_spoil_0 : decode cX11_spoil 0 = .ok (.aload_n 0, 1) := by decide +kernel
theorem dX11_spoil_1 : decode cX11_spoil 1 = .ok (.getfield 44, 3) := by decide +kernel
theorem dX11_spoil_4 : decode cX11_spoil 4 = .ok (.getfield 255, 3) := by decide +kernel
theorem dX11_spoil_7 : decode cX11_spoil 7 = .ok (.ifCond .ne 6, 3) := by decide +kernel
theorem dX11_spoil_10 : decode cX11_spoil 10 = .ok (.bipush (-2), 2) := by decide +kernel
theorem dX11_spoil_12 : decode cX11_spoil 12 = .ok (.ireturn, 1) := by decide +kernel
theorem dX11_spoil_13 : decode cX11_spoil 13 = .ok (.aload_n 0, 1) := by decide +kernel
theorem dX11_spoil_14 : decode cX11_spoil 14 = .ok (.getfield 44, 3) := by decide +kernel
theorem dX11_spoil_17 : decode cX11_spoil 17 = .ok (.iload_n 2, 1) := by decide +kernel
theorem dX11_spoil_18 : decode cX11_spoil 18 = .ok (.iload_n 3, 1) := by decide +kernel
theorem dX11_spoil_19 : decode cX11_spoil 19 = .ok (.invokevirtual 273, 3) := by decide +kernel
theorem dX11_spoil_22 : decode cX11_spoil 22 = .ok (.ifCond .eq 15, 3) := by decide +kernel
theorem dX11_spoil_25 : decode cX11_spoil 25 = .ok (.iload 4, 2) := by decide +kernel
theorem dX11_spoil_27 : decode cX11_spoil 27 = .ok (.iconst 0, 1) := by decide +kernel
theorem dX11_spoil_28 : decode cX11_spoil 28 = .ok (.ldc_w 286, 3) := by decide +kernel
theorem dX11_spoil_31 : decode cX11_spoil 31 = .ok (.invokestatic 94, 3) := by decide +kernel
theorem dX11_spoil_34 : decode cX11_spoil 34 = .ok (.ifCond .ne 5, 3) := by decide +kernel
theorem dX11_spoil_37 : decode cX11_spoil 37 = .ok (.iconst (-1), 1) := by decide +kernel
theorem dX11_spoil_38 : decode cX11_spoil 38 = .ok (.ireturn, 1) := by decide +kernel
theorem dX11_spoil_39 : decode cX11_spoil 39 = .ok (.aload_n 0, 1) := by decide +kernel
theorem dX11_spoil_40 : decode cX11_spoil 40 = .ok (.getfield 44, 3) := by decide +kernel
theorem dX11_spoil_43 : decode cX11_spoil 43 = .ok (.invokevirtual 261, 3) := by decide +kernel
theorem dX11_spoil_46 : decode cX11_spoil 46 = .ok (.ifCond .eq 14, 3) := by decide +kernel
theorem dX11_spoil_49 : decode cX11_spoil 49 = .ok (.aload_n 0, 1) := by decide +kernel
theorem dX11_spoil_50 : decode cX11_spoil 50 = .ok (.getfield 44, 3) := by decide +kernel
theorem dX11_spoil_53 : decode cX11_spoil 53 = .ok (.iload_n 1, 1) := by decide +kernel
theorem dX11_spoil_54 : decode cX11_spoil 54 = .ok (.invokevirtual 276, 3) := by decide +kernel
theorem dX11_spoil_57 : decode cX11_spoil 57 = .ok (.ifCond .ne 6, 3) := by decide +kernel
theorem dX11_spoil_60 : decode cX11_spoil 60 = .ok (.bipush (-2), 2) := by decide +kernel
theorem dX11_spoil_62 : decode cX11_spoil 62 = .ok (.ireturn, 1) := by decide +kernel
theorem dX11_spoil_63 : decode cX11_spoil 63 = .ok (.aload_n 0, 1) := by decide +kernel
theorem dX11_spoil_64 : decode cX11_spoil 64 = .ok (.getfield 44, 3) := by decide +kernel
theorem dX11_spoil_67 : decode cX11_spoil 67 = .ok (.iload_n 1, 1) := by decide +kernel
theorem dX11_spoil_68 : decode cX11_spoil 68 = .ok (.iload_n 2, 1) := by decide +kernel
theorem dX11_spoil_69 : decode cX11_spoil 69 = .ok (.iload_n 3, 1) := by decide +kernel
theorem dX11_spoil_70 : decode cX11_spoil 70 = .ok (.invokevirtual 282, 3) := by decide +kernel
theorem dX11_spoil_73 : decode cX11_spoil 73 = .ok (.istore 5, 2) := by decide +kernel
theorem dX11_spoil_75 : decode cX11_spoil 75 = .ok (.aload_n 0, 1) := by decide +kernel
theorem dX11_spoil_76 : decode cX11_spoil 76 = .ok (.getfield 44, 3) := by decide +kernel
theorem dX11_spoil_79 : decode cX11_spoil 79 = .ok (.getfield 279, 3) := by decide +kernel
theorem dX11_spoil_82 : decode cX11_spoil 82 = .ok (.iload 5, 2) := by decide +kernel
theorem dX11_spoil_84 : decode cX11_spoil 84 = .ok (.iaload, 1) := by decide +kernel
theorem dX11_spoil_85 : decode cX11_spoil 85 = .ok (.istore 6, 2) := by decide +kernel
theorem dX11_spoil_87 : decode cX11_spoil 87 = .ok (.aload_n 0, 1) := by decide +kernel
theorem dX11_spoil_88 : decode cX11_spoil 88 = .ok (.getfield 44, 3) := by decide +kernel
theorem dX11_spoil_91 : decode cX11_spoil 91 = .ok (.getfield 279, 3) := by decide +kernel
theorem dX11_spoil_94 : decode cX11_spoil 94 = .ok (.iload 5, 2) := by decide +kernel
theorem dX11_spoil_96 : decode cX11_spoil 96 = .ok (.iload 4, 2) := by decide +kernel
theorem dX11_spoil_98 : decode cX11_spoil 98 = .ok (.iastore, 1) := by decide +kernel
theorem dX11_spoil_99 : decode cX11_spoil 99 = .ok (.iload 6, 2) := by decide +kernel
theorem dX11_spoil_101 : decode cX11_spoil 101 = .ok (.ireturn, 1) := by decide +kernel
theorem dX11_check_0 : decode cX11_check 0 = .ok (.aload_n 0, 1) := by decide +kernel
theorem dX11_check_1 : decode cX11_check 1 = .ok (.getfield 44, 3) := by decide +kernel
theorem dX11_check_4 : decode cX11_check 4 = .ok (.invokevirtual 261, 3) := by decide +kernel
theorem dX11_check_7 : decode cX11_check 7 = .ok (.ifCond .ne 10, 3) := by decide +kernel
theorem dX11_check_10 : decode cX11_check 10 = .ok (.aload_n 0, 1) := by decide +kernel
theorem dX11_check_11 : decode cX11_check 11 = .ok (.bipush (-2), 2) := by decide +kernel
theorem dX11_check_13 : decode cX11_check 13 = .ok (.invokevirtual 87, 3) := by decide +kernel
theorem dX11_check_16 : decode cX11_check 16 = .ok (.ireturn, 1) := by decide +kernel
theorem dX11_check_17 : decode cX11_check 17 = .ok (.aload_n 0, 1) := by decide +kernel
theorem dX11_check_18 : decode cX11_check 18 = .ok (.getfield 28, 3) := by decide +kernel
theorem dX11_check_21 : decode cX11_check 21 = .ok (.aload_n 0, 1) := by decide +kernel
theorem dX11_check_22 : decode cX11_check 22 = .ok (.getfield 44, 3) := by decide +kernel
theorem dX11_check_25 : decode cX11_check 25 = .ok (.getfield 249, 3) := by decide +kernel
theorem dX11_check_28 : decode cX11_check 28 = .ok (.aaload, 1) := by decide +kernel
theorem dX11_check_29 : decode cX11_check 29 = .ok (.astore_n 1, 1) := by decide +kernel
theorem dX11_check_30 : decode cX11_check 30 = .ok (.aload_n 1, 1) := by decide +kernel
theorem dX11_check_31 : decode cX11_check 31 = .ok (.ifnonnull 11, 3) := by decide +kernel
theorem dX11_check_34 : decode cX11_check 34 = .ok (.aload_n 0, 1) := by decide +kernel
theorem dX11_check_35 : decode cX11_check 35 = .ok (.iconst 1, 1) := by decide +kernel
theorem dX11_check_36 : decode cX11_check 36 = .ok (.invokevirtual 76, 3) := by decide +kernel
theorem dX11_check_39 : decode cX11_check 39 = .ok (.goto 23, 3) := by decide +kernel
theorem dX11_check_42 : decode cX11_check 42 = .ok (.aload_n 0, 1) := by decide +kernel
theorem dX11_check_43 : decode cX11_check 43 = .ok (.aload_n 0, 1) := by decide +kernel
theorem dX11_check_44 : decode cX11_check 44 = .ok (.getfield 44, 3) := by decide +kernel
theorem dX11_check_47 : decode cX11_check 47 = .ok (.aload_n 1, 1) := by decide +kernel
theorem dX11_check_48 : decode cX11_check 48 = .ok (.invokevirtual 287, 3) := by decide +kernel
theorem dX11_check_51 : decode cX11_check 51 = .ok (.ifCond .eq 7, 3) := by decide +kernel
theorem dX11_check_54 : decode cX11_check 54 = .ok (.iconst 1, 1) := by decide +kernel
theorem dX11_check_55 : decode cX11_check 55 = .ok (.goto 4, 3) := by decide +kernel
theorem dX11_check_58 : decode cX11_check 58 = .ok (.iconst 0, 1) := by decide +kernel
theorem dX11_check_59 : decode cX11_check 59 = .ok (.invokevirtual 87, 3) := by decide +kernel
theorem dX11_check_62 : decode cX11_check 62 = .ok (.ireturn, 1) := by decide +kernel
theorem dX11_print_0 : decode cX11_print 0 = .ok (.iload_n 1, 1) := by decide +kernel
theorem dX11_print_1 : decode cX11_print 1 = .ok (.invokestatic 72, 3) := by decide +kernel
theorem dX11_print_4 : decode cX11_print 4 = .ok (.ifCond .ne 5, 3) := by decide +kernel
theorem dX11_print_7 : decode cX11_print 7 = .ok (.iconst (-1), 1) := by decide +kernel
theorem dX11_print_8 : decode cX11_print 8 = .ok (.ireturn, 1) := by decide +kernel
theorem dX11_print_9 : decode cX11_print 9 = .ok (.aload_n 0, 1) := by decide +kernel
theorem dX11_print_10 : decode cX11_print 10 = .ok (.getfield 11, 3) := by decide +kernel
theorem dX11_print_13 : decode cX11_print 13 = .ok (.iload_n 1, 1) := by decide +kernel
theorem dX11_print_14 : decode cX11_print 14 = .ok (.aaload, 1) := by decide +kernel
theorem dX11_print_15 : decode cX11_print 15 = .ok (.invokestatic 112, 3) := by decide +kernel
theorem dX11_print_18 : decode cX11_print 18 = .ok (.istore_n 2, 1) := by decide +kernel
theorem dX11_print_19 : decode cX11_print 19 = .ok (.iload_n 2, 1) := by decide +kernel
theorem dX11_print_20 : decode cX11_print 20 = .ok (.ifCond .eq 9, 3) := by decide +kernel
theorem dX11_print_23 : decode cX11_print 23 = .ok (.aload_n 0, 1) := by decide +kernel
theorem dX11_print_24 : decode cX11_print 24 = .ok (.iload_n 2, 1) := by decide +kernel
theorem dX11_print_25 : decode cX11_print 25 = .ok (.invokevirtual 76, 3) := by decide +kernel
theorem dX11_print_28 : decode cX11_print 28 = .ok (.ireturn, 1) := by decide +kernel
theorem dX11_print_29 : decode cX11_print 29 = .ok (.aload_n 0, 1) := by decide +kernel
theorem dX11_print_30 : decode cX11_print 30 = .ok (.getfield 51, 3) := by decide +kernel
theorem dX11_print_33 : decode cX11_print 33 = .ok (.aload_n 0, 1) := by decide +kernel
theorem dX11_print_34 : decode cX11_print 34 = .ok (.getfield 11, 3) := by decide +kernel
theorem dX11_print_37 : decode cX11_print 37 = .ok (.iload_n 1, 1) := by decide +kernel
theorem dX11_print_38 : decode cX11_print 38 = .ok (.aaload, 1) := by decide +kernel
theorem dX11_print_39 : decode cX11_print 39 = .ok (.invokevirtual 290, 3) := by decide +kernel
theorem dX11_print_42 : decode cX11_print 42 = .ok (.aload_n 0, 1) := by decide +kernel
theorem dX11_print_43 : decode cX11_print 43 = .ok (.aload_n 0, 1) := by decide +kernel
theorem dX11_print_44 : decode cX11_print 44 = .ok (.getfield 51, 3) := by decide +kernel
theorem dX11_print_47 : decode cX11_print 47 = .ok (.getfield 293, 3) := by decide +kernel
theorem dX11_print_50 : decode cX11_print 50 = .ok (.invokevirtual 87, 3) := by decide +kernel
theorem dX11_print_53 : decode cX11_print 53 = .ok (.ireturn, 1) := by decide +kernel
theorem dX11_read_0 : decode cX11_read 0 = .ok (.iload_n 1, 1) := by decide +kernel
theorem dX11_read_1 : decode cX11_read 1 = .ok (.invokestatic 72, 3) := by decide +kernel
theorem dX11_read_4 : decode cX11_read 4 = .ok (.ifCond .ne 5, 3) := by decide +kernel
theorem dX11_read_7 : decode cX11_read 7 = .ok (.iconst (-1), 1) := by decide +kernel
theorem dX11_read_8 : decode cX11_read 8 = .ok (.ireturn, 1) := by decide +kernel
theorem dX11_read_9 : decode cX11_read 9 = .ok (.aload_n 0, 1) := by decide +kernel
theorem dX11_read_10 : decode cX11_read 10 = .ok (.getfield 51, 3) := by decide +kernel
theorem dX11_read_13 : decode cX11_read 13 = .ok (.aload_n 0, 1) := by decide +kernel
theorem dX11_read_14 : decode cX11_read 14 = .ok (.getfield 20, 3) := by decide +kernel
theorem dX11_read_17 : decode cX11_read 17 = .ok (.invokevirtual 296, 3) := by decide +kernel
theorem dX11_read_20 : decode cX11_read 20 = .ok (.istore_n 2, 1) := by decide +kernel
theorem dX11_read_21 : decode cX11_read 21 = .ok (.iload_n 2, 1) := by decide +kernel
theorem dX11_read_22 : decode cX11_read 22 = .ok (.bipush (-2), 2) := by decide +kernel
theorem dX11_read_24 : decode cX11_read 24 = .ok (.if_icmp .eq 12, 3) := by decide +kernel
theorem dX11_read_27 : decode cX11_read 27 = .ok (.aload_n 0, 1) := by decide +kernel
theorem dX11_read_28 : decode cX11_read 28 = .ok (.bipush (-100), 2) := by decide +kernel
theorem dX11_read_30 : decode cX11_read 30 = .ok (.iload_n 2, 1) := by decide +kernel
theorem dX11_read_31 : decode cX11_read 31 = .ok (.isub, 1) := by decide +kernel
theorem dX11_read_32 : decode cX11_read 32 = .ok (.invokevirtual 87, 3) := by decide +kernel
theorem dX11_read_35 : decode cX11_read 35 = .ok (.ireturn, 1) := by decide +kernel
theorem dX11_read_36 : decode cX11_read 36 = .ok (.aload_n 0, 1) := by decide +kernel
theorem dX11_read_37 : decode cX11_read 37 = .ok (.iload_n 1, 1) := by decide +kernel
theorem dX11_read_38 : decode cX11_read 38 = .ok (.invokevirtual 80, 3) := by decide +kernel
theorem dX11_read_41 : decode cX11_read 41 = .ok (.aload_n 0, 1) := by decide +kernel
theorem dX11_read_42 : decode cX11_read 42 = .ok (.getfield 11, 3) := by decide +kernel
theorem dX11_read_45 : decode cX11_read 45 = .ok (.iload_n 1, 1) := by decide +kernel
theorem dX11_read_46 : decode cX11_read 46 = .ok (.aaload, 1) := by decide +kernel
theorem dX11_read_47 : decode cX11_read 47 = .ok (.aload_n 0, 1) := by decide +kernel
theorem dX11_read_48 : decode cX11_read 48 = .ok (.getfield 20, 3) := by decide +kernel
theorem dX11_read_51 : decode cX11_read 51 = .ok (.invokevirtual 140, 3) := by decide +kernel
theorem dX11_read_54 : decode cX11_read 54 = .ok (.aload_n 0, 1) := by decide +kernel
theorem dX11_read_55 : decode cX11_read 55 = .ok (.aload_n 0, 1) := by decide +kernel
theorem dX11_read_56 : decode cX11_read 56 = .ok (.getfield 20, 3) := by decide +kernel
theorem dX11_read_59 : decode cX11_read 59 = .ok (.getfield 109, 3) := by decide +kernel
theorem dX11_read_62 : decode cX11_read 62 = .ok (.iconst 0, 1) := by decide +kernel
theorem dX11_read_63 : decode cX11_read 63 = .ok (.iaload, 1) := by decide +kernel
theorem dX11_read_64 : decode cX11_read 64 = .ok (.invokevirtual 87, 3) := by decide +kernel
theorem dX11_read_67 : decode cX11_read 67 = .ok (.ireturn, 1) := by decide +kernel
theorem dX11_put_0 : decode cX11_put 0 = .ok (.iload_n 1, 1) := by decide +kernel
theorem dX11_put_1 : decode cX11_put 1 = .ok (.iconst 0, 1) := by decide +kernel
theorem dX11_put_2 : decode cX11_put 2 = .ok (.aload_n 0, 1) := by decide +kernel
theorem dX11_put_3 : decode cX11_put 3 = .ok (.getfield 51, 3) := by decide +kernel
theorem dX11_put_6 : decode cX11_put 6 = .ok (.getfield 293, 3) := by decide +kernel
theorem dX11_put_9 : decode cX11_put 9 = .ok (.invokestatic 94, 3) := by decide +kernel
theorem dX11_put_12 : decode cX11_put 12 = .ok (.ifCond .eq 21, 3) := by decide +kernel
theorem dX11_put_15 : decode cX11_put 15 = .ok (.iload_n 1, 1) := by decide +kernel
theorem dX11_put_16 : decode cX11_put 16 = .ok (.sipush 160, 3) := by decide +kernel
theorem dX11_put_19 : decode cX11_put 19 = .ok (.if_icmp .ge 14, 3) := by decide +kernel
theorem dX11_put_22 : decode cX11_put 22 = .ok (.iload_n 2, 1) := by decide +kernel
theorem dX11_put_23 : decode cX11_put 23 = .ok (.bipush 32, 2) := by decide +kernel
theorem dX11_put_25 : decode cX11_put 25 = .ok (.bipush 126, 2) := by decide +kernel
theorem dX11_put_27 : decode cX11_put 27 = .ok (.invokestatic 94, 3) := by decide +kernel
theorem dX11_put_30 : decode cX11_put 30 = .ok (.ifCond .ne 5, 3) := by decide +kernel
theorem dX11_put_33 : decode cX11_put 33 = .ok (.iconst (-1), 1) := by decide +kernel
theorem dX11_put_34 : decode cX11_put 34 = .ok (.ireturn, 1) := by decide +kernel
theorem dX11_put_35 : decode cX11_put 35 = .ok (.aload_n 0, 1) := by decide +kernel
theorem dX11_put_36 : decode cX11_put 36 = .ok (.getfield 51, 3) := by decide +kernel
theorem dX11_put_39 : decode cX11_put 39 = .ok (.getfield 299, 3) := by decide +kernel
theorem dX11_put_42 : decode cX11_put 42 = .ok (.iload_n 1, 1) := by decide +kernel
theorem dX11_put_43 : decode cX11_put 43 = .ok (.iload_n 2, 1) := by decide +kernel
theorem dX11_put_44 : decode cX11_put 44 = .ok (.iastore, 1) := by decide +kernel
theorem dX11_put_45 : decode cX11_put 45 = .ok (.aload_n 0, 1) := by decide +kernel
theorem dX11_put_46 : decode cX11_put 46 = .ok (.getfield 51, 3) := by decide +kernel
theorem dX11_put_49 : decode cX11_put 49 = .ok (.aload_n 0, 1) := by decide +kernel
theorem dX11_put_50 : decode cX11_put 50 = .ok (.getfield 51, 3) := by decide +kernel
theorem dX11_put_53 : decode cX11_put 53 = .ok (.getfield 293, 3) := by decide +kernel
theorem dX11_put_56 : decode cX11_put 56 = .ok (.iload_n 1, 1) := by decide +kernel
theorem dX11_put_57 : decode cX11_put 57 = .ok (.iconst 1, 1) := by decide +kernel
theorem dX11_put_58 : decode cX11_put 58 = .ok (.iadd, 1) := by decide +kernel
theorem dX11_put_59 : decode cX11_put 59 = .ok (.invokestatic 193, 3) := by decide +kernel
theorem dX11_put_62 : decode cX11_put 62 = .ok (.putfield 293, 3) := by decide +kernel
theorem dX11_put_65 : decode cX11_put 65 = .ok (.iconst 1, 1) := by decide +kernel
theorem dX11_put_66 : decode cX11_put 66 = .ok (.ireturn, 1) := by decide +kernel
theorem dX11_cutLine_0 : decode cX11_cutLine 0 = .ok (.iload_n 1, 1) := by decide +kernel
theorem dX11_cutLine_1 : decode cX11_cutLine 1 = .ok (.iconst 0, 1) := by decide +kernel
theorem dX11_cutLine_2 : decode cX11_cutLine 2 = .ok (.aload_n 0, 1) := by decide +kernel
theorem dX11_cutLine_3 : decode cX11_cutLine 3 = .ok (.getfield 51, 3) := by decide +kernel
theorem dX11_cutLine_6 : decode cX11_cutLine 6 = .ok (.getfield 293, 3) := by decide +kernel
theorem dX11_cutLine_9 : decode cX11_cutLine 9 = .ok (.invokestatic 94, 3) := by decide +kernel
theorem dX11_cutLine_12 : decode cX11_cutLine 12 = .ok (.ifCond .ne 5, 3) := by decide +kernel
theorem dX11_cutLine_15 : decode cX11_cutLine 15 = .ok (.iconst (-1), 1) := by decide +kernel
theorem dX11_cutLine_16 : decode cX11_cutLine 16 = .ok (.ireturn, 1) := by decide +kernel
theorem dX11_cutLine_17 : decode cX11_cutLine 17 = .ok (.aload_n 0, 1) := by decide +kernel
theorem dX11_cutLine_18 : decode cX11_cutLine 18 = .ok (.getfield 51, 3) := by decide +kernel
theorem dX11_cutLine_21 : decode cX11_cutLine 21 = .ok (.getfield 293, 3) := by decide +kernel
theorem dX11_cutLine_24 : decode cX11_cutLine 24 = .ok (.istore_n 2, 1) := by decide +kernel
theorem dX11_cutLine_25 : decode cX11_cutLine 25 = .ok (.aload_n 0, 1) := by decide +kernel
theorem dX11_cutLine_26 : decode cX11_cutLine 26 = .ok (.getfield 51, 3) := by decide +kernel
theorem dX11_cutLine_29 : decode cX11_cutLine 29 = .ok (.iload_n 1, 1) := by decide +kernel
theorem dX11_cutLine_30 : decode cX11_cutLine 30 = .ok (.putfield 293, 3) := by decide +kernel
theorem dX11_cutLine_33 : decode cX11_cutLine 33 = .ok (.iload_n 2, 1) := by decide +kernel
theorem dX11_cutLine_34 : decode cX11_cutLine 34 = .ok (.ireturn, 1) := by decide +kernel
theorem dX11_character_0 : decode cX11_character 0 = .ok (.iload_n 1, 1) := by decide +kernel
theorem dX11_character_1 : decode cX11_character 1 = .ok (.iconst 0, 1) := by decide +kernel
theorem dX11_character_2 : decode cX11_character 2 = .ok (.aload_n 0, 1) := by decide +kernel
theorem dX11_character_3 : decode cX11_character 3 = .ok (.getfield 51, 3) := by decide +kernel
theorem dX11_character_6 : decode cX11_character 6 = .ok (.getfield 293, 3) := by decide +kernel
theorem dX11_character_9 : decode cX11_character 9 = .ok (.iconst 1, 1) := by decide +kernel
theorem dX11_character_10 : decode cX11_character 10 = .ok (.isub, 1) := by decide +kernel
theorem dX11_character_11 : decode cX11_character 11 = .ok (.invokestatic 94, 3) := by decide +kernel
theorem dX11_character_14 : decode cX11_character 14 = .ok (.ifCond .eq 15, 3) := by decide +kernel
theorem dX11_character_17 : decode cX11_character 17 = .ok (.aload_n 0, 1) := by decide +kernel
theorem dX11_character_18 : decode cX11_character 18 = .ok (.getfield 51, 3) := by decide +kernel
theorem dX11_character_21 : decode cX11_character 21 = .ok (.getfield 299, 3) := by decide +kernel
theorem dX11_character_24 : decode cX11_character 24 = .ok (.iload_n 1, 1) := by decide +kernel
theorem dX11_character_25 : decode cX11_character 25 = .ok (.iaload, 1) := by decide +kernel
theorem dX11_character_26 : decode cX11_character 26 = .ok (.goto 5, 3) := by decide +kernel
theorem dX11_character_29 : decode cX11_character 29 = .ok (.bipush (-2), 2) := by decide +kernel
theorem dX11_character_31 : decode cX11_character 31 = .ok (.ireturn, 1) := by decide +kernel
theorem dX11_status_0 : decode cX11_status 0 = .ok (.aload_n 0, 1) := by decide +kernel
theorem dX11_status_1 : decode cX11_status 1 = .ok (.getfield 302, 3) := by decide +kernel
theorem dX11_status_4 : decode cX11_status 4 = .ok (.ireturn, 1) := by decide +kernel
theorem dX11_trace_0 : decode cX11_trace 0 = .ok (.iload_n 1, 1) := by decide +kernel
theorem dX11_trace_1 : decode cX11_trace 1 = .ok (.iconst 0, 1) := by decide +kernel
theorem dX11_trace_2 : decode cX11_trace 2 = .ok (.aload_n 0, 1) := by decide +kernel
theorem dX11_trace_3 : decode cX11_trace 3 = .ok (.getfield 35, 3) := by decide +kernel
theorem dX11_trace_6 : decode cX11_trace 6 = .ok (.getfield 305, 3) := by decide +kernel
theorem dX11_trace_9 : decode cX11_trace 9 = .ok (.bipush 60, 2) := by decide +kernel
theorem dX11_trace_11 : decode cX11_trace 11 = .ok (.invokestatic 308, 3) := by decide +kernel
theorem dX11_trace_14 : decode cX11_trace 14 = .ok (.iconst 1, 1) := by decide +kernel
theorem dX11_trace_15 : decode cX11_trace 15 = .ok (.isub, 1) := by decide +kernel
theorem dX11_trace_16 : decode cX11_trace 16 = .ok (.invokestatic 94, 3) := by decide +kernel
theorem dX11_trace_19 : decode cX11_trace 19 = .ok (.ifCond .eq 15, 3) := by decide +kernel
theorem dX11_trace_22 : decode cX11_trace 22 = .ok (.aload_n 0, 1) := by decide +kernel
theorem dX11_trace_23 : decode cX11_trace 23 = .ok (.getfield 35, 3) := by decide +kernel
theorem dX11_trace_26 : decode cX11_trace 26 = .ok (.getfield 311, 3) := by decide +kernel
theorem dX11_trace_29 : decode cX11_trace 29 = .ok (.iload_n 1, 1) := by decide +kernel
theorem dX11_trace_30 : decode cX11_trace 30 = .ok (.iaload, 1) := by decide +kernel
theorem dX11_trace_31 : decode cX11_trace 31 = .ok (.goto 5, 3) := by decide +kernel
theorem dX11_trace_34 : decode cX11_trace 34 = .ok (.bipush (-2), 2) := by decide +kernel
theorem dX11_trace_36 : decode cX11_trace 36 = .ok (.ireturn, 1) := by decide +kernel
theorem dX11_count_0 : decode cX11_count 0 = .ok (.iload_n 1, 1) := by decide +kernel
theorem dX11_count_1 : decode cX11_count 1 = .ok (.tableswitch 104 0 7 #[47, 52, 57, 65, 70, 75, 83, 88], 47) := by decide +kernel
theorem dX11_count_48 : decode cX11_count 48 = .ok (.aload_n 0, 1) := by decide +kernel
theorem dX11_count_49 : decode cX11_count 49 = .ok (.getfield 202, 3) := by decide +kernel
theorem dX11_count_52 : decode cX11_count 52 = .ok (.ireturn, 1) := by decide +kernel
theorem dX11_count_53 : decode cX11_count 53 = .ok (.aload_n 0, 1) := by decide +kernel
theorem dX11_count_54 : decode cX11_count 54 = .ok (.getfield 314, 3) := by decide +kernel
theorem dX11_count_57 : decode cX11_count 57 = .ok (.ireturn, 1) := by decide +kernel
theorem dX11_count_58 : decode cX11_count 58 = .ok (.aload_n 0, 1) := by decide +kernel
theorem dX11_count_59 : decode cX11_count 59 = .ok (.getfield 35, 3) := by decide +kernel
theorem dX11_count_62 : decode cX11_count 62 = .ok (.getfield 305, 3) := by decide +kernel
theorem dX11_count_65 : decode cX11_count 65 = .ok (.ireturn, 1) := by decide +kernel
theorem dX11_count_66 : decode cX11_count 66 = .ok (.aload_n 0, 1) := by decide +kernel
theorem dX11_count_67 : decode cX11_count 67 = .ok (.invokevirtual 317, 3) := by decide +kernel
theorem dX11_count_70 : decode cX11_count 70 = .ok (.ireturn, 1) := by decide +kernel
theorem dX11_count_71 : decode cX11_count 71 = .ok (.aload_n 0, 1) := by decide +kernel
theorem dX11_count_72 : decode cX11_count 72 = .ok (.invokevirtual 320, 3) := by decide +kernel
theorem dX11_count_75 : decode cX11_count 75 = .ok (.ireturn, 1) := by decide +kernel
theorem dX11_count_76 : decode cX11_count 76 = .ok (.aload_n 0, 1) := by decide +kernel
theorem dX11_count_77 : decode cX11_count 77 = .ok (.getfield 44, 3) := by decide +kernel
theorem dX11_count_80 : decode cX11_count 80 = .ok (.getfield 323, 3) := by decide +kernel
theorem dX11_count_83 : decode cX11_count 83 = .ok (.ireturn, 1) := by decide +kernel
theorem dX11_count_84 : decode cX11_count 84 = .ok (.aload_n 0, 1) := by decide +kernel
theorem dX11_count_85 : decode cX11_count 85 = .ok (.getfield 128, 3) := by decide +kernel
theorem dX11_count_88 : decode cX11_count 88 = .ok (.ireturn, 1) := by decide +kernel
theorem dX11_count_89 : decode cX11_count 89 = .ok (.aload_n 0, 1) := by decide +kernel
theorem dX11_count_90 : decode cX11_count 90 = .ok (.getfield 68, 3) := by decide +kernel
theorem dX11_count_93 : decode cX11_count 93 = .ok (.invokestatic 72, 3) := by decide +kernel
theorem dX11_count_96 : decode cX11_count 96 = .ok (.ifCond .eq 7, 3) := by decide +kernel
theorem dX11_count_99 : decode cX11_count 99 = .ok (.iconst 1, 1) := by decide +kernel
theorem dX11_count_100 : decode cX11_count 100 = .ok (.goto 4, 3) := by decide +kernel
theorem dX11_count_103 : decode cX11_count 103 = .ok (.iconst 0, 1) := by decide +kernel
theorem dX11_count_104 : decode cX11_count 104 = .ok (.ireturn, 1) := by decide +kernel
theorem dX11_count_105 : decode cX11_count 105 = .ok (.iconst (-1), 1) := by decide +kernel
theorem dX11_count_106 : decode cX11_count 106 = .ok (.ireturn, 1) := by decide +kernel
theorem dX11_isWithin_0 : decode cX11_isWithin 0 = .ok (.iload_n 0, 1) := by decide +kernel
theorem dX11_isWithin_1 : decode cX11_isWithin 1 = .ok (.iload_n 1, 1) := by decide +kernel
theorem dX11_isWithin_2 : decode cX11_isWithin 2 = .ok (.if_icmp .lt 12, 3) := by decide +kernel
theorem dX11_isWithin_5 : decode cX11_isWithin 5 = .ok (.iload_n 0, 1) := by decide +kernel
theorem dX11_isWithin_6 : decode cX11_isWithin 6 = .ok (.iload_n 2, 1) := by decide +kernel
theorem dX11_isWithin_7 : decode cX11_isWithin 7 = .ok (.if_icmp .gt 7, 3) := by decide +kernel
theorem dX11_isWithin_10 : decode cX11_isWithin 10 = .ok (.iconst 1, 1) := by decide +kernel
theorem dX11_isWithin_11 : decode cX11_isWithin 11 = .ok (.goto 4, 3) := by decide +kernel
theorem dX11_isWithin_14 : decode cX11_isWithin 14 = .ok (.iconst 0, 1) := by decide +kernel
theorem dX11_isWithin_15 : decode cX11_isWithin 15 = .ok (.ireturn, 1) := by decide +kernel
theorem dX11_isVoice_0 : decode cX11_isVoice 0 = .ok (.iload_n 0, 1) := by decide +kernel
theorem dX11_isVoice_1 : decode cX11_isVoice 1 = .ok (.ifCond .lt 13, 3) := by decide +kernel
theorem dX11_isVoice_4 : decode cX11_isVoice 4 = .ok (.iload_n 0, 1) := by decide +kernel
theorem dX11_isVoice_5 : decode cX11_isVoice 5 = .ok (.bipush 6, 2) := by decide +kernel
theorem dX11_isVoice_7 : decode cX11_isVoice 7 = .ok (.if_icmp .ge 7, 3) := by decide +kernel
theorem dX11_isVoice_10 : decode cX11_isVoice 10 = .ok (.iconst 1, 1) := by decide +kernel
theorem dX11_isVoice_11 : decode cX11_isVoice 11 = .ok (.goto 4, 3) := by decide +kernel
theorem dX11_isVoice_14 : decode cX11_isVoice 14 = .ok (.iconst 0, 1) := by decide +kernel
theorem dX11_isVoice_15 : decode cX11_isVoice 15 = .ok (.ireturn, 1) := by decide +kernel
theorem dX11_isRow_0 : decode cX11_isRow 0 = .ok (.iload_n 0, 1) := by decide +kernel
theorem dX11_isRow_1 : decode cX11_isRow 1 = .ok (.ifCond .eq 8, 3) := by decide +kernel
theorem dX11_isRow_4 : decode cX11_isRow 4 = .ok (.iload_n 0, 1) := by decide +kernel
theorem dX11_isRow_5 : decode cX11_isRow 5 = .ok (.iconst 1, 1) := by decide +kernel
theorem dX11_isRow_6 : decode cX11_isRow 6 = .ok (.if_icmp .ne 7, 3) := by decide +kernel
theorem dX11_isRow_9 : decode cX11_isRow 9 = .ok (.iconst 1, 1) := by decide +kernel
theorem dX11_isRow_10 : decode cX11_isRow 10 = .ok (.goto 4, 3) := by decide +kernel
theorem dX11_isRow_13 : decode cX11_isRow 13 = .ok (.iconst 0, 1) := by decide +kernel
theorem dX11_isRow_14 : decode cX11_isRow 14 = .ok (.ireturn, 1) := by decide +kernel
theorem dX11_isPlace_0 : decode cX11_isPlace 0 = .ok (.iload_n 0, 1) := by decide +kernel
theorem dX11_isPlace_1 : decode cX11_isPlace 1 = .ok (.ifCond .lt 13, 3) := by decide +kernel
theorem dX11_isPlace_4 : decode cX11_isPlace 4 = .ok (.iload_n 0, 1) := by decide +kernel
theorem dX11_isPlace_5 : decode cX11_isPlace 5 = .ok (.bipush 16, 2) := by decide +kernel
theorem dX11_isPlace_7 : decode cX11_isPlace 7 = .ok (.if_icmp .ge 7, 3) := by decide +kernel
theorem dX11_isPlace_10 : decode cX11_isPlace 10 = .ok (.iconst 1, 1) := by decide +kernel
theorem dX11_isPlace_11 : decode cX11_isPlace 11 = .ok (.goto 4, 3) := by decide +kernel
theorem dX11_isPlace_14 : decode cX11_isPlace 14 = .ok (.iconst 0, 1) := by decide +kernel
theorem dX11_isPlace_15 : decode cX11_isPlace 15 = .ok (.ireturn, 1) := by decide +kernel
theorem dX11_isFollower_0 : decode cX11_isFollower 0 = .ok (.iload_n 0, 1) := by decide +kernel
theorem dX11_isFollower_1 : decode cX11_isFollower 1 = .ok (.iconst 0, 1) := by decide +kernel
theorem dX11_isFollower_2 : decode cX11_isFollower 2 = .ok (.bipush 60, 2) := by decide +kernel
theorem dX11_isFollower_4 : decode cX11_isFollower 4 = .ok (.invokestatic 94, 3) := by decide +kernel
theorem dX11_isFollower_7 : decode cX11_isFollower 7 = .ok (.ifCond .eq 27, 3) := by decide +kernel
theorem dX11_isFollower_10 : decode cX11_isFollower 10 = .ok (.iload_n 1, 1) := by decide +kernel
theorem dX11_isFollower_11 : decode cX11_isFollower 11 = .ok (.bipush (-60), 2) := by decide +kernel
theorem dX11_isFollower_13 : decode cX11_isFollower 13 = .ok (.bipush 60, 2) := by decide +kernel
theorem dX11_isFollower_15 : decode cX11_isFollower 15 = .ok (.invokestatic 94, 3) := by decide +kernel
theorem dX11_isFollower_18 : decode cX11_isFollower 18 = .ok (.ifCond .eq 16, 3) := by decide +kernel
theorem dX11_isFollower_21 : decode cX11_isFollower 21 = .ok (.iload_n 2, 1) := by decide +kernel
theorem dX11_isFollower_22 : decode cX11_isFollower 22 = .ok (.iconst 0, 1) := by decide +kernel
theorem dX11_isFollower_23 : decode cX11_isFollower 23 = .ok (.iconst 2, 1) := by decide +kernel
theorem dX11_isFollower_24 : decode cX11_isFollower 24 = .ok (.invokestatic 94, 3) := by decide +kernel
theorem dX11_isFollower_27 : decode cX11_isFollower 27 = .ok (.ifCond .eq 7, 3) := by decide +kernel
theorem dX11_isFollower_30 : decode cX11_isFollower 30 = .ok (.iconst 1, 1) := by decide +kernel
theorem dX11_isFollower_31 : decode cX11_isFollower 31 = .ok (.goto 4, 3) := by decide +kernel
theorem dX11_isFollower_34 : decode cX11_isFollower 34 = .ok (.iconst 0, 1) := by decide +kernel
theorem dX11_isFollower_35 : decode cX11_isFollower 35 = .ok (.ireturn, 1) := by decide +kernel
theorem dX11_finding_0 : decode cX11_finding 0 = .ok (.aload_n 0, 1) := by decide +kernel
theorem dX11_finding_1 : decode cX11_finding 1 = .ok (.iload_n 1, 1) := by decide +kernel
theorem dX11_finding_2 : decode cX11_finding 2 = .ok (.putfield 302, 3) := by decide +kernel
theorem dX11_finding_5 : decode cX11_finding 5 = .ok (.aload_n 0, 1) := by decide +kernel
theorem dX11_finding_6 : decode cX11_finding 6 = .ok (.dup, 1) := by decide +kernel
theorem dX11_finding_7 : decode cX11_finding 7 = .ok (.getfield 314, 3) := by decide +kernel
theorem dX11_finding_10 : decode cX11_finding 10 = .ok (.iconst 1, 1) := by decide +kernel
theorem dX11_finding_11 : decode cX11_finding 11 = .ok (.iadd, 1) := by decide +kernel
theorem dX11_finding_12 : decode cX11_finding 12 = .ok (.putfield 314, 3) := by decide +kernel
theorem dX11_finding_15 : decode cX11_finding 15 = .ok (.bipush (-10), 2) := by decide +kernel
theorem dX11_finding_17 : decode cX11_finding 17 = .ok (.iload_n 1, 1) := by decide +kernel
theorem dX11_finding_18 : decode cX11_finding 18 = .ok (.isub, 1) := by decide +kernel
theorem dX11_finding_19 : decode cX11_finding 19 = .ok (.ireturn, 1) := by decide +kernel
theorem dX11_fine_0 : decode cX11_fine 0 = .ok (.aload_n 0, 1) := by decide +kernel
theorem dX11_fine_1 : decode cX11_fine 1 = .ok (.iconst 0, 1) := by decide +kernel
theorem dX11_fine_2 : decode cX11_fine 2 = .ok (.putfield 302, 3) := by decide +kernel
theorem dX11_fine_5 : decode cX11_fine 5 = .ok (.iload_n 1, 1) := by decide +kernel
theorem dX11_fine_6 : decode cX11_fine 6 = .ok (.ireturn, 1) := by decide +kernel
theorem dX11_keep_0 : decode cX11_keep 0 = .ok (.aload_n 0, 1) := by decide +kernel
theorem dX11_keep_1 : decode cX11_keep 1 = .ok (.getfield 16, 3) := by decide +kernel
theorem dX11_keep_4 : decode cX11_keep 4 = .ok (.aload_n 0, 1) := by decide +kernel
theorem dX11_keep_5 : decode cX11_keep 5 = .ok (.getfield 11, 3) := by decide +kernel
theorem dX11_keep_8 : decode cX11_keep 8 = .ok (.iload_n 1, 1) := by decide +kernel
theorem dX11_keep_9 : decode cX11_keep 9 = .ok (.aaload, 1) := by decide +kernel
theorem dX11_keep_10 : decode cX11_keep 10 = .ok (.invokevirtual 140, 3) := by decide +kernel
theorem dX11_keep_13 : decode cX11_keep 13 = .ok (.aload_n 0, 1) := by decide +kernel
theorem dX11_keep_14 : decode cX11_keep 14 = .ok (.iload_n 1, 1) := by decide +kernel
theorem dX11_keep_15 : decode cX11_keep 15 = .ok (.putfield 68, 3) := by decide +kernel
theorem dX11_keep_18 : decode cX11_keep 18 = .ok (.return_, 1) := by decide +kernel
theorem dX11_goThrough_0 : decode cX11_goThrough 0 = .ok (.aload_n 0, 1) := by decide +kernel
theorem dX11_goThrough_1 : decode cX11_goThrough 1 = .ok (.getfield 90, 3) := by decide +kernel
theorem dX11_goThrough_4 : decode cX11_goThrough 4 = .ok (.ifCond .ne 5, 3) := by decide +kernel
theorem dX11_goThrough_7 : decode cX11_goThrough 7 = .ok (.iconst 1, 1) := by decide +kernel
theorem dX11_goThrough_8 : decode cX11_goThrough 8 = .ok (.ireturn, 1) := by decide +kernel
theorem dX11_goThrough_9 : decode cX11_goThrough 9 = .ok (.aload_n 0, 1) := by decide +kernel
theorem dX11_goThrough_10 : decode cX11_goThrough 10 = .ok (.invokevirtual 326, 3) := by decide +kernel
theorem dX11_goThrough_13 : decode cX11_goThrough 13 = .ok (.ifCond .eq 7, 3) := by decide +kernel
theorem dX11_goThrough_16 : decode cX11_goThrough 16 = .ok (.iconst 0, 1) := by decide +kernel
theorem dX11_goThrough_17 : decode cX11_goThrough 17 = .ok (.goto 4, 3) := by decide +kernel
theorem dX11_goThrough_20 : decode cX11_goThrough 20 = .ok (.iconst 2, 1) := by decide +kernel
theorem dX11_goThrough_21 : decode cX11_goThrough 21 = .ok (.ireturn, 1) := by decide +kernel
theorem dX11_voicesThere_0 : decode cX11_voicesThere 0 = .ok (.iconst 0, 1) := by decide +kernel
theorem dX11_voicesThere_1 : decode cX11_voicesThere 1 = .ok (.istore_n 1, 1) := by decide +kernel
theorem dX11_voicesThere_2 : decode cX11_voicesThere 2 = .ok (.iconst 0, 1) := by decide +kernel
theorem dX11_voicesThere_3 : decode cX11_voicesThere 3 = .ok (.istore_n 2, 1) := by decide +kernel
theorem dX11_voicesThere_4 : decode cX11_voicesThere 4 = .ok (.iload_n 2, 1) := by decide +kernel
theorem dX11_voicesThere_5 : decode cX11_voicesThere 5 = .ok (.bipush 6, 2) := by decide +kernel
theorem dX11_voicesThere_7 : decode cX11_voicesThere 7 = .ok (.if_icmp .ge 29, 3) := by decide +kernel
theorem dX11_voicesThere_10 : decode cX11_voicesThere 10 = .ok (.iload_n 1, 1) := by decide +kernel
theorem dX11_voicesThere_11 : decode cX11_voicesThere 11 = .ok (.aload_n 0, 1) := by decide +kernel
theorem dX11_voicesThere_12 : decode cX11_voicesThere 12 = .ok (.getfield 11, 3) := by decide +kernel
theorem dX11_voicesThere_15 : decode cX11_voicesThere 15 = .ok (.iload_n 2, 1) := by decide +kernel
theorem dX11_voicesThere_16 : decode cX11_voicesThere 16 = .ok (.aaload, 1) := by decide +kernel
theorem dX11_voicesThere_17 : decode cX11_voicesThere 17 = .ok (.getfield 90, 3) := by decide +kernel
theorem dX11_voicesThere_20 : decode cX11_voicesThere 20 = .ok (.ifCond .eq 7, 3) := by decide +kernel
theorem dX11_voicesThere_23 : decode cX11_voicesThere 23 = .ok (.iconst 1, 1) := by decide +kernel
theorem dX11_voicesThere_24 : decode cX11_voicesThere 24 = .ok (.goto 4, 3) := by decide +kernel
theorem dX11_voicesThere_27 : decode cX11_voicesThere 27 = .ok (.iconst 0, 1) := by decide +kernel
theorem dX11_voicesThere_28 : decode cX11_voicesThere 28 = .ok (.iadd, 1) := by decide +kernel
theorem dX11_voicesThere_29 : decode cX11_voicesThere 29 = .ok (.istore_n 1, 1) := by decide +kernel
theorem dX11_voicesThere_30 : decode cX11_voicesThere 30 = .ok (.iinc 2 1, 3) := by decide +kernel
theorem dX11_voicesThere_33 : decode cX11_voicesThere 33 = .ok (.goto (-29), 3) := by decide +kernel
theorem dX11_voicesThere_36 : decode cX11_voicesThere 36 = .ok (.iload_n 1, 1) := by decide +kernel
theorem dX11_voicesThere_37 : decode cX11_voicesThere 37 = .ok (.ireturn, 1) := by decide +kernel
theorem dX11_placesTaken_0 : decode cX11_placesTaken 0 = .ok (.iconst 0, 1) := by decide +kernel
theorem dX11_placesTaken_1 : decode cX11_placesTaken 1 = .ok (.istore_n 1, 1) := by decide +kernel
theorem dX11_placesTaken_2 : decode cX11_placesTaken 2 = .ok (.iconst 0, 1) := by decide +kernel
theorem dX11_placesTaken_3 : decode cX11_placesTaken 3 = .ok (.istore_n 2, 1) := by decide +kernel
theorem dX11_placesTaken_4 : decode cX11_placesTaken 4 = .ok (.iload_n 2, 1) := by decide +kernel
theorem dX11_placesTaken_5 : decode cX11_placesTaken 5 = .ok (.bipush 16, 2) := by decide +kernel
theorem dX11_placesTaken_7 : decode cX11_placesTaken 7 = .ok (.if_icmp .ge 26, 3) := by decide +kernel
theorem dX11_placesTaken_10 : decode cX11_placesTaken 10 = .ok (.iload_n 1, 1) := by decide +kernel
theorem dX11_placesTaken_11 : decode cX11_placesTaken 11 = .ok (.aload_n 0, 1) := by decide +kernel
theorem dX11_placesTaken_12 : decode cX11_placesTaken 12 = .ok (.getfield 28, 3) := by decide +kernel
theorem dX11_placesTaken_15 : decode cX11_placesTaken 15 = .ok (.iload_n 2, 1) := by decide +kernel
theorem dX11_placesTaken_16 : decode cX11_placesTaken 16 = .ok (.aaload, 1) := by decide +kernel
theorem dX11_placesTaken_17 : decode cX11_placesTaken 17 = .ok (.ifnull 7, 3) := by decide +kernel
theorem dX11_placesTaken_20 : decode cX11_placesTaken 20 = .ok (.iconst 1, 1) := by decide +kernel
theorem dX11_placesTaken_21 : decode cX11_placesTaken 21 = .ok (.goto 4, 3) := by decide +kernel
theorem dX11_placesTaken_24 : decode cX11_placesTaken 24 = .ok (.iconst 0, 1) := by decide +kernel
theorem dX11_placesTaken_25 : decode cX11_placesTaken 25 = .ok (.iadd, 1) := by decide +kernel
theorem dX11_placesTaken_26 : decode cX11_placesTaken 26 = .ok (.istore_n 1, 1) := by decide +kernel
theorem dX11_placesTaken_27 : decode cX11_placesTaken 27 = .ok (.iinc 2 1, 3) := by decide +kernel
theorem dX11_placesTaken_30 : decode cX11_placesTaken 30 = .ok (.goto (-26), 3) := by decide +kernel
theorem dX11_placesTaken_33 : decode cX11_placesTaken 33 = .ok (.iload_n 1, 1) := by decide +kernel
theorem dX11_placesTaken_34 : decode cX11_placesTaken 34 = .ok (.ireturn, 1) := by decide +kernel
theorem dX11_newRule_0 : decode cX11_newRule 0 = .ok (.iload_n 0, 1) := by decide +kernel
theorem dX11_newRule_1 : decode cX11_newRule 1 = .ok (.tableswitch 51 1 3 #[27, 35, 43], 27) := by decide +kernel
theorem dX11_newRule_28 : decode cX11_newRule 28 = .ok (.new 329, 3) := by decide +kernel
theorem dX11_newRule_31 : decode cX11_newRule 31 = .ok (.dup, 1) := by decide +kernel
theorem dX11_newRule_32 : decode cX11_newRule 32 = .ok (.invokespecial 331, 3) := by decide +kernel
theorem dX11_newRule_35 : decode cX11_newRule 35 = .ok (.areturn, 1) := by decide +kernel
theorem dX11_newRule_36 : decode cX11_newRule 36 = .ok (.new 332, 3) := by decide +kernel
theorem dX11_newRule_39 : decode cX11_newRule 39 = .ok (.dup, 1) := by decide +kernel
theorem dX11_newRule_40 : decode cX11_newRule 40 = .ok (.invokespecial 334, 3) := by decide +kernel
theorem dX11_newRule_43 : decode cX11_newRule 43 = .ok (.areturn, 1) := by decide +kernel
theorem dX11_newRule_44 : decode cX11_newRule 44 = .ok (.new 335, 3) := by decide +kernel
theorem dX11_newRule_47 : decode cX11_newRule 47 = .ok (.dup, 1) := by decide +kernel
theorem dX11_newRule_48 : decode cX11_newRule 48 = .ok (.invokespecial 337, 3) := by decide +kernel
theorem dX11_newRule_51 : decode cX11_newRule 51 = .ok (.areturn, 1) := by decide +kernel
theorem dX11_newRule_52 : decode cX11_newRule 52 = .ok (.new 338, 3) := by decide +kernel
theorem dX11_newRule_55 : decode cX11_newRule 55 = .ok (.dup, 1) := by decide +kernel
theorem dX11_newRule_56 : decode cX11_newRule 56 = .ok (.invokespecial 340, 3) := by decide +kernel
theorem dX11_newRule_59 : decode cX11_newRule 59 = .ok (.areturn, 1) := by decide +kernel
theorem dX11_standsAs_0 : decode cX11_standsAs 0 = .ok (.iload_n 1, 1) := by decide +kernel
theorem dX11_standsAs_1 : decode cX11_standsAs 1 = .ok (.tableswitch 51 0 3 #[31, 36, 41, 46], 31) := by decide +kernel
theorem dX11_standsAs_32 : decode cX11_standsAs 32 = .ok (.aload_n 0, 1) := by decide +kernel
theorem dX11_standsAs_33 : decode cX11_standsAs 33 = .ok (.instanceof 338, 3) := by decide +kernel
theorem dX11_standsAs_36 : decode cX11_standsAs 36 = .ok (.ireturn, 1) := by decide +kernel
theorem dX11_standsAs_37 : decode cX11_standsAs 37 = .ok (.aload_n 0, 1) := by decide +kernel
theorem dX11_standsAs_38 : decode cX11_standsAs 38 = .ok (.instanceof 329, 3) := by decide +kernel
theorem dX11_standsAs_41 : decode cX11_standsAs 41 = .ok (.ireturn, 1) := by decide +kernel
theorem dX11_standsAs_42 : decode cX11_standsAs 42 = .ok (.aload_n 0, 1) := by decide +kernel
theorem dX11_standsAs_43 : decode cX11_standsAs 43 = .ok (.instanceof 332, 3) := by decide +kernel
theorem dX11_standsAs_46 : decode cX11_standsAs 46 = .ok (.ireturn, 1) := by decide +kernel
theorem dX11_standsAs_47 : decode cX11_standsAs 47 = .ok (.aload_n 0, 1) := by decide +kernel
theorem dX11_standsAs_48 : decode cX11_standsAs 48 = .ok (.instanceof 335, 3) := by decide +kernel
theorem dX11_standsAs_51 : decode cX11_standsAs 51 = .ok (.ireturn, 1) := by decide +kernel
theorem dX11_standsAs_52 : decode cX11_standsAs 52 = .ok (.aload_n 0, 1) := by decide +kernel
theorem dX11_standsAs_53 : decode cX11_standsAs 53 = .ok (.instanceof 151, 3) := by decide +kernel
theorem dX11_standsAs_56 : decode cX11_standsAs 56 = .ok (.ireturn, 1) := by decide +kernel
theorem dX10_init_0 : decode cX10_init 0 = .ok (.aload_n 0, 1) := by decide +kernel
theorem dX10_init_1 : decode cX10_init 1 = .ok (.invokespecial 3, 3) := by decide +kernel
theorem dX10_init_4 : decode cX10_init 4 = .ok (.aload_n 0, 1) := by decide +kernel
theorem dX10_init_5 : decode cX10_init 5 = .ok (.iconst 2, 1) := by decide +kernel
theorem dX10_init_6 : decode cX10_init 6 = .ok (.bipush 24, 2) := by decide +kernel
theorem dX10_init_8 : decode cX10_init 8 = .ok (.multianewarray 9 2, 4) := by decide +kernel
theorem dX10_init_12 : decode cX10_init 12 = .ok (.putfield 11, 3) := by decide +kernel
theorem dX10_init_15 : decode cX10_init 15 = .ok (.aload_n 0, 1) := by decide +kernel
theorem dX10_init_16 : decode cX10_init 16 = .ok (.iconst 2, 1) := by decide +kernel
theorem dX10_init_17 : decode cX10_init 17 = .ok (.newarray .int, 2) := by decide +kernel
theorem dX10_init_19 : decode cX10_init 19 = .ok (.putfield 16, 3) := by decide +kernel
theorem dX10_init_22 : decode cX10_init 22 = .ok (.aload_n 0, 1) := by decide +kernel
theorem dX10_init_23 : decode cX10_init 23 = .ok (.sipush 192, 3) := by decide +kernel
theorem dX10_init_26 : decode cX10_init 26 = .ok (.newarray .int, 2) := by decide +kernel
theorem dX10_init_28 : decode cX10_init 28 = .ok (.putfield 20, 3) := by decide +kernel
theorem dX10_init_31 : decode cX10_init 31 = .ok (.return_, 1) := by decide +kernel
theorem dX10_renew_0 : decode cX10_renew 0 = .ok (.aload_n 0, 1) := by decide +kernel
theorem dX10_renew_1 : decode cX10_renew 1 = .ok (.iconst 1, 1) := by decide +kernel
theorem dX10_renew_2 : decode cX10_renew 2 = .ok (.putfield 23, 3) := by decide +kernel
theorem dX10_renew_5 : decode cX10_renew 5 = .ok (.aload_n 0, 1) := by decide +kernel
theorem dX10_renew_6 : decode cX10_renew 6 = .ok (.getfield 16, 3) := by decide +kernel
theorem dX10_renew_9 : decode cX10_renew 9 = .ok (.iconst 0, 1) := by decide +kernel
theorem dX10_renew_10 : decode cX10_renew 10 = .ok (.iload_n 1, 1) := by decide +kernel
theorem dX10_renew_11 : decode cX10_renew 11 = .ok (.iastore, 1) := by decide +kernel
theorem dX10_renew_12 : decode cX10_renew 12 = .ok (.aload_n 0, 1) := by decide +kernel
theorem dX10_renew_13 : decode cX10_renew 13 = .ok (.getfield 16, 3) := by decide +kernel
theorem dX10_renew_16 : decode cX10_renew 16 = .ok (.iconst 1, 1) := by decide +kernel
theorem dX10_renew_17 : decode cX10_renew 17 = .ok (.iload_n 1, 1) := by decide +kernel
theorem dX10_renew_18 : decode cX10_renew 18 = .ok (.iastore, 1) := by decide +kernel
theorem dX10_renew_19 : decode cX10_renew 19 = .ok (.aload_n 0, 1) := by decide +kernel
theorem dX10_renew_20 : decode cX10_renew 20 = .ok (.getfield 11, 3) := by decide +kernel
theorem dX10_renew_23 : decode cX10_renew 23 = .ok (.iconst 0, 1) := by decide +kernel
theorem dX10_renew_24 : decode cX10_renew 24 = .ok (.aaload, 1) := by decide +kernel
theorem dX10_renew_25 : decode cX10_renew 25 = .ok (.iconst 0, 1) := by decide +kernel
theorem dX10_renew_26 : decode cX10_renew 26 = .ok (.invokestatic 27, 3) := by decide +kernel
theorem dX10_renew_29 : decode cX10_renew 29 = .ok (.aload_n 0, 1) := by decide +kernel
theorem dX10_renew_30 : decode cX10_renew 30 = .ok (.getfield 11, 3) := by decide +kernel
theorem dX10_renew_33 : decode cX10_renew 33 = .ok (.iconst 1, 1) := by decide +kernel
theorem dX10_renew_34 : decode cX10_renew 34 = .ok (.aaload, 1) := by decide +kernel
theorem dX10_renew_35 : decode cX10_renew 35 = .ok (.iconst 1, 1) := by decide +kernel
theorem dX10_renew_36 : decode cX10_renew 36 = .ok (.invokestatic 27, 3) := by decide +kernel
theorem dX10_renew_39 : decode cX10_renew 39 = .ok (.return_, 1) := by decide +kernel
theorem dX10_becomeAs_0 : decode cX10_becomeAs 0 = .ok (.aload_n 0, 1) := by decide +kernel
theorem dX10_becomeAs_1 : decode cX10_becomeAs 1 = .ok (.aload_n 1, 1) := by decide +kernel
theorem dX10_becomeAs_2 : decode cX10_becomeAs 2 = .ok (.getfield 23, 3) := by decide +kernel
theorem dX10_becomeAs_5 : decode cX10_becomeAs 5 = .ok (.putfield 23, 3) := by decide +kernel
theorem dX10_becomeAs_8 : decode cX10_becomeAs 8 = .ok (.iconst 0, 1) := by decide +kernel
theorem dX10_becomeAs_9 : decode cX10_becomeAs 9 = .ok (.istore_n 2, 1) := by decide +kernel
theorem dX10_becomeAs_10 : decode cX10_becomeAs 10 = .ok (.iload_n 2, 1) := by decide +kernel
theorem dX10_becomeAs_11 : decode cX10_becomeAs 11 = .ok (.iconst 1, 1) := by decide +kernel
theorem dX10_becomeAs_12 : decode cX10_becomeAs 12 = .ok (.if_icmp .gt 40, 3) := by decide +kernel
theorem dX10_becomeAs_15 : decode cX10_becomeAs 15 = .ok (.aload_n 0, 1) := by decide +kernel
theorem dX10_becomeAs_16 : decode cX10_becomeAs 16 = .ok (.getfield 16, 3) := by decide +kernel
theorem dX10_becomeAs_19 : decode cX10_becomeAs 19 = .ok (.iload_n 2, 1) := by decide +kernel
theorem dX10_becomeAs_20 : decode cX10_becomeAs 20 = .ok (.aload_n 1, 1) := by decide +kernel
theorem dX10_becomeAs_21 : decode cX10_becomeAs 21 = .ok (.getfield 16, 3) := by decide +kernel
theorem dX10_becomeAs_24 : decode cX10_becomeAs 24 = .ok (.iload_n 2, 1) := by decide +kernel
theorem dX10_becomeAs_25 : decode cX10_becomeAs 25 = .ok (.iaload, 1) := by decide +kernel
theorem dX10_becomeAs_26 : decode cX10_becomeAs 26 = .ok (.iastore, 1) := by decide +kernel
theorem dX10_becomeAs_27 : decode cX10_becomeAs 27 = .ok (.aload_n 1, 1) := by decide +kernel
theorem dX10_becomeAs_28 : decode cX10_becomeAs 28 = .ok (.getfield 11, 3) := by decide +kernel
theorem dX10_becomeAs_31 : decode cX10_becomeAs 31 = .ok (.iload_n 2, 1) := by decide +kernel
theorem dX10_becomeAs_32 : decode cX10_becomeAs 32 = .ok (.aaload, 1) := by decide +kernel
theorem dX10_becomeAs_33 : decode cX10_becomeAs 33 = .ok (.iconst 0, 1) := by decide +kernel
theorem dX10_becomeAs_34 : decode cX10_becomeAs 34 = .ok (.aload_n 0, 1) := by decide +kernel
theorem dX10_becomeAs_35 : decode cX10_becomeAs 35 = .ok (.getfield 11, 3) := by decide +kernel
theorem dX10_becomeAs_38 : decode cX10_becomeAs 38 = .ok (.iload_n 2, 1) := by decide +kernel
theorem dX10_becomeAs_39 : decode cX10_becomeAs 39 = .ok (.aaload, 1) := by decide +kernel
theorem dX10_becomeAs_40 : decode cX10_becomeAs 40 = .ok (.iconst 0, 1) := by decide +kernel
theorem dX10_becomeAs_41 : decode cX10_becomeAs 41 = .ok (.bipush 24, 2) := by decide +kernel
theorem dX10_becomeAs_43 : decode cX10_becomeAs 43 = .ok (.invokestatic 33, 3) := by decide +kernel
theorem dX10_becomeAs_46 : decode cX10_becomeAs 46 = .ok (.iinc 2 1, 3) := by decide +kernel
theorem dX10_becomeAs_49 : decode cX10_becomeAs 49 = .ok (.goto (-39), 3) := by decide +kernel
theorem dX10_becomeAs_52 : decode cX10_becomeAs 52 = .ok (.return_, 1) := by decide +kernel
theorem dX5_init_0 : decode cX5_init 0 = .ok (.aload_n 0, 1) := by decide +kernel
theorem dX5_init_1 : decode cX5_init 1 = .ok (.invokespecial 3, 3) := by decide +kernel
theorem dX5_init_4 : decode cX5_init 4 = .ok (.aload_n 0, 1) := by decide +kernel
theorem dX5_init_5 : decode cX5_init 5 = .ok (.bipush 60, 2) := by decide +kernel
theorem dX5_init_7 : decode cX5_init 7 = .ok (.newarray .int, 2) := by decide +kernel
theorem dX5_init_9 : decode cX5_init 9 = .ok (.putfield 9, 3) := by decide +kernel
theorem dX5_init_12 : decode cX5_init 12 = .ok (.aload_n 0, 1) := by decide +kernel
theorem dX5_init_13 : decode cX5_init 13 = .ok (.iconst 4, 1) := by decide +kernel
theorem dX5_init_14 : decode cX5_init 14 = .ok (.putfield 15, 3) := by decide +kernel
theorem dX5_init_17 : decode cX5_init 17 = .ok (.return_, 1) := by decide +kernel
theorem dX5_openTrace_0 : decode cX5_openTrace 0 = .ok (.aload_n 0, 1) := by decide +kernel
theorem dX5_openTrace_1 : decode cX5_openTrace 1 = .ok (.iconst 0, 1) := by decide +kernel
theorem dX5_openTrace_2 : decode cX5_openTrace 2 = .ok (.putfield 19, 3) := by decide +kernel
theorem dX5_openTrace_5 : decode cX5_openTrace 5 = .ok (.aload_n 0, 1) := by decide +kernel
theorem dX5_openTrace_6 : decode cX5_openTrace 6 = .ok (.iconst 1, 1) := by decide +kernel
theorem dX5_openTrace_7 : decode cX5_openTrace 7 = .ok (.putfield 22, 3) := by decide +kernel
theorem dX5_openTrace_10 : decode cX5_openTrace 10 = .ok (.return_, 1) := by decide +kernel
theorem dX1_init_0 : decode cX1_init 0 = .ok (.aload_n 0, 1) := by decide +kernel
theorem dX1_init_1 : decode cX1_init 1 = .ok (.invokespecial 3, 3) := by decide +kernel
theorem dX1_init_4 : decode cX1_init 4 = .ok (.aload_n 0, 1) := by decide +kernel
theorem dX1_init_5 : decode cX1_init 5 = .ok (.iconst 3, 1) := by decide +kernel
theorem dX1_init_6 : decode cX1_init 6 = .ok (.newarray .int, 2) := by decide +kernel
theorem dX1_init_8 : decode cX1_init 8 = .ok (.dup, 1) := by decide +kernel
theorem dX1_init_9 : decode cX1_init 9 = .ok (.iconst 0, 1) := by decide +kernel
theorem dX1_init_10 : decode cX1_init 10 = .ok (.iconst 1, 1) := by decide +kernel
theorem dX1_init_11 : decode cX1_init 11 = .ok (.iastore, 1) := by decide +kernel
theorem dX1_init_12 : decode cX1_init 12 = .ok (.dup, 1) := by decide +kernel
theorem dX1_init_13 : decode cX1_init 13 = .ok (.iconst 1, 1) := by decide +kernel
theorem dX1_init_14 : decode cX1_init 14 = .ok (.iconst 1, 1) := by decide +kernel
theorem dX1_init_15 : decode cX1_init 15 = .ok (.iastore, 1) := by decide +kernel
theorem dX1_init_16 : decode cX1_init 16 = .ok (.dup, 1) := by decide +kernel
theorem dX1_init_17 : decode cX1_init 17 = .ok (.iconst 2, 1) := by decide +kernel
theorem dX1_init_18 : decode cX1_init 18 = .ok (.iconst 1, 1) := by decide +kernel
theorem dX1_init_19 : decode cX1_init 19 = .ok (.iastore, 1) := by decide +kernel
theorem dX1_init_20 : decode cX1_init 20 = .ok (.putfield 9, 3) := by decide +kernel
theorem dX1_init_23 : decode cX1_init 23 = .ok (.aload_n 0, 1) := by decide +kernel
theorem dX1_init_24 : decode cX1_init 24 = .ok (.sipush 4095, 3) := by decide +kernel
theorem dX1_init_27 : decode cX1_init 27 = .ok (.putfield 15, 3) := by decide +kernel
theorem dX1_init_30 : decode cX1_init 30 = .ok (.aload_n 0, 1) := by decide +kernel
theorem dX1_init_31 : decode cX1_init 31 = .ok (.iconst 1, 1) := by decide +kernel
theorem dX1_init_32 : decode cX1_init 32 = .ok (.putfield 19, 3) := by decide +kernel
theorem dX1_init_35 : decode cX1_init 35 = .ok (.aload_n 0, 1) := by decide +kernel
theorem dX1_init_36 : decode cX1_init 36 = .ok (.iconst 1, 1) := by decide +kernel
theorem dX1_init_37 : decode cX1_init 37 = .ok (.putfield 22, 3) := by decide +kernel
theorem dX1_init_40 : decode cX1_init 40 = .ok (.aload_n 0, 1) := by decide +kernel
theorem dX1_init_41 : decode cX1_init 41 = .ok (.new 25, 3) := by decide +kernel
theorem dX1_init_44 : decode cX1_init 44 = .ok (.dup, 1) := by decide +kernel
theorem dX1_init_45 : decode cX1_init 45 = .ok (.invokespecial 27, 3) := by decide +kernel
theorem dX1_init_48 : decode cX1_init 48 = .ok (.putfield 28, 3) := by decide +kernel
theorem dX1_init_51 : decode cX1_init 51 = .ok (.aload_n 0, 1) := by decide +kernel
theorem dX1_init_52 : decode cX1_init 52 = .ok (.bipush 24, 2) := by decide +kernel
theorem dX1_init_54 : decode cX1_init 54 = .ok (.newarray .int, 2) := by decide +kernel
theorem dX1_init_56 : decode cX1_init 56 = .ok (.putfield 32, 3) := by decide +kernel
theorem dX1_init_59 : decode cX1_init 59 = .ok (.aload_n 0, 1) := by decide +kernel
theorem dX1_init_60 : decode cX1_init 60 = .ok (.sipush 1248, 3) := by decide +kernel
theorem dX1_init_63 : decode cX1_init 63 = .ok (.newarray .int, 2) := by decide +kernel
theorem dX1_init_65 : decode cX1_init 65 = .ok (.putfield 35, 3) := by decide +kernel
theorem dX1_init_68 : decode cX1_init 68 = .ok (.aload_n 0, 1) := by decide +kernel
theorem dX1_init_69 : decode cX1_init 69 = .ok (.sipush 1248, 3) := by decide +kernel
theorem dX1_init_72 : decode cX1_init 72 = .ok (.newarray .int, 2) := by decide +kernel
theorem dX1_init_74 : decode cX1_init 74 = .ok (.putfield 38, 3) := by decide +kernel
theorem dX1_init_77 : decode cX1_init 77 = .ok (.aload_n 0, 1) := by decide +kernel
theorem dX1_init_78 : decode cX1_init 78 = .ok (.sipush 1248, 3) := by decide +kernel
theorem dX1_init_81 : decode cX1_init 81 = .ok (.newarray .int, 2) := by decide +kernel
theorem dX1_init_83 : decode cX1_init 83 = .ok (.putfield 41, 3) := by decide +kernel
theorem dX1_init_86 : decode cX1_init 86 = .ok (.aload_n 0, 1) := by decide +kernel
theorem dX1_init_87 : decode cX1_init 87 = .ok (.aload_n 1, 1) := by decide +kernel
theorem dX1_init_88 : decode cX1_init 88 = .ok (.putfield 44, 3) := by decide +kernel
theorem dX1_init_91 : decode cX1_init 91 = .ok (.return_, 1) := by decide +kernel
theorem dX1_isWorked_0 : decode cX1_isWorked 0 = .ok (.aload_n 0, 1) := by decide +kernel
theorem dX1_isWorked_1 : decode cX1_isWorked 1 = .ok (.getfield 56, 3) := by decide +kernel
theorem dX1_isWorked_4 : decode cX1_isWorked 4 = .ok (.ifCond .eq 18, 3) := by decide +kernel
theorem dX1_isWorked_7 : decode cX1_isWorked 7 = .ok (.aload_n 0, 1) := by decide +kernel
theorem dX1_isWorked_8 : decode cX1_isWorked 8 = .ok (.getfield 62, 3) := by decide +kernel
theorem dX1_isWorked_11 : decode cX1_isWorked 11 = .ok (.aload_n 0, 1) := by decide +kernel
theorem dX1_isWorked_12 : decode cX1_isWorked 12 = .ok (.invokevirtual 65, 3) := by decide +kernel
theorem dX1_isWorked_15 : decode cX1_isWorked 15 = .ok (.if_icmp .ne 7, 3) := by decide +kernel
theorem dX1_isWorked_18 : decode cX1_isWorked 18 = .ok (.iconst 1, 1) := by decide +kernel
theorem dX1_isWorked_19 : decode cX1_isWorked 19 = .ok (.goto 4, 3) := by decide +kernel
theorem dX1_isWorked_22 : decode cX1_isWorked 22 = .ok (.iconst 0, 1) := by decide +kernel
theorem dX1_isWorked_23 : decode cX1_isWorked 23 = .ok (.ireturn, 1) := by decide +kernel
theorem dX4_init_0 : decode cX4_init 0 = .ok (.aload_n 0, 1) := by decide +kernel
theorem dX4_init_1 : decode cX4_init 1 = .ok (.invokespecial 3, 3) := by decide +kernel
theorem dX4_init_4 : decode cX4_init 4 = .ok (.aload_n 0, 1) := by decide +kernel
theorem dX4_init_5 : decode cX4_init 5 = .ok (.sipush 160, 3) := by decide +kernel
theorem dX4_init_8 : decode cX4_init 8 = .ok (.newarray .int, 2) := by decide +kernel
theorem dX4_init_10 : decode cX4_init 10 = .ok (.putfield 9, 3) := by decide +kernel
theorem dX4_init_13 : decode cX4_init 13 = .ok (.return_, 1) := by decide +kernel
theorem dX4_wrongPlace_0 : decode cX4_wrongPlace 0 = .ok (.aload_n 1, 1) := by decide +kernel
theorem dX4_wrongPlace_1 : decode cX4_wrongPlace 1 = .ok (.iconst 0, 1) := by decide +kernel
theorem dX4_wrongPlace_2 : decode cX4_wrongPlace 2 = .ok (.invokevirtual 35, 3) := by decide +kernel
theorem dX4_wrongPlace_5 : decode cX4_wrongPlace 5 = .ok (.aload_n 0, 1) := by decide +kernel
theorem dX4_wrongPlace_6 : decode cX4_wrongPlace 6 = .ok (.iconst 0, 1) := by decide +kernel
theorem dX4_wrongPlace_7 : decode cX4_wrongPlace 7 = .ok (.putfield 38, 3) := by decide +kernel
theorem dX4_wrongPlace_10 : decode cX4_wrongPlace 10 = .ok (.iconst 0, 1) := by decide +kernel
theorem dX4_wrongPlace_11 : decode cX4_wrongPlace 11 = .ok (.istore_n 2, 1) := by decide +kernel
theorem dX4_wrongPlace_12 : decode cX4_wrongPlace 12 = .ok (.iload_n 2, 1) := by decide +kernel
theorem dX4_wrongPlace_13 : decode cX4_wrongPlace 13 = .ok (.bipush 24, 2) := by decide +kernel
theorem dX4_wrongPlace_15 : decode cX4_wrongPlace 15 = .ok (.if_icmp .ge 175, 3) := by decide +kernel
theorem dX4_wrongPlace_18 : decode cX4_wrongPlace 18 = .ok (.aload_n 0, 1) := by decide +kernel
theorem dX4_wrongPlace_19 : decode cX4_wrongPlace 19 = .ok (.getfield 15, 3) := by decide +kernel
theorem dX4_wrongPlace_22 : decode cX4_wrongPlace 22 = .ok (.ifCond .le 168, 3) := by decide +kernel
theorem dX4_wrongPlace_25 : decode cX4_wrongPlace 25 = .ok (.aload_n 0, 1) := by decide +kernel
theorem dX4_wrongPlace_26 : decode cX4_wrongPlace 26 = .ok (.getfield 38, 3) := by decide +kernel
theorem dX4_wrongPlace_29 : decode cX4_wrongPlace 29 = .ok (.istore_n 3, 1) := by decide +kernel
theorem dX4_wrongPlace_30 : decode cX4_wrongPlace 30 = .ok (.aload_n 0, 1) := by decide +kernel
theorem dX4_wrongPlace_31 : decode cX4_wrongPlace 31 = .ok (.invokevirtual 41, 3) := by decide +kernel
theorem dX4_wrongPlace_34 : decode cX4_wrongPlace 34 = .ok (.istore 4, 2) := by decide +kernel
theorem dX4_wrongPlace_36 : decode cX4_wrongPlace 36 = .ok (.iload 4, 2) := by decide +kernel
theorem dX4_wrongPlace_38 : decode cX4_wrongPlace 38 = .ok (.ifCond .ge 5, 3) := by decide +kernel
theorem dX4_wrongPlace_41 : decode cX4_wrongPlace 41 = .ok (.iload_n 3, 1) := by decide +kernel
theorem dX4_wrongPlace_42 : decode cX4_wrongPlace 42 = .ok (.ireturn, 1) := by decide +kernel
theorem dX4_wrongPlace_43 : decode cX4_wrongPlace 43 = .ok (.aload_n 0, 1) := by decide +kernel
theorem dX4_wrongPlace_44 : decode cX4_wrongPlace 44 = .ok (.invokevirtual 45, 3) := by decide +kernel
theorem dX4_wrongPlace_47 : decode cX4_wrongPlace 47 = .ok (.bipush 58, 2) := by decide +kernel
theorem dX4_wrongPlace_49 : decode cX4_wrongPlace 49 = .ok (.if_icmp .eq 8, 3) := by decide +kernel
theorem dX4_wrongPlace_52 : decode cX4_wrongPlace 52 = .ok (.aload_n 0, 1) := by decide +kernel
theorem dX4_wrongPlace_53 : decode cX4_wrongPlace 53 = .ok (.getfield 38, 3) := by decide +kernel
theorem dX4_wrongPlace_56 : decode cX4_wrongPlace 56 = .ok (.ireturn, 1) := by decide +kernel
theorem dX4_wrongPlace_57 : decode cX4_wrongPlace 57 = .ok (.aload_n 0, 1) := by decide +kernel
theorem dX4_wrongPlace_58 : decode cX4_wrongPlace 58 = .ok (.dup, 1) := by decide +kernel
theorem dX4_wrongPlace_59 : decode cX4_wrongPlace 59 = .ok (.getfield 38, 3) := by decide +kernel
theorem dX4_wrongPlace_62 : decode cX4_wrongPlace 62 = .ok (.iconst 1, 1) := by decide +kernel
theorem dX4_wrongPlace_63 : decode cX4_wrongPlace 63 = .ok (.iadd, 1) := by decide +kernel
theorem dX4_wrongPlace_64 : decode cX4_wrongPlace 64 = .ok (.putfield 38, 3) := by decide +kernel
theorem dX4_wrongPlace_67 : decode cX4_wrongPlace 67 = .ok (.aload_n 0, 1) := by decide +kernel
theorem dX4_wrongPlace_68 : decode cX4_wrongPlace 68 = .ok (.invokevirtual 45, 3) := by decide +kernel
theorem dX4_wrongPlace_71 : decode cX4_wrongPlace 71 = .ok (.bipush 48, 2) := by decide +kernel
theorem dX4_wrongPlace_73 : decode cX4_wrongPlace 73 = .ok (.isub, 1) := by decide +kernel
theorem dX4_wrongPlace_74 : decode cX4_wrongPlace 74 = .ok (.istore 5, 2) := by decide +kernel
theorem dX4_wrongPlace_76 : decode cX4_wrongPlace 76 = .ok (.iload 5, 2) := by decide +kernel
theorem dX4_wrongPlace_78 : decode cX4_wrongPlace 78 = .ok (.iconst 0, 1) := by decide +kernel
theorem dX4_wrongPlace_79 : decode cX4_wrongPlace 79 = .ok (.bipush 8, 2) := by decide +kernel
theorem dX4_wrongPlace_81 : decode cX4_wrongPlace 81 = .ok (.invokestatic 48, 3) := by decide +kernel
theorem dX4_wrongPlace_84 : decode cX4_wrongPlace 84 = .ok (.ifCond .ne 8, 3) := by decide +kernel
theorem dX4_wrongPlace_87 : decode cX4_wrongPlace 87 = .ok (.aload_n 0, 1) := by decide +kernel
theorem dX4_wrongPlace_88 : decode cX4_wrongPlace 88 = .ok (.getfield 38, 3) := by decide +kernel
theorem dX4_wrongPlace_91 : decode cX4_wrongPlace 91 = .ok (.ireturn, 1) := by decide +kernel
theorem dX4_wrongPlace_92 : decode cX4_wrongPlace 92 = .ok (.aload_n 0, 1) := by decide +kernel
theorem dX4_wrongPlace_93 : decode cX4_wrongPlace 93 = .ok (.dup, 1) := by decide +kernel
theorem dX4_wrongPlace_94 : decode cX4_wrongPlace 94 = .ok (.getfield 38, 3) := by decide +kernel
theorem dX4_wrongPlace_97 : decode cX4_wrongPlace 97 = .ok (.iconst 1, 1) := by decide +kernel
theorem dX4_wrongPlace_98 : decode cX4_wrongPlace 98 = .ok (.iadd, 1) := by decide +kernel
theorem dX4_wrongPlace_99 : decode cX4_wrongPlace 99 = .ok (.putfield 38, 3) := by decide +kernel
theorem dX4_wrongPlace_102 : decode cX4_wrongPlace 102 = .ok (.aload_n 1, 1) := by decide +kernel
theorem dX4_wrongPlace_103 : decode cX4_wrongPlace 103 = .ok (.getfield 28, 3) := by decide +kernel
theorem dX4_wrongPlace_106 : decode cX4_wrongPlace 106 = .ok (.iconst 0, 1) := by decide +kernel
theorem dX4_wrongPlace_107 : decode cX4_wrongPlace 107 = .ok (.aaload, 1) := by decide +kernel
theorem dX4_wrongPlace_108 : decode cX4_wrongPlace 108 = .ok (.iload_n 2, 1) := by decide +kernel
theorem dX4_wrongPlace_109 : decode cX4_wrongPlace 109 = .ok (.iload 4, 2) := by decide +kernel
theorem dX4_wrongPlace_111 : decode cX4_wrongPlace 111 = .ok (.iastore, 1) := by decide +kernel
theorem dX4_wrongPlace_112 : decode cX4_wrongPlace 112 = .ok (.aload_n 1, 1) := by decide +kernel
theorem dX4_wrongPlace_113 : decode cX4_wrongPlace 113 = .ok (.getfield 28, 3) := by decide +kernel
theorem dX4_wrongPlace_116 : decode cX4_wrongPlace 116 = .ok (.iconst 1, 1) := by decide +kernel
theorem dX4_wrongPlace_117 : decode cX4_wrongPlace 117 = .ok (.aaload, 1) := by decide +kernel
theorem dX4_wrongPlace_118 : decode cX4_wrongPlace 118 = .ok (.iload_n 2, 1) := by decide +kernel
theorem dX4_wrongPlace_119 : decode cX4_wrongPlace 119 = .ok (.iload 5, 2) := by decide +kernel
theorem dX4_wrongPlace_121 : decode cX4_wrongPlace 121 = .ok (.iastore, 1) := by decide +kernel
theorem dX4_wrongPlace_122 : decode cX4_wrongPlace 122 = .ok (.aload_n 1, 1) := by decide +kernel
theorem dX4_wrongPlace_123 : decode cX4_wrongPlace 123 = .ok (.getfield 19, 3) := by decide +kernel
theorem dX4_wrongPlace_126 : decode cX4_wrongPlace 126 = .ok (.iconst 0, 1) := by decide +kernel
theorem dX4_wrongPlace_127 : decode cX4_wrongPlace 127 = .ok (.iload_n 2, 1) := by decide +kernel
theorem dX4_wrongPlace_128 : decode cX4_wrongPlace 128 = .ok (.iconst 1, 1) := by decide +kernel
theorem dX4_wrongPlace_129 : decode cX4_wrongPlace 129 = .ok (.iadd, 1) := by decide +kernel
theorem dX4_wrongPlace_130 : decode cX4_wrongPlace 130 = .ok (.iastore, 1) := by decide +kernel
theorem dX4_wrongPlace_131 : decode cX4_wrongPlace 131 = .ok (.aload_n 1, 1) := by decide +kernel
theorem dX4_wrongPlace_132 : decode cX4_wrongPlace 132 = .ok (.getfield 19, 3) := by decide +kernel
theorem dX4_wrongPlace_135 : decode cX4_wrongPlace 135 = .ok (.iconst 1, 1) := by decide +kernel
theorem dX4_wrongPlace_136 : decode cX4_wrongPlace 136 = .ok (.iload_n 2, 1) := by decide +kernel
theorem dX4_wrongPlace_137 : decode cX4_wrongPlace 137 = .ok (.iconst 1, 1) := by decide +kernel
theorem dX4_wrongPlace_138 : decode cX4_wrongPlace 138 = .ok (.iadd, 1) := by decide +kernel
theorem dX4_wrongPlace_139 : decode cX4_wrongPlace 139 = .ok (.iastore, 1) := by decide +kernel
theorem dX4_wrongPlace_140 : decode cX4_wrongPlace 140 = .ok (.aload_n 0, 1) := by decide +kernel
theorem dX4_wrongPlace_141 : decode cX4_wrongPlace 141 = .ok (.getfield 38, 3) := by decide +kernel
theorem dX4_wrongPlace_144 : decode cX4_wrongPlace 144 = .ok (.aload_n 0, 1) := by decide +kernel
theorem dX4_wrongPlace_145 : decode cX4_wrongPlace 145 = .ok (.getfield 15, 3) := by decide +kernel
theorem dX4_wrongPlace_148 : decode cX4_wrongPlace 148 = .ok (.if_icmp .ne 6, 3) := by decide +kernel
theorem dX4_wrongPlace_151 : decode cX4_wrongPlace 151 = .ok (.bipush (-2), 2) := by decide +kernel
theorem dX4_wrongPlace_153 : decode cX4_wrongPlace 153 = .ok (.ireturn, 1) := by decide +kernel
theorem dX4_wrongPlace_154 : decode cX4_wrongPlace 154 = .ok (.aload_n 0, 1) := by decide +kernel
theorem dX4_wrongPlace_155 : decode cX4_wrongPlace 155 = .ok (.invokevirtual 45, 3) := by decide +kernel
theorem dX4_wrongPlace_158 : decode cX4_wrongPlace 158 = .ok (.bipush 32, 2) := by decide +kernel
theorem dX4_wrongPlace_160 : decode cX4_wrongPlace 160 = .ok (.if_icmp .ne 9, 3) := by decide +kernel
theorem dX4_wrongPlace_163 : decode cX4_wrongPlace 163 = .ok (.iload_n 2, 1) := by decide +kernel
theorem dX4_wrongPlace_164 : decode cX4_wrongPlace 164 = .ok (.bipush 23, 2) := by decide +kernel
theorem dX4_wrongPlace_166 : decode cX4_wrongPlace 166 = .ok (.if_icmp .ne 8, 3) := by decide +kernel
theorem dX4_wrongPlace_169 : decode cX4_wrongPlace 169 = .ok (.aload_n 0, 1) := by decide +kernel
theorem dX4_wrongPlace_170 : decode cX4_wrongPlace 170 = .ok (.getfield 38, 3) := by decide +kernel
theorem dX4_wrongPlace_173 : decode cX4_wrongPlace 173 = .ok (.ireturn, 1) := by decide +kernel
theorem dX4_wrongPlace_174 : decode cX4_wrongPlace 174 = .ok (.aload_n 0, 1) := by decide +kernel
theorem dX4_wrongPlace_175 : decode cX4_wrongPlace 175 = .ok (.dup, 1) := by decide +kernel
theorem dX4_wrongPlace_176 : decode cX4_wrongPlace 176 = .ok (.getfield 38, 3) := by decide +kernel
theorem dX4_wrongPlace_179 : decode cX4_wrongPlace 179 = .ok (.iconst 1, 1) := by decide +kernel
theorem dX4_wrongPlace_180 : decode cX4_wrongPlace 180 = .ok (.iadd, 1) := by decide +kernel
theorem dX4_wrongPlace_181 : decode cX4_wrongPlace 181 = .ok (.putfield 38, 3) := by decide +kernel
theorem dX4_wrongPlace_184 : decode cX4_wrongPlace 184 = .ok (.iinc 2 1, 3) := by decide +kernel
theorem dX4_wrongPlace_187 : decode cX4_wrongPlace 187 = .ok (.goto (-175), 3) := by decide +kernel
theorem dX4_wrongPlace_190 : decode cX4_wrongPlace 190 = .ok (.bipush (-2), 2) := by decide +kernel
theorem dX4_wrongPlace_192 : decode cX4_wrongPlace 192 = .ok (.ireturn, 1) := by decide +kernel
theorem dX9_init_0 : decode cX9_init 0 = .ok (.aload_n 0, 1) := by decide +kernel
theorem dX9_init_1 : decode cX9_init 1 = .ok (.invokespecial 1, 3) := by decide +kernel
theorem dX9_init_4 : decode cX9_init 4 = .ok (.return_, 1) := by decide +kernel
theorem dX7_init_0 : decode cX7_init 0 = .ok (.aload_n 0, 1) := by decide +kernel
theorem dX7_init_1 : decode cX7_init 1 = .ok (.invokespecial 3, 3) := by decide +kernel
theorem dX7_init_4 : decode cX7_init 4 = .ok (.aload_n 0, 1) := by decide +kernel
theorem dX7_init_5 : decode cX7_init 5 = .ok (.iconst 3, 1) := by decide +kernel
theorem dX7_init_6 : decode cX7_init 6 = .ok (.newarray .long, 2) := by decide +kernel
theorem dX7_init_8 : decode cX7_init 8 = .ok (.putfield 9, 3) := by decide +kernel
theorem dX7_init_11 : decode cX7_init 11 = .ok (.return_, 1) := by decide +kernel
theorem dX2_init_0 : decode cX2_init 0 = .ok (.aload_n 0, 1) := by decide +kernel
theorem dX2_init_1 : decode cX2_init 1 = .ok (.invokespecial 3, 3) := by decide +kernel
theorem dX2_init_4 : decode cX2_init 4 = .ok (.return_, 1) := by decide +kernel
theorem dX6_init_0 : decode cX6_init 0 = .ok (.aload_n 0, 1) := by decide +kernel
theorem dX6_init_1 : decode cX6_init 1 = .ok (.invokespecial 3, 3) := by decide +kernel
theorem dX6_init_4 : decode cX6_init 4 = .ok (.return_, 1) := by decide +kernel
theorem dX0_init_0 : decode cX0_init 0 = .ok (.aload_n 0, 1) := by decide +kernel
theorem dX0_init_1 : decode cX0_init 1 = .ok (.invokespecial 3, 3) := by decide +kernel
theorem dX0_init_4 : decode cX0_init 4 = .ok (.return_, 1) := by decide +kernel
theorem dX3_init_0 : decode cX3_init 0 = .ok (.aload_n 0, 1) := by decide +kernel
theorem dX3_init_1 : decode cX3_init 1 = .ok (.invokespecial 3, 3) := by decide +kernel
theorem dX3_init_4 : decode cX3_init 4 = .ok (.return_, 1) := by decide +kernel
theorem dX8_init_0 : decode cX8_init 0 = .ok (.aload_n 0, 1) := by decide +kernel
theorem dX8_init_1 : decode cX8_init 1 = .ok (.invokespecial 1, 3) := by decide +kernel
theorem dX8_init_4 : decode cX8_init 4 = .ok (.aload_n 0, 1) := by decide +kernel
theorem dX8_init_5 : decode cX8_init 5 = .ok (.iload_n 1, 1) := by decide +kernel
theorem dX8_init_6 : decode cX8_init 6 = .ok (.putfield 7, 3) := by decide +kernel
theorem dX8_init_9 : decode cX8_init 9 = .ok (.aload_n 0, 1) := by decide +kernel
theorem dX8_init_10 : decode cX8_init 10 = .ok (.iload_n 2, 1) := by decide +kernel
theorem dX8_init_11 : decode cX8_init 11 = .ok (.anewarray 13, 3) := by decide +kernel
theorem dX8_init_14 : decode cX8_init 14 = .ok (.putfield 15, 3) := by decide +kernel
theorem dX8_init_17 : decode cX8_init 17 = .ok (.return_, 1) := by decide +kernel
theorem dJ7_fill_53178_0 : decode cJ7_fill_53178 0 = .ok (.iconst 0, 1) := by decide +kernel
theorem dJ7_fill_53178_1 : decode cJ7_fill_53178 1 = .ok (.istore_n 2, 1) := by decide +kernel
theorem dJ7_fill_53178_2 : decode cJ7_fill_53178 2 = .ok (.aload_n 0, 1) := by decide +kernel
theorem dJ7_fill_53178_3 : decode cJ7_fill_53178 3 = .ok (.arraylength, 1) := by decide +kernel
theorem dJ7_fill_53178_4 : decode cJ7_fill_53178 4 = .ok (.istore_n 3, 1) := by decide +kernel
theorem dJ7_fill_53178_5 : decode cJ7_fill_53178 5 = .ok (.iload_n 2, 1) := by decide +kernel
theorem dJ7_fill_53178_6 : decode cJ7_fill_53178 6 = .ok (.iload_n 3, 1) := by decide +kernel
theorem dJ7_fill_53178_7 : decode cJ7_fill_53178 7 = .ok (.if_icmp .ge 13, 3) := by decide +kernel
theorem dJ7_fill_53178_10 : decode cJ7_fill_53178 10 = .ok (.aload_n 0, 1) := by decide +kernel
theorem dJ7_fill_53178_11 : decode cJ7_fill_53178 11 = .ok (.iload_n 2, 1) := by decide +kernel
theorem dJ7_fill_53178_12 : decode cJ7_fill_53178 12 = .ok (.iload_n 1, 1) := by decide +kernel
theorem dJ7_fill_53178_13 : decode cJ7_fill_53178 13 = .ok (.iastore, 1) := by decide +kernel
theorem dJ7_fill_53178_14 : decode cJ7_fill_53178 14 = .ok (.iinc 2 1, 3) := by decide +kernel
theorem dJ7_fill_53178_17 : decode cJ7_fill_53178 17 = .ok (.goto (-12), 3) := by decide +kernel
theorem dJ7_fill_53178_20 : decode cJ7_fill_53178 20 = .ok (.return_, 1) := by decide +kernel
