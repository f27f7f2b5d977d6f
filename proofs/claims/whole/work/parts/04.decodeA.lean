theorem dX0_init_0 : decode cX0_init 0 = .ok (.aload_n 0, 1) := by decide +kernel
theorem dX0_init_1 : decode cX0_init 1 = .ok (.invokespecial 3, 3) := by decide +kernel
theorem dX0_init_4 : decode cX0_init 4 = .ok (.aload_n 0, 1) := by decide +kernel
theorem dX0_init_5 : decode cX0_init 5 = .ok (.iconst 5, 1) := by decide +kernel
theorem dX0_init_6 : decode cX0_init 6 = .ok (.newarray .int, 2) := by decide +kernel
theorem dX0_init_8 : decode cX0_init 8 = .ok (.putfield 9, 3) := by decide +kernel
theorem dX0_init_11 : decode cX0_init 11 = .ok (.aload_n 0, 1) := by decide +kernel
theorem dX0_init_12 : decode cX0_init 12 = .ok (.iconst 0, 1) := by decide +kernel
theorem dX0_init_13 : decode cX0_init 13 = .ok (.putfield 15, 3) := by decide +kernel
theorem dX0_init_16 : decode cX0_init 16 = .ok (.aload_n 0, 1) := by decide +kernel
theorem dX0_init_17 : decode cX0_init 17 = .ok (.iconst 0, 1) := by decide +kernel
theorem dX0_init_18 : decode cX0_init 18 = .ok (.putfield 19, 3) := by decide +kernel
theorem dX0_init_21 : decode cX0_init 21 = .ok (.aload_n 0, 1) := by decide +kernel
theorem dX0_init_22 : decode cX0_init 22 = .ok (.bipush 48, 2) := by decide +kernel
theorem dX0_init_24 : decode cX0_init 24 = .ok (.newarray .int, 2) := by decide +kernel
theorem dX0_init_26 : decode cX0_init 26 = .ok (.putfield 22, 3) := by decide +kernel
theorem dX0_init_29 : decode cX0_init 29 = .ok (.aload_n 0, 1) := by decide +kernel
theorem dX0_init_30 : decode cX0_init 30 = .ok (.bipush 6, 2) := by decide +kernel
theorem dX0_init_32 : decode cX0_init 32 = .ok (.newarray .int, 2) := by decide +kernel
theorem dX0_init_34 : decode cX0_init 34 = .ok (.putfield 25, 3) := by decide +kernel
theorem dX0_init_37 : decode cX0_init 37 = .ok (.aload_n 0, 1) := by decide +kernel
theorem dX0_init_38 : decode cX0_init 38 = .ok (.aload_n 1, 1) := by decide +kernel
theorem dX0_init_39 : decode cX0_init 39 = .ok (.putfield 28, 3) := by decide +kernel
theorem dX0_init_42 : decode cX0_init 42 = .ok (.aload_n 0, 1) := by decide +kernel
theorem dX0_init_43 : decode cX0_init 43 = .ok (.aload_n 2, 1) := by decide +kernel
theorem dX0_init_44 : decode cX0_init 44 = .ok (.putfield 32, 3) := by decide +kernel
theorem dX0_init_47 : decode cX0_init 47 = .ok (.aload_n 0, 1) := by decide +kernel
theorem dX0_init_48 : decode cX0_init 48 = .ok (.aload_n 3, 1) := by decide +kernel
theorem dX0_init_49 : decode cX0_init 49 = .ok (.putfield 36, 3) := by decide +kernel
theorem dX0_init_52 : decode cX0_init 52 = .ok (.return_, 1) := by decide +kernel
theorem dX0_note_0 : decode cX0_note 0 = .ok (.iconst 0, 1) := by decide +kernel
theorem dX0_note_1 : decode cX0_note 1 = .ok (.istore 4, 2) := by decide +kernel
theorem dX0_note_3 : decode cX0_note 3 = .ok (.iload 4, 2) := by decide +kernel
theorem dX0_note_5 : decode cX0_note 5 = .ok (.bipush 8, 2) := by decide +kernel
theorem dX0_note_7 : decode cX0_note 7 = .ok (.if_icmp .ge 22, 3) := by decide +kernel
theorem dX0_note_10 : decode cX0_note 10 = .ok (.aload_n 0, 1) := by decide +kernel
theorem dX0_note_11 : decode cX0_note 11 = .ok (.getfield 22, 3) := by decide +kernel
theorem dX0_note_14 : decode cX0_note 14 = .ok (.iload_n 1, 1) := by decide +kernel
theorem dX0_note_15 : decode cX0_note 15 = .ok (.bipush 8, 2) := by decide +kernel
theorem dX0_note_17 : decode cX0_note 17 = .ok (.imul, 1) := by decide +kernel
theorem dX0_note_18 : decode cX0_note 18 = .ok (.iload 4, 2) := by decide +kernel
theorem dX0_note_20 : decode cX0_note 20 = .ok (.iadd, 1) := by decide +kernel
theorem dX0_note_21 : decode cX0_note 21 = .ok (.iconst 0, 1) := by decide +kernel
theorem dX0_note_22 : decode cX0_note 22 = .ok (.iastore, 1) := by decide +kernel
theorem dX0_note_23 : decode cX0_note 23 = .ok (.iinc 4 1, 3) := by decide +kernel
theorem dX0_note_26 : decode cX0_note 26 = .ok (.goto (-23), 3) := by decide +kernel
theorem dX0_note_29 : decode cX0_note 29 = .ok (.aload_n 0, 1) := by decide +kernel
theorem dX0_note_30 : decode cX0_note 30 = .ok (.getfield 36, 3) := by decide +kernel
theorem dX0_note_33 : decode cX0_note 33 = .ok (.iload_n 1, 1) := by decide +kernel
theorem dX0_note_34 : decode cX0_note 34 = .ok (.iload_n 2, 1) := by decide +kernel
theorem dX0_note_35 : decode cX0_note 35 = .ok (.iload_n 3, 1) := by decide +kernel
theorem dX0_note_36 : decode cX0_note 36 = .ok (.invokevirtual 42, 3) := by decide +kernel
theorem dX0_note_39 : decode cX0_note 39 = .ok (.iconst 0, 1) := by decide +kernel
theorem dX0_note_40 : decode cX0_note 40 = .ok (.istore 4, 2) := by decide +kernel
theorem dX0_note_42 : decode cX0_note 42 = .ok (.iload 4, 2) := by decide +kernel
theorem dX0_note_44 : decode cX0_note 44 = .ok (.aload_n 0, 1) := by decide +kernel
theorem dX0_note_45 : decode cX0_note 45 = .ok (.getfield 32, 3) := by decide +kernel
theorem dX0_note_48 : decode cX0_note 48 = .ok (.getfield 48, 3) := by decide +kernel
theorem dX0_note_51 : decode cX0_note 51 = .ok (.iload_n 1, 1) := by decide +kernel
theorem dX0_note_52 : decode cX0_note 52 = .ok (.iaload, 1) := by decide +kernel
theorem dX0_note_53 : decode cX0_note 53 = .ok (.if_icmp .ge 58, 3) := by decide +kernel
theorem dX0_note_56 : decode cX0_note 56 = .ok (.aload_n 0, 1) := by decide +kernel
theorem dX0_note_57 : decode cX0_note 57 = .ok (.getfield 36, 3) := by decide +kernel
theorem dX0_note_60 : decode cX0_note 60 = .ok (.getfield 53, 3) := by decide +kernel
theorem dX0_note_63 : decode cX0_note 63 = .ok (.iload 4, 2) := by decide +kernel
theorem dX0_note_65 : decode cX0_note 65 = .ok (.iaload, 1) := by decide +kernel
theorem dX0_note_66 : decode cX0_note 66 = .ok (.istore 5, 2) := by decide +kernel
theorem dX0_note_68 : decode cX0_note 68 = .ok (.iload 5, 2) := by decide +kernel
theorem dX0_note_70 : decode cX0_note 70 = .ok (.bipush (-9), 2) := by decide +kernel
theorem dX0_note_72 : decode cX0_note 72 = .ok (.if_icmp .ne 6, 3) := by decide +kernel
theorem dX0_note_75 : decode cX0_note 75 = .ok (.goto 30, 3) := by decide +kernel
theorem dX0_note_78 : decode cX0_note 78 = .ok (.aload_n 0, 1) := by decide +kernel
theorem dX0_note_79 : decode cX0_note 79 = .ok (.getfield 22, 3) := by decide +kernel
theorem dX0_note_82 : decode cX0_note 82 = .ok (.iload_n 1, 1) := by decide +kernel
theorem dX0_note_83 : decode cX0_note 83 = .ok (.bipush 8, 2) := by decide +kernel
theorem dX0_note_85 : decode cX0_note 85 = .ok (.imul, 1) := by decide +kernel
theorem dX0_note_86 : decode cX0_note 86 = .ok (.iload 5, 2) := by decide +kernel
theorem dX0_note_88 : decode cX0_note 88 = .ok (.iadd, 1) := by decide +kernel
theorem dX0_note_89 : decode cX0_note 89 = .ok (.aload_n 0, 1) := by decide +kernel
theorem dX0_note_90 : decode cX0_note 90 = .ok (.getfield 36, 3) := by decide +kernel
theorem dX0_note_93 : decode cX0_note 93 = .ok (.iload_n 1, 1) := by decide +kernel
theorem dX0_note_94 : decode cX0_note 94 = .ok (.iload 4, 2) := by decide +kernel
theorem dX0_note_96 : decode cX0_note 96 = .ok (.iload 5, 2) := by decide +kernel
theorem dX0_note_98 : decode cX0_note 98 = .ok (.invokevirtual 56, 3) := by decide +kernel
theorem dX0_note_101 : decode cX0_note 101 = .ok (.invokestatic 60, 3) := by decide +kernel
theorem dX0_note_104 : decode cX0_note 104 = .ok (.iastore, 1) := by decide +kernel
theorem dX0_note_105 : decode cX0_note 105 = .ok (.iinc 4 1, 3) := by decide +kernel
theorem dX0_note_108 : decode cX0_note 108 = .ok (.goto (-66), 3) := by decide +kernel
theorem dX0_note_111 : decode cX0_note 111 = .ok (.return_, 1) := by decide +kernel
theorem dX0_faultOf_0 : decode cX0_faultOf 0 = .ok (.aload_n 0, 1) := by decide +kernel
theorem dX0_faultOf_1 : decode cX0_faultOf 1 = .ok (.getfield 22, 3) := by decide +kernel
theorem dX0_faultOf_4 : decode cX0_faultOf 4 = .ok (.iload_n 1, 1) := by decide +kernel
theorem dX0_faultOf_5 : decode cX0_faultOf 5 = .ok (.bipush 8, 2) := by decide +kernel
theorem dX0_faultOf_7 : decode cX0_faultOf 7 = .ok (.imul, 1) := by decide +kernel
theorem dX0_faultOf_8 : decode cX0_faultOf 8 = .ok (.iload_n 2, 1) := by decide +kernel
theorem dX0_faultOf_9 : decode cX0_faultOf 9 = .ok (.iadd, 1) := by decide +kernel
theorem dX0_faultOf_10 : decode cX0_faultOf 10 = .ok (.iaload, 1) := by decide +kernel
theorem dX0_faultOf_11 : decode cX0_faultOf 11 = .ok (.ireturn, 1) := by decide +kernel
theorem dX0_inBoth_0 : decode cX0_inBoth 0 = .ok (.iconst 0, 1) := by decide +kernel
theorem dX0_inBoth_1 : decode cX0_inBoth 1 = .ok (.istore_n 3, 1) := by decide +kernel
theorem dX0_inBoth_2 : decode cX0_inBoth 2 = .ok (.iconst 0, 1) := by decide +kernel
theorem dX0_inBoth_3 : decode cX0_inBoth 3 = .ok (.istore 4, 2) := by decide +kernel
theorem dX0_inBoth_5 : decode cX0_inBoth 5 = .ok (.iload 4, 2) := by decide +kernel
theorem dX0_inBoth_7 : decode cX0_inBoth 7 = .ok (.aload_n 0, 1) := by decide +kernel
theorem dX0_inBoth_8 : decode cX0_inBoth 8 = .ok (.getfield 28, 3) := by decide +kernel
theorem dX0_inBoth_11 : decode cX0_inBoth 11 = .ok (.getfield 64, 3) := by decide +kernel
theorem dX0_inBoth_14 : decode cX0_inBoth 14 = .ok (.if_icmp .ge 38, 3) := by decide +kernel
theorem dX0_inBoth_17 : decode cX0_inBoth 17 = .ok (.aload_n 0, 1) := by decide +kernel
theorem dX0_inBoth_18 : decode cX0_inBoth 18 = .ok (.iload_n 1, 1) := by decide +kernel
theorem dX0_inBoth_19 : decode cX0_inBoth 19 = .ok (.iload 4, 2) := by decide +kernel
theorem dX0_inBoth_21 : decode cX0_inBoth 21 = .ok (.invokevirtual 69, 3) := by decide +kernel
theorem dX0_inBoth_24 : decode cX0_inBoth 24 = .ok (.istore 5, 2) := by decide +kernel
theorem dX0_inBoth_26 : decode cX0_inBoth 26 = .ok (.iload 5, 2) := by decide +kernel
theorem dX0_inBoth_28 : decode cX0_inBoth 28 = .ok (.ifCond .eq 18, 3) := by decide +kernel
theorem dX0_inBoth_31 : decode cX0_inBoth 31 = .ok (.iload 5, 2) := by decide +kernel
theorem dX0_inBoth_33 : decode cX0_inBoth 33 = .ok (.aload_n 0, 1) := by decide +kernel
theorem dX0_inBoth_34 : decode cX0_inBoth 34 = .ok (.iload_n 2, 1) := by decide +kernel
theorem dX0_inBoth_35 : decode cX0_inBoth 35 = .ok (.iload 4, 2) := by decide +kernel
theorem dX0_inBoth_37 : decode cX0_inBoth 37 = .ok (.invokevirtual 69, 3) := by decide +kernel
theorem dX0_inBoth_40 : decode cX0_inBoth 40 = .ok (.if_icmp .ne 6, 3) := by decide +kernel
theorem dX0_inBoth_43 : decode cX0_inBoth 43 = .ok (.iinc 3 1, 3) := by decide +kernel
theorem dX0_inBoth_46 : decode cX0_inBoth 46 = .ok (.iinc 4 1, 3) := by decide +kernel
theorem dX0_inBoth_49 : decode cX0_inBoth 49 = .ok (.goto (-44), 3) := by decide +kernel
theorem dX0_inBoth_52 : decode cX0_inBoth 52 = .ok (.iload_n 3, 1) := by decide +kernel
theorem dX0_inBoth_53 : decode cX0_inBoth 53 = .ok (.ireturn, 1) := by decide +kernel
theorem dX0_unlike_0 : decode cX0_unlike 0 = .ok (.iconst 0, 1) := by decide +kernel
theorem dX0_unlike_1 : decode cX0_unlike 1 = .ok (.istore_n 3, 1) := by decide +kernel
theorem dX0_unlike_2 : decode cX0_unlike 2 = .ok (.iconst 0, 1) := by decide +kernel
theorem dX0_unlike_3 : decode cX0_unlike 3 = .ok (.istore 4, 2) := by decide +kernel
theorem dX0_unlike_5 : decode cX0_unlike 5 = .ok (.iload 4, 2) := by decide +kernel
theorem dX0_unlike_7 : decode cX0_unlike 7 = .ok (.aload_n 0, 1) := by decide +kernel
theorem dX0_unlike_8 : decode cX0_unlike 8 = .ok (.getfield 28, 3) := by decide +kernel
theorem dX0_unlike_11 : decode cX0_unlike 11 = .ok (.getfield 64, 3) := by decide +kernel
theorem dX0_unlike_14 : decode cX0_unlike 14 = .ok (.if_icmp .ge 29, 3) := by decide +kernel
theorem dX0_unlike_17 : decode cX0_unlike 17 = .ok (.aload_n 0, 1) := by decide +kernel
theorem dX0_unlike_18 : decode cX0_unlike 18 = .ok (.iload_n 1, 1) := by decide +kernel
theorem dX0_unlike_19 : decode cX0_unlike 19 = .ok (.iload 4, 2) := by decide +kernel
theorem dX0_unlike_21 : decode cX0_unlike 21 = .ok (.invokevirtual 69, 3) := by decide +kernel
theorem dX0_unlike_24 : decode cX0_unlike 24 = .ok (.aload_n 0, 1) := by decide +kernel
theorem dX0_unlike_25 : decode cX0_unlike 25 = .ok (.iload_n 2, 1) := by decide +kernel
theorem dX0_unlike_26 : decode cX0_unlike 26 = .ok (.iload 4, 2) := by decide +kernel
theorem dX0_unlike_28 : decode cX0_unlike 28 = .ok (.invokevirtual 69, 3) := by decide +kernel
theorem dX0_unlike_31 : decode cX0_unlike 31 = .ok (.if_icmp .eq 6, 3) := by decide +kernel
theorem dX0_unlike_34 : decode cX0_unlike 34 = .ok (.iinc 3 1, 3) := by decide +kernel
theorem dX0_unlike_37 : decode cX0_unlike 37 = .ok (.iinc 4 1, 3) := by decide +kernel
theorem dX0_unlike_40 : decode cX0_unlike 40 = .ok (.goto (-35), 3) := by decide +kernel
theorem dX0_unlike_43 : decode cX0_unlike 43 = .ok (.iload_n 3, 1) := by decide +kernel
theorem dX0_unlike_44 : decode cX0_unlike 44 = .ok (.ireturn, 1) := by decide +kernel
theorem dX0_grow_0 : decode cX0_grow 0 = .ok (.aload_n 0, 1) := by decide +kernel
theorem dX0_grow_1 : decode cX0_grow 1 = .ok (.iconst 0, 1) := by decide +kernel
theorem dX0_grow_2 : decode cX0_grow 2 = .ok (.putfield 15, 3) := by decide +kernel
theorem dX0_grow_5 : decode cX0_grow 5 = .ok (.aload_n 0, 1) := by decide +kernel
theorem dX0_grow_6 : decode cX0_grow 6 = .ok (.iconst 0, 1) := by decide +kernel
theorem dX0_grow_7 : decode cX0_grow 7 = .ok (.putfield 19, 3) := by decide +kernel
theorem dX0_grow_10 : decode cX0_grow 10 = .ok (.iconst 0, 1) := by decide +kernel
theorem dX0_grow_11 : decode cX0_grow 11 = .ok (.istore_n 3, 1) := by decide +kernel
theorem dX0_grow_12 : decode cX0_grow 12 = .ok (.iload_n 3, 1) := by decide +kernel
theorem dX0_grow_13 : decode cX0_grow 13 = .ok (.aload_n 0, 1) := by decide +kernel
theorem dX0_grow_14 : decode cX0_grow 14 = .ok (.getfield 32, 3) := by decide +kernel
theorem dX0_grow_17 : decode cX0_grow 17 = .ok (.getfield 73, 3) := by decide +kernel
theorem dX0_grow_20 : decode cX0_grow 20 = .ok (.if_icmp .ge 23, 3) := by decide +kernel
theorem dX0_grow_23 : decode cX0_grow 23 = .ok (.aload_n 0, 1) := by decide +kernel
theorem dX0_grow_24 : decode cX0_grow 24 = .ok (.iload_n 3, 1) := by decide +kernel
theorem dX0_grow_25 : decode cX0_grow 25 = .ok (.iload_n 1, 1) := by decide +kernel
theorem dX0_grow_26 : decode cX0_grow 26 = .ok (.iload_n 2, 1) := by decide +kernel
theorem dX0_grow_27 : decode cX0_grow 27 = .ok (.invokevirtual 74, 3) := by decide +kernel
theorem dX0_grow_30 : decode cX0_grow 30 = .ok (.aload_n 0, 1) := by decide +kernel
theorem dX0_grow_31 : decode cX0_grow 31 = .ok (.getfield 25, 3) := by decide +kernel
theorem dX0_grow_34 : decode cX0_grow 34 = .ok (.iload_n 3, 1) := by decide +kernel
theorem dX0_grow_35 : decode cX0_grow 35 = .ok (.iload_n 3, 1) := by decide +kernel
theorem dX0_grow_36 : decode cX0_grow 36 = .ok (.iastore, 1) := by decide +kernel
theorem dX0_grow_37 : decode cX0_grow 37 = .ok (.iinc 3 1, 3) := by decide +kernel
theorem dX0_grow_40 : decode cX0_grow 40 = .ok (.goto (-28), 3) := by decide +kernel
theorem dX0_grow_43 : decode cX0_grow 43 = .ok (.iconst 1, 1) := by decide +kernel
theorem dX0_grow_44 : decode cX0_grow 44 = .ok (.istore_n 3, 1) := by decide +kernel
theorem dX0_grow_45 : decode cX0_grow 45 = .ok (.iload_n 3, 1) := by decide +kernel
theorem dX0_grow_46 : decode cX0_grow 46 = .ok (.aload_n 0, 1) := by decide +kernel
theorem dX0_grow_47 : decode cX0_grow 47 = .ok (.getfield 32, 3) := by decide +kernel
theorem dX0_grow_50 : decode cX0_grow 50 = .ok (.getfield 73, 3) := by decide +kernel
theorem dX0_grow_53 : decode cX0_grow 53 = .ok (.if_icmp .ge 13, 3) := by decide +kernel
theorem dX0_grow_56 : decode cX0_grow 56 = .ok (.aload_n 0, 1) := by decide +kernel
theorem dX0_grow_57 : decode cX0_grow 57 = .ok (.invokevirtual 77, 3) := by decide +kernel
theorem dX0_grow_60 : decode cX0_grow 60 = .ok (.iinc 3 1, 3) := by decide +kernel
theorem dX0_grow_63 : decode cX0_grow 63 = .ok (.goto (-18), 3) := by decide +kernel
theorem dX0_grow_66 : decode cX0_grow 66 = .ok (.return_, 1) := by decide +kernel
theorem dX0_addRow_0 : decode cX0_addRow 0 = .ok (.bipush (-9), 2) := by decide +kernel
theorem dX0_addRow_2 : decode cX0_addRow 2 = .ok (.istore_n 1, 1) := by decide +kernel
theorem dX0_addRow_3 : decode cX0_addRow 3 = .ok (.bipush (-9), 2) := by decide +kernel
theorem dX0_addRow_5 : decode cX0_addRow 5 = .ok (.istore_n 2, 1) := by decide +kernel
theorem dX0_addRow_6 : decode cX0_addRow 6 = .ok (.bipush 9, 2) := by decide +kernel
theorem dX0_addRow_8 : decode cX0_addRow 8 = .ok (.istore_n 3, 1) := by decide +kernel
theorem dX0_addRow_9 : decode cX0_addRow 9 = .ok (.iconst 0, 1) := by decide +kernel
theorem dX0_addRow_10 : decode cX0_addRow 10 = .ok (.istore 4, 2) := by decide +kernel
theorem dX0_addRow_12 : decode cX0_addRow 12 = .ok (.iload 4, 2) := by decide +kernel
theorem dX0_addRow_14 : decode cX0_addRow 14 = .ok (.aload_n 0, 1) := by decide +kernel
theorem dX0_addRow_15 : decode cX0_addRow 15 = .ok (.getfield 32, 3) := by decide +kernel
theorem dX0_addRow_18 : decode cX0_addRow 18 = .ok (.getfield 73, 3) := by decide +kernel
theorem dX0_addRow_21 : decode cX0_addRow 21 = .ok (.if_icmp .ge 81, 3) := by decide +kernel
theorem dX0_addRow_24 : decode cX0_addRow 24 = .ok (.iload 4, 2) := by decide +kernel
theorem dX0_addRow_26 : decode cX0_addRow 26 = .ok (.iconst 1, 1) := by decide +kernel
theorem dX0_addRow_27 : decode cX0_addRow 27 = .ok (.iadd, 1) := by decide +kernel
theorem dX0_addRow_28 : decode cX0_addRow 28 = .ok (.istore 5, 2) := by decide +kernel
theorem dX0_addRow_30 : decode cX0_addRow 30 = .ok (.iload 5, 2) := by decide +kernel
theorem dX0_addRow_32 : decode cX0_addRow 32 = .ok (.aload_n 0, 1) := by decide +kernel
theorem dX0_addRow_33 : decode cX0_addRow 33 = .ok (.getfield 32, 3) := by decide +kernel
theorem dX0_addRow_36 : decode cX0_addRow 36 = .ok (.getfield 73, 3) := by decide +kernel
theorem dX0_addRow_39 : decode cX0_addRow 39 = .ok (.if_icmp .ge 57, 3) := by decide +kernel
theorem dX0_addRow_42 : decode cX0_addRow 42 = .ok (.aload_n 0, 1) := by decide +kernel
theorem dX0_addRow_43 : decode cX0_addRow 43 = .ok (.getfield 25, 3) := by decide +kernel
theorem dX0_addRow_46 : decode cX0_addRow 46 = .ok (.iload 4, 2) := by decide +kernel
theorem dX0_addRow_48 : decode cX0_addRow 48 = .ok (.iaload, 1) := by decide +kernel
theorem dX0_addRow_49 : decode cX0_addRow 49 = .ok (.aload_n 0, 1) := by decide +kernel
theorem dX0_addRow_50 : decode cX0_addRow 50 = .ok (.getfield 25, 3) := by decide +kernel
theorem dX0_addRow_53 : decode cX0_addRow 53 = .ok (.iload 5, 2) := by decide +kernel
theorem dX0_addRow_55 : decode cX0_addRow 55 = .ok (.iaload, 1) := by decide +kernel
theorem dX0_addRow_56 : decode cX0_addRow 56 = .ok (.if_icmp .ne 6, 3) := by decide +kernel
theorem dX0_addRow_59 : decode cX0_addRow 59 = .ok (.goto 31, 3) := by decide +kernel
theorem dX0_addRow_62 : decode cX0_addRow 62 = .ok (.aload_n 0, 1) := by decide +kernel
theorem dX0_addRow_63 : decode cX0_addRow 63 = .ok (.iload 4, 2) := by decide +kernel
theorem dX0_addRow_65 : decode cX0_addRow 65 = .ok (.iload 5, 2) := by decide +kernel
theorem dX0_addRow_67 : decode cX0_addRow 67 = .ok (.invokevirtual 80, 3) := by decide +kernel
theorem dX0_addRow_70 : decode cX0_addRow 70 = .ok (.istore 6, 2) := by decide +kernel
theorem dX0_addRow_72 : decode cX0_addRow 72 = .ok (.iload 6, 2) := by decide +kernel
theorem dX0_addRow_74 : decode cX0_addRow 74 = .ok (.iload_n 3, 1) := by decide +kernel
theorem dX0_addRow_75 : decode cX0_addRow 75 = .ok (.if_icmp .lt 6, 3) := by decide +kernel
theorem dX0_addRow_78 : decode cX0_addRow 78 = .ok (.goto 12, 3) := by decide +kernel
theorem dX0_addRow_81 : decode cX0_addRow 81 = .ok (.iload 4, 2) := by decide +kernel
theorem dX0_addRow_83 : decode cX0_addRow 83 = .ok (.istore_n 1, 1) := by decide +kernel
theorem dX0_addRow_84 : decode cX0_addRow 84 = .ok (.iload 5, 2) := by decide +kernel
theorem dX0_addRow_86 : decode cX0_addRow 86 = .ok (.istore_n 2, 1) := by decide +kernel
theorem dX0_addRow_87 : decode cX0_addRow 87 = .ok (.iload 6, 2) := by decide +kernel
theorem dX0_addRow_89 : decode cX0_addRow 89 = .ok (.istore_n 3, 1) := by decide +kernel
theorem dX0_addRow_90 : decode cX0_addRow 90 = .ok (.iinc 5 1, 3) := by decide +kernel
theorem dX0_addRow_93 : decode cX0_addRow 93 = .ok (.goto (-63), 3) := by decide +kernel
theorem dX0_addRow_96 : decode cX0_addRow 96 = .ok (.iinc 4 1, 3) := by decide +kernel
theorem dX0_addRow_99 : decode cX0_addRow 99 = .ok (.goto (-87), 3) := by decide +kernel
theorem dX0_addRow_102 : decode cX0_addRow 102 = .ok (.iload_n 1, 1) := by decide +kernel
theorem dX0_addRow_103 : decode cX0_addRow 103 = .ok (.bipush (-9), 2) := by decide +kernel
theorem dX0_addRow_105 : decode cX0_addRow 105 = .ok (.if_icmp .eq 15, 3) := by decide +kernel
theorem dX0_addRow_108 : decode cX0_addRow 108 = .ok (.aload_n 0, 1) := by decide +kernel
theorem dX0_addRow_109 : decode cX0_addRow 109 = .ok (.getfield 15, 3) := by decide +kernel
theorem dX0_addRow_112 : decode cX0_addRow 112 = .ok (.aload_n 0, 1) := by decide +kernel
theorem dX0_addRow_113 : decode cX0_addRow 113 = .ok (.getfield 9, 3) := by decide +kernel
theorem dX0_addRow_116 : decode cX0_addRow 116 = .ok (.arraylength, 1) := by decide +kernel
theorem dX0_addRow_117 : decode cX0_addRow 117 = .ok (.if_icmp .lt 4, 3) := by decide +kernel
theorem dX0_addRow_120 : decode cX0_addRow 120 = .ok (.return_, 1) := by decide +kernel
theorem dX0_addRow_121 : decode cX0_addRow 121 = .ok (.aload_n 0, 1) := by decide +kernel
theorem dX0_addRow_122 : decode cX0_addRow 122 = .ok (.getfield 9, 3) := by decide +kernel
theorem dX0_addRow_125 : decode cX0_addRow 125 = .ok (.aload_n 0, 1) := by decide +kernel
theorem dX0_addRow_126 : decode cX0_addRow 126 = .ok (.getfield 15, 3) := by decide +kernel
theorem dX0_addRow_129 : decode cX0_addRow 129 = .ok (.bipush 10, 2) := by decide +kernel
theorem dX0_addRow_131 : decode cX0_addRow 131 = .ok (.iload_n 1, 1) := by decide +kernel
theorem dX0_addRow_132 : decode cX0_addRow 132 = .ok (.imul, 1) := by decide +kernel
theorem dX0_addRow_133 : decode cX0_addRow 133 = .ok (.iload_n 2, 1) := by decide +kernel
theorem dX0_addRow_134 : decode cX0_addRow 134 = .ok (.iadd, 1) := by decide +kernel
theorem dX0_addRow_135 : decode cX0_addRow 135 = .ok (.iastore, 1) := by decide +kernel
theorem dX0_addRow_136 : decode cX0_addRow 136 = .ok (.aload_n 0, 1) := by decide +kernel
theorem dX0_addRow_137 : decode cX0_addRow 137 = .ok (.dup, 1) := by decide +kernel
theorem dX0_addRow_138 : decode cX0_addRow 138 = .ok (.getfield 15, 3) := by decide +kernel
theorem dX0_addRow_141 : decode cX0_addRow 141 = .ok (.iconst 1, 1) := by decide +kernel
theorem dX0_addRow_142 : decode cX0_addRow 142 = .ok (.iadd, 1) := by decide +kernel
theorem dX0_addRow_143 : decode cX0_addRow 143 = .ok (.putfield 15, 3) := by decide +kernel
theorem dX0_addRow_146 : decode cX0_addRow 146 = .ok (.aload_n 0, 1) := by decide +kernel
theorem dX0_addRow_147 : decode cX0_addRow 147 = .ok (.dup, 1) := by decide +kernel
theorem dX0_addRow_148 : decode cX0_addRow 148 = .ok (.getfield 19, 3) := by decide +kernel
theorem dX0_addRow_151 : decode cX0_addRow 151 = .ok (.iload_n 3, 1) := by decide +kernel
theorem dX0_addRow_152 : decode cX0_addRow 152 = .ok (.iadd, 1) := by decide +kernel
theorem dX0_addRow_153 : decode cX0_addRow 153 = .ok (.putfield 19, 3) := by decide +kernel
theorem dX0_addRow_156 : decode cX0_addRow 156 = .ok (.aload_n 0, 1) := by decide +kernel
theorem dX0_addRow_157 : decode cX0_addRow 157 = .ok (.aload_n 0, 1) := by decide +kernel
theorem dX0_addRow_158 : decode cX0_addRow 158 = .ok (.getfield 25, 3) := by decide +kernel
theorem dX0_addRow_161 : decode cX0_addRow 161 = .ok (.iload_n 1, 1) := by decide +kernel
theorem dX0_addRow_162 : decode cX0_addRow 162 = .ok (.iaload, 1) := by decide +kernel
theorem dX0_addRow_163 : decode cX0_addRow 163 = .ok (.aload_n 0, 1) := by decide +kernel
theorem dX0_addRow_164 : decode cX0_addRow 164 = .ok (.getfield 25, 3) := by decide +kernel
theorem dX0_addRow_167 : decode cX0_addRow 167 = .ok (.iload_n 2, 1) := by decide +kernel
theorem dX0_addRow_168 : decode cX0_addRow 168 = .ok (.iaload, 1) := by decide +kernel
theorem dX0_addRow_169 : decode cX0_addRow 169 = .ok (.invokevirtual 83, 3) := by decide +kernel
theorem dX0_addRow_172 : decode cX0_addRow 172 = .ok (.return_, 1) := by decide +kernel
theorem dX0_join_0 : decode cX0_join 0 = .ok (.iconst 0, 1) := by decide +kernel
theorem dX0_join_1 : decode cX0_join 1 = .ok (.istore_n 3, 1) := by decide +kernel
theorem dX0_join_2 : decode cX0_join 2 = .ok (.iload_n 3, 1) := by decide +kernel
theorem dX0_join_3 : decode cX0_join 3 = .ok (.aload_n 0, 1) := by decide +kernel
theorem dX0_join_4 : decode cX0_join 4 = .ok (.getfield 32, 3) := by decide +kernel
theorem dX0_join_7 : decode cX0_join 7 = .ok (.getfield 73, 3) := by decide +kernel
theorem dX0_join_10 : decode cX0_join 10 = .ok (.if_icmp .ge 26, 3) := by decide +kernel
theorem dX0_join_13 : decode cX0_join 13 = .ok (.aload_n 0, 1) := by decide +kernel
theorem dX0_join_14 : decode cX0_join 14 = .ok (.getfield 25, 3) := by decide +kernel
theorem dX0_join_17 : decode cX0_join 17 = .ok (.iload_n 3, 1) := by decide +kernel
theorem dX0_join_18 : decode cX0_join 18 = .ok (.iaload, 1) := by decide +kernel
theorem dX0_join_19 : decode cX0_join 19 = .ok (.iload_n 2, 1) := by decide +kernel
theorem dX0_join_20 : decode cX0_join 20 = .ok (.if_icmp .ne 10, 3) := by decide +kernel
theorem dX0_join_23 : decode cX0_join 23 = .ok (.aload_n 0, 1) := by decide +kernel
theorem dX0_join_24 : decode cX0_join 24 = .ok (.getfield 25, 3) := by decide +kernel
theorem dX0_join_27 : decode cX0_join 27 = .ok (.iload_n 3, 1) := by decide +kernel
theorem dX0_join_28 : decode cX0_join 28 = .ok (.iload_n 1, 1) := by decide +kernel
theorem dX0_join_29 : decode cX0_join 29 = .ok (.iastore, 1) := by decide +kernel
theorem dX0_join_30 : decode cX0_join 30 = .ok (.iinc 3 1, 3) := by decide +kernel
theorem dX0_join_33 : decode cX0_join 33 = .ok (.goto (-31), 3) := by decide +kernel
theorem dX0_join_36 : decode cX0_join 36 = .ok (.return_, 1) := by decide +kernel
theorem dX1_init_0 : decode cX1_init 0 = .ok (.aload_n 0, 1) := by decide +kernel
theorem dX1_init_1 : decode cX1_init 1 = .ok (.invokespecial 5, 3) := by decide +kernel
theorem dX1_init_4 : decode cX1_init 4 = .ok (.aload_n 0, 1) := by decide +kernel
theorem dX1_init_5 : decode cX1_init 5 = .ok (.bipush 8, 2) := by decide +kernel
theorem dX1_init_7 : decode cX1_init 7 = .ok (.newarray .int, 2) := by decide +kernel
theorem dX1_init_9 : decode cX1_init 9 = .ok (.putfield 11, 3) := by decide +kernel
theorem dX1_init_12 : decode cX1_init 12 = .ok (.aload_n 0, 1) := by decide +kernel
theorem dX1_init_13 : decode cX1_init 13 = .ok (.bipush 8, 2) := by decide +kernel
theorem dX1_init_15 : decode cX1_init 15 = .ok (.newarray .int, 2) := by decide +kernel
theorem dX1_init_17 : decode cX1_init 17 = .ok (.putfield 15, 3) := by decide +kernel
theorem dX1_init_20 : decode cX1_init 20 = .ok (.aload_n 0, 1) := by decide +kernel
theorem dX1_init_21 : decode cX1_init 21 = .ok (.iconst 0, 1) := by decide +kernel
theorem dX1_init_22 : decode cX1_init 22 = .ok (.putfield 18, 3) := by decide +kernel
theorem dX1_init_25 : decode cX1_init 25 = .ok (.aload_n 0, 1) := by decide +kernel
theorem dX1_init_26 : decode cX1_init 26 = .ok (.bipush 8, 2) := by decide +kernel
theorem dX1_init_28 : decode cX1_init 28 = .ok (.newarray .int, 2) := by decide +kernel
theorem dX1_init_30 : decode cX1_init 30 = .ok (.putfield 22, 3) := by decide +kernel
theorem dX1_init_33 : decode cX1_init 33 = .ok (.aload_n 0, 1) := by decide +kernel
theorem dX1_init_34 : decode cX1_init 34 = .ok (.sipush 256, 3) := by decide +kernel
theorem dX1_init_37 : decode cX1_init 37 = .ok (.newarray .long, 2) := by decide +kernel
theorem dX1_init_39 : decode cX1_init 39 = .ok (.putfield 25, 3) := by decide +kernel
theorem dX1_init_42 : decode cX1_init 42 = .ok (.aload_n 0, 1) := by decide +kernel
theorem dX1_init_43 : decode cX1_init 43 = .ok (.bipush 8, 2) := by decide +kernel
theorem dX1_init_45 : decode cX1_init 45 = .ok (.newarray .int, 2) := by decide +kernel
theorem dX1_init_47 : decode cX1_init 47 = .ok (.putfield 29, 3) := by decide +kernel
theorem dX1_init_50 : decode cX1_init 50 = .ok (.aload_n 0, 1) := by decide +kernel
theorem dX1_init_51 : decode cX1_init 51 = .ok (.bipush 8, 2) := by decide +kernel
theorem dX1_init_53 : decode cX1_init 53 = .ok (.newarray .long, 2) := by decide +kernel
theorem dX1_init_55 : decode cX1_init 55 = .ok (.putfield 32, 3) := by decide +kernel
theorem dX1_init_58 : decode cX1_init 58 = .ok (.aload_n 0, 1) := by decide +kernel
theorem dX1_init_59 : decode cX1_init 59 = .ok (.iconst 0, 1) := by decide +kernel
theorem dX1_init_60 : decode cX1_init 60 = .ok (.putfield 35, 3) := by decide +kernel
theorem dX1_init_63 : decode cX1_init 63 = .ok (.aload_n 0, 1) := by decide +kernel
theorem dX1_init_64 : decode cX1_init 64 = .ok (.aload_n 1, 1) := by decide +kernel
theorem dX1_init_65 : decode cX1_init 65 = .ok (.putfield 38, 3) := by decide +kernel
theorem dX1_init_68 : decode cX1_init 68 = .ok (.aload_n 0, 1) := by decide +kernel
theorem dX1_init_69 : decode cX1_init 69 = .ok (.aload_n 2, 1) := by decide +kernel
theorem dX1_init_70 : decode cX1_init 70 = .ok (.putfield 42, 3) := by decide +kernel
theorem dX1_init_73 : decode cX1_init 73 = .ok (.return_, 1) := by decide +kernel
theorem dX1_rankOf_0 : decode cX1_rankOf 0 = .ok (.aload_n 0, 1) := by decide +kernel
theorem dX1_rankOf_1 : decode cX1_rankOf 1 = .ok (.iload 4, 2) := by decide +kernel
theorem dX1_rankOf_3 : decode cX1_rankOf 3 = .ok (.iload 5, 2) := by decide +kernel
theorem dX1_rankOf_5 : decode cX1_rankOf 5 = .ok (.invokevirtual 46, 3) := by decide +kernel
theorem dX1_rankOf_8 : decode cX1_rankOf 8 = .ok (.aload_n 0, 1) := by decide +kernel
theorem dX1_rankOf_9 : decode cX1_rankOf 9 = .ok (.iload_n 1, 1) := by decide +kernel
theorem dX1_rankOf_10 : decode cX1_rankOf 10 = .ok (.iload_n 2, 1) := by decide +kernel
theorem dX1_rankOf_11 : decode cX1_rankOf 11 = .ok (.iload_n 3, 1) := by decide +kernel
theorem dX1_rankOf_12 : decode cX1_rankOf 12 = .ok (.invokevirtual 50, 3) := by decide +kernel
theorem dX1_rankOf_15 : decode cX1_rankOf 15 = .ok (.ireturn, 1) := by decide +kernel
theorem dX1_find_0 : decode cX1_find 0 = .ok (.aload_n 0, 1) := by decide +kernel
theorem dX1_find_1 : decode cX1_find 1 = .ok (.iload_n 2, 1) := by decide +kernel
theorem dX1_find_2 : decode cX1_find 2 = .ok (.iload_n 3, 1) := by decide +kernel
theorem dX1_find_3 : decode cX1_find 3 = .ok (.invokevirtual 46, 3) := by decide +kernel
theorem dX1_find_6 : decode cX1_find 6 = .ok (.aload_n 0, 1) := by decide +kernel
theorem dX1_find_7 : decode cX1_find 7 = .ok (.getfield 25, 3) := by decide +kernel
theorem dX1_find_10 : decode cX1_find 10 = .ok (.ldc2_w 54, 3) := by decide +kernel
theorem dX1_find_13 : decode cX1_find 13 = .ok (.invokestatic 56, 3) := by decide +kernel
theorem dX1_find_16 : decode cX1_find 16 = .ok (.aload_n 0, 1) := by decide +kernel
theorem dX1_find_17 : decode cX1_find 17 = .ok (.getfield 25, 3) := by decide +kernel
theorem dX1_find_20 : decode cX1_find 20 = .ok (.iconst 0, 1) := by decide +kernel
theorem dX1_find_21 : decode cX1_find 21 = .ok (.lconst 0, 1) := by decide +kernel
theorem dX1_find_22 : decode cX1_find 22 = .ok (.lastore, 1) := by decide +kernel
theorem dX1_find_23 : decode cX1_find 23 = .ok (.iconst 0, 1) := by decide +kernel
theorem dX1_find_24 : decode cX1_find 24 = .ok (.istore 4, 2) := by decide +kernel
theorem dX1_find_26 : decode cX1_find 26 = .ok (.iconst 0, 1) := by decide +kernel
theorem dX1_find_27 : decode cX1_find 27 = .ok (.istore 5, 2) := by decide +kernel
theorem dX1_find_29 : decode cX1_find 29 = .ok (.iload 5, 2) := by decide +kernel
theorem dX1_find_31 : decode cX1_find 31 = .ok (.aload_n 0, 1) := by decide +kernel
theorem dX1_find_32 : decode cX1_find 32 = .ok (.getfield 42, 3) := by decide +kernel
theorem dX1_find_35 : decode cX1_find 35 = .ok (.getfield 62, 3) := by decide +kernel
theorem dX1_find_38 : decode cX1_find 38 = .ok (.iload_n 1, 1) := by decide +kernel
theorem dX1_find_39 : decode cX1_find 39 = .ok (.iaload, 1) := by decide +kernel
theorem dX1_find_40 : decode cX1_find 40 = .ok (.if_icmp .ge 29, 3) := by decide +kernel
theorem dX1_find_43 : decode cX1_find 43 = .ok (.iload 4, 2) := by decide +kernel
theorem dX1_find_45 : decode cX1_find 45 = .ok (.aload_n 0, 1) := by decide +kernel
theorem dX1_find_46 : decode cX1_find 46 = .ok (.iload_n 1, 1) := by decide +kernel
theorem dX1_find_47 : decode cX1_find 47 = .ok (.iload 5, 2) := by decide +kernel
theorem dX1_find_49 : decode cX1_find 49 = .ok (.invokevirtual 67, 3) := by decide +kernel
theorem dX1_find_52 : decode cX1_find 52 = .ok (.ior, 1) := by decide +kernel
theorem dX1_find_53 : decode cX1_find 53 = .ok (.istore 4, 2) := by decide +kernel
theorem dX1_find_55 : decode cX1_find 55 = .ok (.aload_n 0, 1) := by decide +kernel
theorem dX1_find_56 : decode cX1_find 56 = .ok (.iload 5, 2) := by decide +kernel
theorem dX1_find_58 : decode cX1_find 58 = .ok (.iload 4, 2) := by decide +kernel
theorem dX1_find_60 : decode cX1_find 60 = .ok (.invokevirtual 71, 3) := by decide +kernel
theorem dX1_find_63 : decode cX1_find 63 = .ok (.iinc 5 1, 3) := by decide +kernel
theorem dX1_find_66 : decode cX1_find 66 = .ok (.goto (-37), 3) := by decide +kernel
theorem dX1_find_69 : decode cX1_find 69 = .ok (.aload_n 0, 1) := by decide +kernel
theorem dX1_find_70 : decode cX1_find 70 = .ok (.aload_n 0, 1) := by decide +kernel
theorem dX1_find_71 : decode cX1_find 71 = .ok (.iload 4, 2) := by decide +kernel
theorem dX1_find_73 : decode cX1_find 73 = .ok (.invokevirtual 74, 3) := by decide +kernel
theorem dX1_find_76 : decode cX1_find 76 = .ok (.aload_n 0, 1) := by decide +kernel
theorem dX1_find_77 : decode cX1_find 77 = .ok (.getfield 42, 3) := by decide +kernel
theorem dX1_find_80 : decode cX1_find 80 = .ok (.getfield 62, 3) := by decide +kernel
theorem dX1_find_83 : decode cX1_find 83 = .ok (.iload_n 1, 1) := by decide +kernel
theorem dX1_find_84 : decode cX1_find 84 = .ok (.iaload, 1) := by decide +kernel
theorem dX1_find_85 : decode cX1_find 85 = .ok (.invokevirtual 78, 3) := by decide +kernel
theorem dX1_find_88 : decode cX1_find 88 = .ok (.return_, 1) := by decide +kernel
theorem dX1_turnSky_0 : decode cX1_turnSky 0 = .ok (.iconst 0, 1) := by decide +kernel
theorem dX1_turnSky_1 : decode cX1_turnSky 1 = .ok (.istore_n 3, 1) := by decide +kernel
theorem dX1_turnSky_2 : decode cX1_turnSky 2 = .ok (.iload_n 3, 1) := by decide +kernel
theorem dX1_turnSky_3 : decode cX1_turnSky 3 = .ok (.aload_n 0, 1) := by decide +kernel
theorem dX1_turnSky_4 : decode cX1_turnSky 4 = .ok (.getfield 38, 3) := by decide +kernel
theorem dX1_turnSky_7 : decode cX1_turnSky 7 = .ok (.getfield 82, 3) := by decide +kernel
theorem dX1_turnSky_10 : decode cX1_turnSky 10 = .ok (.if_icmp .ge 26, 3) := by decide +kernel
theorem dX1_turnSky_13 : decode cX1_turnSky 13 = .ok (.aload_n 0, 1) := by decide +kernel
theorem dX1_turnSky_14 : decode cX1_turnSky 14 = .ok (.getfield 22, 3) := by decide +kernel
theorem dX1_turnSky_17 : decode cX1_turnSky 17 = .ok (.iload_n 3, 1) := by decide +kernel
theorem dX1_turnSky_18 : decode cX1_turnSky 18 = .ok (.aload_n 0, 1) := by decide +kernel
theorem dX1_turnSky_19 : decode cX1_turnSky 19 = .ok (.getfield 38, 3) := by decide +kernel
theorem dX1_turnSky_22 : decode cX1_turnSky 22 = .ok (.iload_n 3, 1) := by decide +kernel
theorem dX1_turnSky_23 : decode cX1_turnSky 23 = .ok (.iload_n 1, 1) := by decide +kernel
theorem dX1_turnSky_24 : decode cX1_turnSky 24 = .ok (.invokevirtual 87, 3) := by decide +kernel
theorem dX1_turnSky_27 : decode cX1_turnSky 27 = .ok (.iload_n 2, 1) := by decide +kernel
theorem dX1_turnSky_28 : decode cX1_turnSky 28 = .ok (.iadd, 1) := by decide +kernel
theorem dX1_turnSky_29 : decode cX1_turnSky 29 = .ok (.iastore, 1) := by decide +kernel
theorem dX1_turnSky_30 : decode cX1_turnSky 30 = .ok (.iinc 3 1, 3) := by decide +kernel
theorem dX1_turnSky_33 : decode cX1_turnSky 33 = .ok (.goto (-31), 3) := by decide +kernel
theorem dX1_turnSky_36 : decode cX1_turnSky 36 = .ok (.return_, 1) := by decide +kernel
theorem dX1_turnedRank_0 : decode cX1_turnedRank 0 = .ok (.aload_n 0, 1) := by decide +kernel
theorem dX1_turnedRank_1 : decode cX1_turnedRank 1 = .ok (.getfield 22, 3) := by decide +kernel
theorem dX1_turnedRank_4 : decode cX1_turnedRank 4 = .ok (.iload_n 3, 1) := by decide +kernel
theorem dX1_turnedRank_5 : decode cX1_turnedRank 5 = .ok (.iaload, 1) := by decide +kernel
theorem dX1_turnedRank_6 : decode cX1_turnedRank 6 = .ok (.aload_n 0, 1) := by decide +kernel
theorem dX1_turnedRank_7 : decode cX1_turnedRank 7 = .ok (.getfield 42, 3) := by decide +kernel
theorem dX1_turnedRank_10 : decode cX1_turnedRank 10 = .ok (.iload_n 1, 1) := by decide +kernel
theorem dX1_turnedRank_11 : decode cX1_turnedRank 11 = .ok (.iload_n 2, 1) := by decide +kernel
theorem dX1_turnedRank_12 : decode cX1_turnedRank 12 = .ok (.invokevirtual 90, 3) := by decide +kernel
theorem dX1_turnedRank_15 : decode cX1_turnedRank 15 = .ok (.invokestatic 93, 3) := by decide +kernel
theorem dX1_turnedRank_18 : decode cX1_turnedRank 18 = .ok (.istore 4, 2) := by decide +kernel
theorem dX1_turnedRank_20 : decode cX1_turnedRank 20 = .ok (.iload 4, 2) := by decide +kernel
theorem dX1_turnedRank_22 : decode cX1_turnedRank 22 = .ok (.aload_n 0, 1) := by decide +kernel
theorem dX1_turnedRank_23 : decode cX1_turnedRank 23 = .ok (.getfield 42, 3) := by decide +kernel
theorem dX1_turnedRank_26 : decode cX1_turnedRank 26 = .ok (.iload_n 1, 1) := by decide +kernel
theorem dX1_turnedRank_27 : decode cX1_turnedRank 27 = .ok (.iload_n 2, 1) := by decide +kernel
theorem dX1_turnedRank_28 : decode cX1_turnedRank 28 = .ok (.invokevirtual 96, 3) := by decide +kernel
theorem dX1_turnedRank_31 : decode cX1_turnedRank 31 = .ok (.aload_n 0, 1) := by decide +kernel
theorem dX1_turnedRank_32 : decode cX1_turnedRank 32 = .ok (.getfield 38, 3) := by decide +kernel
theorem dX1_turnedRank_35 : decode cX1_turnedRank 35 = .ok (.getfield 99, 3) := by decide +kernel
theorem dX1_turnedRank_38 : decode cX1_turnedRank 38 = .ok (.iload_n 3, 1) := by decide +kernel
theorem dX1_turnedRank_39 : decode cX1_turnedRank 39 = .ok (.iaload, 1) := by decide +kernel
theorem dX1_turnedRank_40 : decode cX1_turnedRank 40 = .ok (.invokestatic 102, 3) := by decide +kernel
theorem dX1_turnedRank_43 : decode cX1_turnedRank 43 = .ok (.ireturn, 1) := by decide +kernel
theorem dX1_gatherFits_0 : decode cX1_gatherFits 0 = .ok (.iconst 0, 1) := by decide +kernel
theorem dX1_gatherFits_1 : decode cX1_gatherFits 1 = .ok (.istore_n 3, 1) := by decide +kernel
theorem dX1_gatherFits_2 : decode cX1_gatherFits 2 = .ok (.aload_n 0, 1) := by decide +kernel
theorem dX1_gatherFits_3 : decode cX1_gatherFits 3 = .ok (.iconst 0, 1) := by decide +kernel
theorem dX1_gatherFits_4 : decode cX1_gatherFits 4 = .ok (.putfield 35, 3) := by decide +kernel
theorem dX1_gatherFits_7 : decode cX1_gatherFits 7 = .ok (.iconst 0, 1) := by decide +kernel
theorem dX1_gatherFits_8 : decode cX1_gatherFits 8 = .ok (.istore 4, 2) := by decide +kernel
theorem dX1_gatherFits_10 : decode cX1_gatherFits 10 = .ok (.iload 4, 2) := by decide +kernel
theorem dX1_gatherFits_12 : decode cX1_gatherFits 12 = .ok (.aload_n 0, 1) := by decide +kernel
theorem dX1_gatherFits_13 : decode cX1_gatherFits 13 = .ok (.getfield 38, 3) := by decide +kernel
theorem dX1_gatherFits_16 : decode cX1_gatherFits 16 = .ok (.getfield 82, 3) := by decide +kernel
theorem dX1_gatherFits_19 : decode cX1_gatherFits 19 = .ok (.if_icmp .ge 99, 3) := by decide +kernel
theorem dX1_gatherFits_22 : decode cX1_gatherFits 22 = .ok (.aload_n 0, 1) := by decide +kernel
theorem dX1_gatherFits_23 : decode cX1_gatherFits 23 = .ok (.getfield 38, 3) := by decide +kernel
theorem dX1_gatherFits_26 : decode cX1_gatherFits 26 = .ok (.iload 4, 2) := by decide +kernel
theorem dX1_gatherFits_28 : decode cX1_gatherFits 28 = .ok (.invokevirtual 107, 3) := by decide +kernel
theorem dX1_gatherFits_31 : decode cX1_gatherFits 31 = .ok (.ifCond .ne 6, 3) := by decide +kernel
theorem dX1_gatherFits_34 : decode cX1_gatherFits 34 = .ok (.goto 78, 3) := by decide +kernel
theorem dX1_gatherFits_37 : decode cX1_gatherFits 37 = .ok (.aload_n 0, 1) := by decide +kernel
theorem dX1_gatherFits_38 : decode cX1_gatherFits 38 = .ok (.iload_n 1, 1) := by decide +kernel
theorem dX1_gatherFits_39 : decode cX1_gatherFits 39 = .ok (.iload_n 2, 1) := by decide +kernel
theorem dX1_gatherFits_40 : decode cX1_gatherFits 40 = .ok (.iload 4, 2) := by decide +kernel
theorem dX1_gatherFits_42 : decode cX1_gatherFits 42 = .ok (.invokevirtual 50, 3) := by decide +kernel
theorem dX1_gatherFits_45 : decode cX1_gatherFits 45 = .ok (.istore 5, 2) := by decide +kernel
theorem dX1_gatherFits_47 : decode cX1_gatherFits 47 = .ok (.iload 5, 2) := by decide +kernel
theorem dX1_gatherFits_49 : decode cX1_gatherFits 49 = .ok (.ldc 111, 2) := by decide +kernel
theorem dX1_gatherFits_51 : decode cX1_gatherFits 51 = .ok (.if_icmp .ne 6, 3) := by decide +kernel
theorem dX1_gatherFits_54 : decode cX1_gatherFits 54 = .ok (.goto 58, 3) := by decide +kernel
theorem dX1_gatherFits_57 : decode cX1_gatherFits 57 = .ok (.aload_n 0, 1) := by decide +kernel
theorem dX1_gatherFits_58 : decode cX1_gatherFits 58 = .ok (.getfield 29, 3) := by decide +kernel
theorem dX1_gatherFits_61 : decode cX1_gatherFits 61 = .ok (.aload_n 0, 1) := by decide +kernel
theorem dX1_gatherFits_62 : decode cX1_gatherFits 62 = .ok (.getfield 35, 3) := by decide +kernel
theorem dX1_gatherFits_65 : decode cX1_gatherFits 65 = .ok (.iconst 1, 1) := by decide +kernel
theorem dX1_gatherFits_66 : decode cX1_gatherFits 66 = .ok (.iload 4, 2) := by decide +kernel
theorem dX1_gatherFits_68 : decode cX1_gatherFits 68 = .ok (.ishl, 1) := by decide +kernel
theorem dX1_gatherFits_69 : decode cX1_gatherFits 69 = .ok (.iastore, 1) := by decide +kernel
theorem dX1_gatherFits_70 : decode cX1_gatherFits 70 = .ok (.aload_n 0, 1) := by decide +kernel
theorem dX1_gatherFits_71 : decode cX1_gatherFits 71 = .ok (.getfield 32, 3) := by decide +kernel
theorem dX1_gatherFits_74 : decode cX1_gatherFits 74 = .ok (.aload_n 0, 1) := by decide +kernel
theorem dX1_gatherFits_75 : decode cX1_gatherFits 75 = .ok (.getfield 35, 3) := by decide +kernel
theorem dX1_gatherFits_78 : decode cX1_gatherFits 78 = .ok (.iload_n 2, 1) := by decide +kernel
theorem dX1_gatherFits_79 : decode cX1_gatherFits 79 = .ok (.iload 5, 2) := by decide +kernel
theorem dX1_gatherFits_81 : decode cX1_gatherFits 81 = .ok (.invokestatic 112, 3) := by decide +kernel
theorem dX1_gatherFits_84 : decode cX1_gatherFits 84 = .ok (.iload 4, 2) := by decide +kernel
theorem dX1_gatherFits_86 : decode cX1_gatherFits 86 = .ok (.invokestatic 116, 3) := by decide +kernel
theorem dX1_gatherFits_89 : decode cX1_gatherFits 89 = .ok (.lastore, 1) := by decide +kernel
theorem dX1_gatherFits_90 : decode cX1_gatherFits 90 = .ok (.iload_n 3, 1) := by decide +kernel
theorem dX1_gatherFits_91 : decode cX1_gatherFits 91 = .ok (.aload_n 0, 1) := by decide +kernel
theorem dX1_gatherFits_92 : decode cX1_gatherFits 92 = .ok (.getfield 29, 3) := by decide +kernel
theorem dX1_gatherFits_95 : decode cX1_gatherFits 95 = .ok (.aload_n 0, 1) := by decide +kernel
theorem dX1_gatherFits_96 : decode cX1_gatherFits 96 = .ok (.getfield 35, 3) := by decide +kernel
theorem dX1_gatherFits_99 : decode cX1_gatherFits 99 = .ok (.iaload, 1) := by decide +kernel
theorem dX1_gatherFits_100 : decode cX1_gatherFits 100 = .ok (.ior, 1) := by decide +kernel
theorem dX1_gatherFits_101 : decode cX1_gatherFits 101 = .ok (.istore_n 3, 1) := by decide +kernel
theorem dX1_gatherFits_102 : decode cX1_gatherFits 102 = .ok (.aload_n 0, 1) := by decide +kernel
theorem dX1_gatherFits_103 : decode cX1_gatherFits 103 = .ok (.dup, 1) := by decide +kernel
theorem dX1_gatherFits_104 : decode cX1_gatherFits 104 = .ok (.getfield 35, 3) := by decide +kernel
theorem dX1_gatherFits_107 : decode cX1_gatherFits 107 = .ok (.iconst 1, 1) := by decide +kernel
theorem dX1_gatherFits_108 : decode cX1_gatherFits 108 = .ok (.iadd, 1) := by decide +kernel
theorem dX1_gatherFits_109 : decode cX1_gatherFits 109 = .ok (.putfield 35, 3) := by decide +kernel
theorem dX1_gatherFits_112 : decode cX1_gatherFits 112 = .ok (.iinc 4 1, 3) := by decide +kernel
theorem dX1_gatherFits_115 : decode cX1_gatherFits 115 = .ok (.goto (-105), 3) := by decide +kernel
theorem dX1_gatherFits_118 : decode cX1_gatherFits 118 = .ok (.iload_n 3, 1) := by decide +kernel
theorem dX1_gatherFits_119 : decode cX1_gatherFits 119 = .ok (.ireturn, 1) := by decide +kernel
theorem dX1_keyPart_0 : decode cX1_keyPart 0 = .ok (.iload_n 1, 1) := by decide +kernel
theorem dX1_keyPart_1 : decode cX1_keyPart 1 = .ok (.i2l, 1) := by decide +kernel
theorem dX1_keyPart_2 : decode cX1_keyPart 2 = .ok (.bipush 32, 2) := by decide +kernel
theorem dX1_keyPart_4 : decode cX1_keyPart 4 = .ok (.lshl, 1) := by decide +kernel
theorem dX1_keyPart_5 : decode cX1_keyPart 5 = .ok (.iload_n 2, 1) := by decide +kernel
theorem dX1_keyPart_6 : decode cX1_keyPart 6 = .ok (.i2l, 1) := by decide +kernel
theorem dX1_keyPart_7 : decode cX1_keyPart 7 = .ok (.iload_n 0, 1) := by decide +kernel
theorem dX1_keyPart_8 : decode cX1_keyPart 8 = .ok (.invokestatic 120, 3) := by decide +kernel
theorem dX1_keyPart_11 : decode cX1_keyPart 11 = .ok (.lshl, 1) := by decide +kernel
theorem dX1_keyPart_12 : decode cX1_keyPart 12 = .ok (.ladd, 1) := by decide +kernel
theorem dX1_keyPart_13 : decode cX1_keyPart 13 = .ok (.lreturn, 1) := by decide +kernel
theorem dX1_digitPlace_0 : decode cX1_digitPlace 0 = .ok (.iconst 4, 1) := by decide +kernel
theorem dX1_digitPlace_1 : decode cX1_digitPlace 1 = .ok (.bipush 7, 2) := by decide +kernel
theorem dX1_digitPlace_3 : decode cX1_digitPlace 3 = .ok (.iload_n 0, 1) := by decide +kernel
theorem dX1_digitPlace_4 : decode cX1_digitPlace 4 = .ok (.isub, 1) := by decide +kernel
theorem dX1_digitPlace_5 : decode cX1_digitPlace 5 = .ok (.imul, 1) := by decide +kernel
theorem dX1_digitPlace_6 : decode cX1_digitPlace 6 = .ok (.ireturn, 1) := by decide +kernel
theorem dX1_takeLine_0 : decode cX1_takeLine 0 = .ok (.iload_n 1, 1) := by decide +kernel
theorem dX1_takeLine_1 : decode cX1_takeLine 1 = .ok (.bipush 100, 2) := by decide +kernel
theorem dX1_takeLine_3 : decode cX1_takeLine 3 = .ok (.bipush 8, 2) := by decide +kernel
theorem dX1_takeLine_5 : decode cX1_takeLine 5 = .ok (.invokestatic 116, 3) := by decide +kernel
theorem dX1_takeLine_8 : decode cX1_takeLine 8 = .ok (.lstore_n 3, 1) := by decide +kernel
theorem dX1_takeLine_9 : decode cX1_takeLine 9 = .ok (.iload_n 2, 1) := by decide +kernel
theorem dX1_takeLine_10 : decode cX1_takeLine 10 = .ok (.istore 5, 2) := by decide +kernel
theorem dX1_takeLine_12 : decode cX1_takeLine 12 = .ok (.iload 5, 2) := by decide +kernel
theorem dX1_takeLine_14 : decode cX1_takeLine 14 = .ok (.ifCond .lt 105, 3) := by decide +kernel
theorem dX1_takeLine_17 : decode cX1_takeLine 17 = .ok (.iload 5, 2) := by decide +kernel
theorem dX1_takeLine_19 : decode cX1_takeLine 19 = .ok (.iload_n 2, 1) := by decide +kernel
theorem dX1_takeLine_20 : decode cX1_takeLine 20 = .ok (.iconst (-1), 1) := by decide +kernel
theorem dX1_takeLine_21 : decode cX1_takeLine 21 = .ok (.ixor, 1) := by decide +kernel
theorem dX1_takeLine_22 : decode cX1_takeLine 22 = .ok (.iand, 1) := by decide +kernel
theorem dX1_takeLine_23 : decode cX1_takeLine 23 = .ok (.ifCond .eq 6, 3) := by decide +kernel
theorem dX1_takeLine_26 : decode cX1_takeLine 26 = .ok (.goto 87, 3) := by decide +kernel
theorem dX1_takeLine_29 : decode cX1_takeLine 29 = .ok (.aload_n 0, 1) := by decide +kernel
theorem dX1_takeLine_30 : decode cX1_takeLine 30 = .ok (.getfield 25, 3) := by decide +kernel
theorem dX1_takeLine_33 : decode cX1_takeLine 33 = .ok (.iload 5, 2) := by decide +kernel
theorem dX1_takeLine_35 : decode cX1_takeLine 35 = .ok (.laload, 1) := by decide +kernel
theorem dX1_takeLine_36 : decode cX1_takeLine 36 = .ok (.lload_n 3, 1) := by decide +kernel
theorem dX1_takeLine_37 : decode cX1_takeLine 37 = .ok (.ladd, 1) := by decide +kernel
theorem dX1_takeLine_38 : decode cX1_takeLine 38 = .ok (.lstore 6, 2) := by decide +kernel
theorem dX1_takeLine_40 : decode cX1_takeLine 40 = .ok (.iconst 0, 1) := by decide +kernel
theorem dX1_takeLine_41 : decode cX1_takeLine 41 = .ok (.istore 8, 2) := by decide +kernel
theorem dX1_takeLine_43 : decode cX1_takeLine 43 = .ok (.iload 8, 2) := by decide +kernel
theorem dX1_takeLine_45 : decode cX1_takeLine 45 = .ok (.aload_n 0, 1) := by decide +kernel
theorem dX1_takeLine_46 : decode cX1_takeLine 46 = .ok (.getfield 35, 3) := by decide +kernel
theorem dX1_takeLine_49 : decode cX1_takeLine 49 = .ok (.if_icmp .ge 55, 3) := by decide +kernel
theorem dX1_takeLine_52 : decode cX1_takeLine 52 = .ok (.iload 5, 2) := by decide +kernel
theorem dX1_takeLine_54 : decode cX1_takeLine 54 = .ok (.aload_n 0, 1) := by decide +kernel
theorem dX1_takeLine_55 : decode cX1_takeLine 55 = .ok (.getfield 29, 3) := by decide +kernel
theorem dX1_takeLine_58 : decode cX1_takeLine 58 = .ok (.iload 8, 2) := by decide +kernel
theorem dX1_takeLine_60 : decode cX1_takeLine 60 = .ok (.iaload, 1) := by decide +kernel
theorem dX1_takeLine_61 : decode cX1_takeLine 61 = .ok (.iand, 1) := by decide +kernel
theorem dX1_takeLine_62 : decode cX1_takeLine 62 = .ok (.ifCond .ne 6, 3) := by decide +kernel
theorem dX1_takeLine_65 : decode cX1_takeLine 65 = .ok (.goto 33, 3) := by decide +kernel
theorem dX1_takeLine_68 : decode cX1_takeLine 68 = .ok (.lload 6, 2) := by decide +kernel
theorem dX1_takeLine_70 : decode cX1_takeLine 70 = .ok (.aload_n 0, 1) := by decide +kernel
theorem dX1_takeLine_71 : decode cX1_takeLine 71 = .ok (.getfield 25, 3) := by decide +kernel
theorem dX1_takeLine_74 : decode cX1_takeLine 74 = .ok (.iload 5, 2) := by decide +kernel
theorem dX1_takeLine_76 : decode cX1_takeLine 76 = .ok (.aload_n 0, 1) := by decide +kernel
theorem dX1_takeLine_77 : decode cX1_takeLine 77 = .ok (.getfield 29, 3) := by decide +kernel
theorem dX1_takeLine_80 : decode cX1_takeLine 80 = .ok (.iload 8, 2) := by decide +kernel
theorem dX1_takeLine_82 : decode cX1_takeLine 82 = .ok (.iaload, 1) := by decide +kernel
theorem dX1_takeLine_83 : decode cX1_takeLine 83 = .ok (.ixor, 1) := by decide +kernel
theorem dX1_takeLine_84 : decode cX1_takeLine 84 = .ok (.laload, 1) := by decide +kernel
theorem dX1_takeLine_85 : decode cX1_takeLine 85 = .ok (.aload_n 0, 1) := by decide +kernel
theorem dX1_takeLine_86 : decode cX1_takeLine 86 = .ok (.getfield 32, 3) := by decide +kernel
theorem dX1_takeLine_89 : decode cX1_takeLine 89 = .ok (.iload 8, 2) := by decide +kernel
theorem dX1_takeLine_91 : decode cX1_takeLine 91 = .ok (.laload, 1) := by decide +kernel
theorem dX1_takeLine_92 : decode cX1_takeLine 92 = .ok (.ladd, 1) := by decide +kernel
theorem dX1_takeLine_93 : decode cX1_takeLine 93 = .ok (.invokestatic 123, 3) := by decide +kernel
theorem dX1_takeLine_96 : decode cX1_takeLine 96 = .ok (.lstore 6, 2) := by decide +kernel
theorem dX1_takeLine_98 : decode cX1_takeLine 98 = .ok (.iinc 8 1, 3) := by decide +kernel
theorem dX1_takeLine_101 : decode cX1_takeLine 101 = .ok (.goto (-58), 3) := by decide +kernel
theorem dX1_takeLine_104 : decode cX1_takeLine 104 = .ok (.aload_n 0, 1) := by decide +kernel
theorem dX1_takeLine_105 : decode cX1_takeLine 105 = .ok (.getfield 25, 3) := by decide +kernel
theorem dX1_takeLine_108 : decode cX1_takeLine 108 = .ok (.iload 5, 2) := by decide +kernel
theorem dX1_takeLine_110 : decode cX1_takeLine 110 = .ok (.lload 6, 2) := by decide +kernel
theorem dX1_takeLine_112 : decode cX1_takeLine 112 = .ok (.lastore, 1) := by decide +kernel
theorem dX1_takeLine_113 : decode cX1_takeLine 113 = .ok (.iinc 5 (-1), 3) := by decide +kernel
theorem dX1_takeLine_116 : decode cX1_takeLine 116 = .ok (.goto (-104), 3) := by decide +kernel
theorem dX1_takeLine_119 : decode cX1_takeLine 119 = .ok (.return_, 1) := by decide +kernel
theorem dX1_leastKey_0 : decode cX1_leastKey 0 = .ok (.aload_n 0, 1) := by decide +kernel
theorem dX1_leastKey_1 : decode cX1_leastKey 1 = .ok (.getfield 25, 3) := by decide +kernel
theorem dX1_leastKey_4 : decode cX1_leastKey 4 = .ok (.iconst 0, 1) := by decide +kernel
theorem dX1_leastKey_5 : decode cX1_leastKey 5 = .ok (.laload, 1) := by decide +kernel
theorem dX1_leastKey_6 : decode cX1_leastKey 6 = .ok (.lstore_n 2, 1) := by decide +kernel
theorem dX1_leastKey_7 : decode cX1_leastKey 7 = .ok (.iconst 1, 1) := by decide +kernel
theorem dX1_leastKey_8 : decode cX1_leastKey 8 = .ok (.istore 4, 2) := by decide +kernel
theorem dX1_leastKey_10 : decode cX1_leastKey 10 = .ok (.iload 4, 2) := by decide +kernel
theorem dX1_leastKey_12 : decode cX1_leastKey 12 = .ok (.iload_n 1, 1) := by decide +kernel
theorem dX1_leastKey_13 : decode cX1_leastKey 13 = .ok (.if_icmp .gt 21, 3) := by decide +kernel
theorem dX1_leastKey_16 : decode cX1_leastKey 16 = .ok (.lload_n 2, 1) := by decide +kernel
theorem dX1_leastKey_17 : decode cX1_leastKey 17 = .ok (.aload_n 0, 1) := by decide +kernel
theorem dX1_leastKey_18 : decode cX1_leastKey 18 = .ok (.getfield 25, 3) := by decide +kernel
theorem dX1_leastKey_21 : decode cX1_leastKey 21 = .ok (.iload 4, 2) := by decide +kernel
theorem dX1_leastKey_23 : decode cX1_leastKey 23 = .ok (.laload, 1) := by decide +kernel
theorem dX1_leastKey_24 : decode cX1_leastKey 24 = .ok (.invokestatic 123, 3) := by decide +kernel
theorem dX1_leastKey_27 : decode cX1_leastKey 27 = .ok (.lstore_n 2, 1) := by decide +kernel
theorem dX1_leastKey_28 : decode cX1_leastKey 28 = .ok (.iinc 4 1, 3) := by decide +kernel
theorem dX1_leastKey_31 : decode cX1_leastKey 31 = .ok (.goto (-21), 3) := by decide +kernel
theorem dX1_leastKey_34 : decode cX1_leastKey 34 = .ok (.lload_n 2, 1) := by decide +kernel
theorem dX1_leastKey_35 : decode cX1_leastKey 35 = .ok (.lreturn, 1) := by decide +kernel
theorem dX1_readKey_0 : decode cX1_readKey 0 = .ok (.aload_n 0, 1) := by decide +kernel
theorem dX1_readKey_1 : decode cX1_readKey 1 = .ok (.lload_n 1, 1) := by decide +kernel
theorem dX1_readKey_2 : decode cX1_readKey 2 = .ok (.bipush 32, 2) := by decide +kernel
theorem dX1_readKey_4 : decode cX1_readKey 4 = .ok (.lshr, 1) := by decide +kernel
theorem dX1_readKey_5 : decode cX1_readKey 5 = .ok (.l2i, 1) := by decide +kernel
theorem dX1_readKey_6 : decode cX1_readKey 6 = .ok (.putfield 18, 3) := by decide +kernel
theorem dX1_readKey_9 : decode cX1_readKey 9 = .ok (.iconst 0, 1) := by decide +kernel
theorem dX1_readKey_10 : decode cX1_readKey 10 = .ok (.istore 4, 2) := by decide +kernel
theorem dX1_readKey_12 : decode cX1_readKey 12 = .ok (.iload 4, 2) := by decide +kernel
theorem dX1_readKey_14 : decode cX1_readKey 14 = .ok (.iload_n 3, 1) := by decide +kernel
theorem dX1_readKey_15 : decode cX1_readKey 15 = .ok (.if_icmp .ge 43, 3) := by decide +kernel
theorem dX1_readKey_18 : decode cX1_readKey 18 = .ok (.lload_n 1, 1) := by decide +kernel
theorem dX1_readKey_19 : decode cX1_readKey 19 = .ok (.iload 4, 2) := by decide +kernel
theorem dX1_readKey_21 : decode cX1_readKey 21 = .ok (.invokestatic 120, 3) := by decide +kernel
theorem dX1_readKey_24 : decode cX1_readKey 24 = .ok (.lshr, 1) := by decide +kernel
theorem dX1_readKey_25 : decode cX1_readKey 25 = .ok (.l2i, 1) := by decide +kernel
theorem dX1_readKey_26 : decode cX1_readKey 26 = .ok (.bipush 15, 2) := by decide +kernel
theorem dX1_readKey_28 : decode cX1_readKey 28 = .ok (.iand, 1) := by decide +kernel
theorem dX1_readKey_29 : decode cX1_readKey 29 = .ok (.istore 5, 2) := by decide +kernel
theorem dX1_readKey_31 : decode cX1_readKey 31 = .ok (.aload_n 0, 1) := by decide +kernel
theorem dX1_readKey_32 : decode cX1_readKey 32 = .ok (.getfield 11, 3) := by decide +kernel
theorem dX1_readKey_35 : decode cX1_readKey 35 = .ok (.iload 4, 2) := by decide +kernel
theorem dX1_readKey_37 : decode cX1_readKey 37 = .ok (.iload 5, 2) := by decide +kernel
theorem dX1_readKey_39 : decode cX1_readKey 39 = .ok (.bipush 8, 2) := by decide +kernel
theorem dX1_readKey_41 : decode cX1_readKey 41 = .ok (.if_icmp .ne 8, 3) := by decide +kernel
theorem dX1_readKey_44 : decode cX1_readKey 44 = .ok (.bipush (-9), 2) := by decide +kernel
theorem dX1_readKey_46 : decode cX1_readKey 46 = .ok (.goto 5, 3) := by decide +kernel
theorem dX1_readKey_49 : decode cX1_readKey 49 = .ok (.iload 5, 2) := by decide +kernel
theorem dX1_readKey_51 : decode cX1_readKey 51 = .ok (.iastore, 1) := by decide +kernel
theorem dX1_readKey_52 : decode cX1_readKey 52 = .ok (.iinc 4 1, 3) := by decide +kernel
theorem dX1_readKey_55 : decode cX1_readKey 55 = .ok (.goto (-43), 3) := by decide +kernel
theorem dX1_readKey_58 : decode cX1_readKey 58 = .ok (.return_, 1) := by decide +kernel
theorem dX1_sortPlainWays_0 : decode cX1_sortPlainWays 0 = .ok (.iconst 0, 1) := by decide +kernel
theorem dX1_sortPlainWays_1 : decode cX1_sortPlainWays 1 = .ok (.istore_n 2, 1) := by decide +kernel
theorem dX1_sortPlainWays_2 : decode cX1_sortPlainWays 2 = .ok (.iconst 0, 1) := by decide +kernel
theorem dX1_sortPlainWays_3 : decode cX1_sortPlainWays 3 = .ok (.istore_n 3, 1) := by decide +kernel
theorem dX1_sortPlainWays_4 : decode cX1_sortPlainWays 4 = .ok (.iload_n 3, 1) := by decide +kernel
theorem dX1_sortPlainWays_5 : decode cX1_sortPlainWays 5 = .ok (.aload_n 0, 1) := by decide +kernel
theorem dX1_sortPlainWays_6 : decode cX1_sortPlainWays 6 = .ok (.getfield 42, 3) := by decide +kernel
theorem dX1_sortPlainWays_9 : decode cX1_sortPlainWays 9 = .ok (.getfield 62, 3) := by decide +kernel
theorem dX1_sortPlainWays_12 : decode cX1_sortPlainWays 12 = .ok (.iload_n 1, 1) := by decide +kernel
theorem dX1_sortPlainWays_13 : decode cX1_sortPlainWays 13 = .ok (.iaload, 1) := by decide +kernel
theorem dX1_sortPlainWays_14 : decode cX1_sortPlainWays 14 = .ok (.if_icmp .ge 68, 3) := by decide +kernel
theorem dX1_sortPlainWays_17 : decode cX1_sortPlainWays 17 = .ok (.aload_n 0, 1) := by decide +kernel
theorem dX1_sortPlainWays_18 : decode cX1_sortPlainWays 18 = .ok (.getfield 11, 3) := by decide +kernel
theorem dX1_sortPlainWays_21 : decode cX1_sortPlainWays 21 = .ok (.iload_n 3, 1) := by decide +kernel
theorem dX1_sortPlainWays_22 : decode cX1_sortPlainWays 22 = .ok (.iaload, 1) := by decide +kernel
theorem dX1_sortPlainWays_23 : decode cX1_sortPlainWays 23 = .ok (.istore 4, 2) := by decide +kernel
theorem dX1_sortPlainWays_25 : decode cX1_sortPlainWays 25 = .ok (.iload 4, 2) := by decide +kernel
theorem dX1_sortPlainWays_27 : decode cX1_sortPlainWays 27 = .ok (.bipush (-9), 2) := by decide +kernel
theorem dX1_sortPlainWays_29 : decode cX1_sortPlainWays 29 = .ok (.if_icmp .eq 47, 3) := by decide +kernel
theorem dX1_sortPlainWays_32 : decode cX1_sortPlainWays 32 = .ok (.aload_n 0, 1) := by decide +kernel
theorem dX1_sortPlainWays_33 : decode cX1_sortPlainWays 33 = .ok (.iload_n 1, 1) := by decide +kernel
theorem dX1_sortPlainWays_34 : decode cX1_sortPlainWays 34 = .ok (.iload_n 3, 1) := by decide +kernel
theorem dX1_sortPlainWays_35 : decode cX1_sortPlainWays 35 = .ok (.iload 4, 2) := by decide +kernel
theorem dX1_sortPlainWays_37 : decode cX1_sortPlainWays 37 = .ok (.invokevirtual 50, 3) := by decide +kernel
theorem dX1_sortPlainWays_40 : decode cX1_sortPlainWays 40 = .ok (.invokestatic 129, 3) := by decide +kernel
theorem dX1_sortPlainWays_43 : decode cX1_sortPlainWays 43 = .ok (.ifCond .eq 6, 3) := by decide +kernel
theorem dX1_sortPlainWays_46 : decode cX1_sortPlainWays 46 = .ok (.goto 30, 3) := by decide +kernel
theorem dX1_sortPlainWays_49 : decode cX1_sortPlainWays 49 = .ok (.aload_n 0, 1) := by decide +kernel
theorem dX1_sortPlainWays_50 : decode cX1_sortPlainWays 50 = .ok (.iload_n 2, 1) := by decide +kernel
theorem dX1_sortPlainWays_51 : decode cX1_sortPlainWays 51 = .ok (.aload_n 0, 1) := by decide +kernel
theorem dX1_sortPlainWays_52 : decode cX1_sortPlainWays 52 = .ok (.getfield 22, 3) := by decide +kernel
theorem dX1_sortPlainWays_55 : decode cX1_sortPlainWays 55 = .ok (.iload 4, 2) := by decide +kernel
theorem dX1_sortPlainWays_57 : decode cX1_sortPlainWays 57 = .ok (.iaload, 1) := by decide +kernel
theorem dX1_sortPlainWays_58 : decode cX1_sortPlainWays 58 = .ok (.aload_n 0, 1) := by decide +kernel
theorem dX1_sortPlainWays_59 : decode cX1_sortPlainWays 59 = .ok (.getfield 42, 3) := by decide +kernel
theorem dX1_sortPlainWays_62 : decode cX1_sortPlainWays 62 = .ok (.iload_n 1, 1) := by decide +kernel
theorem dX1_sortPlainWays_63 : decode cX1_sortPlainWays 63 = .ok (.iload_n 3, 1) := by decide +kernel
theorem dX1_sortPlainWays_64 : decode cX1_sortPlainWays 64 = .ok (.invokevirtual 90, 3) := by decide +kernel
theorem dX1_sortPlainWays_67 : decode cX1_sortPlainWays 67 = .ok (.invokestatic 93, 3) := by decide +kernel
theorem dX1_sortPlainWays_70 : decode cX1_sortPlainWays 70 = .ok (.invokevirtual 132, 3) := by decide +kernel
theorem dX1_sortPlainWays_73 : decode cX1_sortPlainWays 73 = .ok (.iinc 2 1, 3) := by decide +kernel
theorem dX1_sortPlainWays_76 : decode cX1_sortPlainWays 76 = .ok (.iinc 3 1, 3) := by decide +kernel
theorem dX1_sortPlainWays_79 : decode cX1_sortPlainWays 79 = .ok (.goto (-75), 3) := by decide +kernel
theorem dX1_sortPlainWays_82 : decode cX1_sortPlainWays 82 = .ok (.iload_n 2, 1) := by decide +kernel
theorem dX1_sortPlainWays_83 : decode cX1_sortPlainWays 83 = .ok (.ireturn, 1) := by decide +kernel
theorem dX1_insertWay_0 : decode cX1_insertWay 0 = .ok (.iload_n 1, 1) := by decide +kernel
theorem dX1_insertWay_1 : decode cX1_insertWay 1 = .ok (.istore_n 3, 1) := by decide +kernel
theorem dX1_insertWay_2 : decode cX1_insertWay 2 = .ok (.iload_n 3, 1) := by decide +kernel
theorem dX1_insertWay_3 : decode cX1_insertWay 3 = .ok (.ifCond .le 35, 3) := by decide +kernel
theorem dX1_insertWay_6 : decode cX1_insertWay 6 = .ok (.aload_n 0, 1) := by decide +kernel
theorem dX1_insertWay_7 : decode cX1_insertWay 7 = .ok (.getfield 15, 3) := by decide +kernel
theorem dX1_insertWay_10 : decode cX1_insertWay 10 = .ok (.iload_n 3, 1) := by decide +kernel
theorem dX1_insertWay_11 : decode cX1_insertWay 11 = .ok (.iconst 1, 1) := by decide +kernel
theorem dX1_insertWay_12 : decode cX1_insertWay 12 = .ok (.isub, 1) := by decide +kernel
theorem dX1_insertWay_13 : decode cX1_insertWay 13 = .ok (.iaload, 1) := by decide +kernel
theorem dX1_insertWay_14 : decode cX1_insertWay 14 = .ok (.iload_n 2, 1) := by decide +kernel
theorem dX1_insertWay_15 : decode cX1_insertWay 15 = .ok (.if_icmp .le 23, 3) := by decide +kernel
theorem dX1_insertWay_18 : decode cX1_insertWay 18 = .ok (.aload_n 0, 1) := by decide +kernel
theorem dX1_insertWay_19 : decode cX1_insertWay 19 = .ok (.getfield 15, 3) := by decide +kernel
theorem dX1_insertWay_22 : decode cX1_insertWay 22 = .ok (.iload_n 3, 1) := by decide +kernel
theorem dX1_insertWay_23 : decode cX1_insertWay 23 = .ok (.aload_n 0, 1) := by decide +kernel
theorem dX1_insertWay_24 : decode cX1_insertWay 24 = .ok (.getfield 15, 3) := by decide +kernel
theorem dX1_insertWay_27 : decode cX1_insertWay 27 = .ok (.iload_n 3, 1) := by decide +kernel
theorem dX1_insertWay_28 : decode cX1_insertWay 28 = .ok (.iconst 1, 1) := by decide +kernel
theorem dX1_insertWay_29 : decode cX1_insertWay 29 = .ok (.isub, 1) := by decide +kernel
theorem dX1_insertWay_30 : decode cX1_insertWay 30 = .ok (.iaload, 1) := by decide +kernel
theorem dX1_insertWay_31 : decode cX1_insertWay 31 = .ok (.iastore, 1) := by decide +kernel
theorem dX1_insertWay_32 : decode cX1_insertWay 32 = .ok (.iinc 3 (-1), 3) := by decide +kernel
theorem dX1_insertWay_35 : decode cX1_insertWay 35 = .ok (.goto (-33), 3) := by decide +kernel
theorem dX1_insertWay_38 : decode cX1_insertWay 38 = .ok (.aload_n 0, 1) := by decide +kernel
theorem dX1_insertWay_39 : decode cX1_insertWay 39 = .ok (.getfield 15, 3) := by decide +kernel
theorem dX1_insertWay_42 : decode cX1_insertWay 42 = .ok (.iload_n 3, 1) := by decide +kernel
theorem dX1_insertWay_43 : decode cX1_insertWay 43 = .ok (.iload_n 2, 1) := by decide +kernel
theorem dX1_insertWay_44 : decode cX1_insertWay 44 = .ok (.iastore, 1) := by decide +kernel
theorem dX1_insertWay_45 : decode cX1_insertWay 45 = .ok (.return_, 1) := by decide +kernel
theorem dX2_init_0 : decode cX2_init 0 = .ok (.aload_n 0, 1) := by decide +kernel
theorem dX2_init_1 : decode cX2_init 1 = .ok (.invokespecial 3, 3) := by decide +kernel
theorem dX2_init_4 : decode cX2_init 4 = .ok (.aload_n 0, 1) := by decide +kernel
theorem dX2_init_5 : decode cX2_init 5 = .ok (.bipush 6, 2) := by decide +kernel
theorem dX2_init_7 : decode cX2_init 7 = .ok (.newarray .int, 2) := by decide +kernel
theorem dX2_init_9 : decode cX2_init 9 = .ok (.putfield 9, 3) := by decide +kernel
theorem dX2_init_12 : decode cX2_init 12 = .ok (.aload_n 0, 1) := by decide +kernel
theorem dX2_init_13 : decode cX2_init 13 = .ok (.iconst 0, 1) := by decide +kernel
theorem dX2_init_14 : decode cX2_init 14 = .ok (.putfield 15, 3) := by decide +kernel
theorem dX2_init_17 : decode cX2_init 17 = .ok (.aload_n 0, 1) := by decide +kernel
theorem dX2_init_18 : decode cX2_init 18 = .ok (.bipush 48, 2) := by decide +kernel
theorem dX2_init_20 : decode cX2_init 20 = .ok (.newarray .int, 2) := by decide +kernel
theorem dX2_init_22 : decode cX2_init 22 = .ok (.putfield 19, 3) := by decide +kernel
theorem dX2_init_25 : decode cX2_init 25 = .ok (.aload_n 0, 1) := by decide +kernel
theorem dX2_init_26 : decode cX2_init 26 = .ok (.bipush 48, 2) := by decide +kernel
theorem dX2_init_28 : decode cX2_init 28 = .ok (.newarray .int, 2) := by decide +kernel
theorem dX2_init_30 : decode cX2_init 30 = .ok (.putfield 22, 3) := by decide +kernel
theorem dX2_init_33 : decode cX2_init 33 = .ok (.return_, 1) := by decide +kernel
theorem dX2_has_0 : decode cX2_has 0 = .ok (.iload_n 1, 1) := by decide +kernel
theorem dX2_has_1 : decode cX2_has 1 = .ok (.ifCond .lt 15, 3) := by decide +kernel
theorem dX2_has_4 : decode cX2_has 4 = .ok (.iload_n 1, 1) := by decide +kernel
theorem dX2_has_5 : decode cX2_has 5 = .ok (.aload_n 0, 1) := by decide +kernel
theorem dX2_has_6 : decode cX2_has 6 = .ok (.getfield 15, 3) := by decide +kernel
theorem dX2_has_9 : decode cX2_has 9 = .ok (.if_icmp .ge 7, 3) := by decide +kernel
theorem dX2_has_12 : decode cX2_has 12 = .ok (.iconst 1, 1) := by decide +kernel
theorem dX2_has_13 : decode cX2_has 13 = .ok (.goto 4, 3) := by decide +kernel
theorem dX2_has_16 : decode cX2_has 16 = .ok (.iconst 0, 1) := by decide +kernel
theorem dX2_has_17 : decode cX2_has 17 = .ok (.ireturn, 1) := by decide +kernel
theorem dX2_hasLine_0 : decode cX2_hasLine 0 = .ok (.aload_n 0, 1) := by decide +kernel
theorem dX2_hasLine_1 : decode cX2_hasLine 1 = .ok (.iload_n 1, 1) := by decide +kernel
theorem dX2_hasLine_2 : decode cX2_hasLine 2 = .ok (.invokevirtual 25, 3) := by decide +kernel
theorem dX2_hasLine_5 : decode cX2_hasLine 5 = .ok (.ifCond .eq 21, 3) := by decide +kernel
theorem dX2_hasLine_8 : decode cX2_hasLine 8 = .ok (.iload_n 2, 1) := by decide +kernel
theorem dX2_hasLine_9 : decode cX2_hasLine 9 = .ok (.ifCond .lt 17, 3) := by decide +kernel
theorem dX2_hasLine_12 : decode cX2_hasLine 12 = .ok (.iload_n 2, 1) := by decide +kernel
theorem dX2_hasLine_13 : decode cX2_hasLine 13 = .ok (.aload_n 0, 1) := by decide +kernel
theorem dX2_hasLine_14 : decode cX2_hasLine 14 = .ok (.getfield 9, 3) := by decide +kernel
theorem dX2_hasLine_17 : decode cX2_hasLine 17 = .ok (.iload_n 1, 1) := by decide +kernel
theorem dX2_hasLine_18 : decode cX2_hasLine 18 = .ok (.iaload, 1) := by decide +kernel
theorem dX2_hasLine_19 : decode cX2_hasLine 19 = .ok (.if_icmp .ge 7, 3) := by decide +kernel
theorem dX2_hasLine_22 : decode cX2_hasLine 22 = .ok (.iconst 1, 1) := by decide +kernel
theorem dX2_hasLine_23 : decode cX2_hasLine 23 = .ok (.goto 4, 3) := by decide +kernel
theorem dX2_hasLine_26 : decode cX2_hasLine 26 = .ok (.iconst 0, 1) := by decide +kernel
theorem dX2_hasLine_27 : decode cX2_hasLine 27 = .ok (.ireturn, 1) := by decide +kernel
theorem dX2_open_0 : decode cX2_open 0 = .ok (.aload_n 0, 1) := by decide +kernel
theorem dX2_open_1 : decode cX2_open 1 = .ok (.dup, 1) := by decide +kernel
theorem dX2_open_2 : decode cX2_open 2 = .ok (.getfield 15, 3) := by decide +kernel
theorem dX2_open_5 : decode cX2_open 5 = .ok (.dup_x1, 1) := by decide +kernel
theorem dX2_open_6 : decode cX2_open 6 = .ok (.iconst 1, 1) := by decide +kernel
theorem dX2_open_7 : decode cX2_open 7 = .ok (.iadd, 1) := by decide +kernel
theorem dX2_open_8 : decode cX2_open 8 = .ok (.putfield 15, 3) := by decide +kernel
theorem dX2_open_11 : decode cX2_open 11 = .ok (.ireturn, 1) := by decide +kernel
theorem dX2_add_0 : decode cX2_add 0 = .ok (.aload_n 0, 1) := by decide +kernel
theorem dX2_add_1 : decode cX2_add 1 = .ok (.getfield 9, 3) := by decide +kernel
theorem dX2_add_4 : decode cX2_add 4 = .ok (.iload_n 1, 1) := by decide +kernel
theorem dX2_add_5 : decode cX2_add 5 = .ok (.iaload, 1) := by decide +kernel
theorem dX2_add_6 : decode cX2_add 6 = .ok (.istore 4, 2) := by decide +kernel
theorem dX2_add_8 : decode cX2_add 8 = .ok (.aload_n 0, 1) := by decide +kernel
theorem dX2_add_9 : decode cX2_add 9 = .ok (.getfield 9, 3) := by decide +kernel
theorem dX2_add_12 : decode cX2_add 12 = .ok (.iload_n 1, 1) := by decide +kernel
theorem dX2_add_13 : decode cX2_add 13 = .ok (.iload 4, 2) := by decide +kernel
theorem dX2_add_15 : decode cX2_add 15 = .ok (.iconst 1, 1) := by decide +kernel
theorem dX2_add_16 : decode cX2_add 16 = .ok (.iadd, 1) := by decide +kernel
theorem dX2_add_17 : decode cX2_add 17 = .ok (.iastore, 1) := by decide +kernel
theorem dX2_add_18 : decode cX2_add 18 = .ok (.aload_n 0, 1) := by decide +kernel
theorem dX2_add_19 : decode cX2_add 19 = .ok (.iload_n 1, 1) := by decide +kernel
theorem dX2_add_20 : decode cX2_add 20 = .ok (.iload 4, 2) := by decide +kernel
theorem dX2_add_22 : decode cX2_add 22 = .ok (.iload_n 2, 1) := by decide +kernel
theorem dX2_add_23 : decode cX2_add 23 = .ok (.iload_n 3, 1) := by decide +kernel
theorem dX2_add_24 : decode cX2_add 24 = .ok (.invokevirtual 29, 3) := by decide +kernel
theorem dX2_add_27 : decode cX2_add 27 = .ok (.iload 4, 2) := by decide +kernel
theorem dX2_add_29 : decode cX2_add 29 = .ok (.ireturn, 1) := by decide +kernel
theorem dX2_write_0 : decode cX2_write 0 = .ok (.aload_n 0, 1) := by decide +kernel
theorem dX2_write_1 : decode cX2_write 1 = .ok (.getfield 19, 3) := by decide +kernel
theorem dX2_write_4 : decode cX2_write 4 = .ok (.iload_n 1, 1) := by decide +kernel
theorem dX2_write_5 : decode cX2_write 5 = .ok (.bipush 8, 2) := by decide +kernel
theorem dX2_write_7 : decode cX2_write 7 = .ok (.imul, 1) := by decide +kernel
theorem dX2_write_8 : decode cX2_write 8 = .ok (.iload_n 2, 1) := by decide +kernel
theorem dX2_write_9 : decode cX2_write 9 = .ok (.iadd, 1) := by decide +kernel
theorem dX2_write_10 : decode cX2_write 10 = .ok (.iload_n 3, 1) := by decide +kernel
theorem dX2_write_11 : decode cX2_write 11 = .ok (.iastore, 1) := by decide +kernel
theorem dX2_write_12 : decode cX2_write 12 = .ok (.aload_n 0, 1) := by decide +kernel
theorem dX2_write_13 : decode cX2_write 13 = .ok (.getfield 22, 3) := by decide +kernel
theorem dX2_write_16 : decode cX2_write 16 = .ok (.iload_n 1, 1) := by decide +kernel
theorem dX2_write_17 : decode cX2_write 17 = .ok (.bipush 8, 2) := by decide +kernel
theorem dX2_write_19 : decode cX2_write 19 = .ok (.imul, 1) := by decide +kernel
theorem dX2_write_20 : decode cX2_write 20 = .ok (.iload_n 2, 1) := by decide +kernel
theorem dX2_write_21 : decode cX2_write 21 = .ok (.iadd, 1) := by decide +kernel
theorem dX2_write_22 : decode cX2_write 22 = .ok (.iload 4, 2) := by decide +kernel
theorem dX2_write_24 : decode cX2_write 24 = .ok (.iastore, 1) := by decide +kernel
theorem dX2_write_25 : decode cX2_write 25 = .ok (.return_, 1) := by decide +kernel
theorem dX2_longOf_0 : decode cX2_longOf 0 = .ok (.aload_n 0, 1) := by decide +kernel
theorem dX2_longOf_1 : decode cX2_longOf 1 = .ok (.getfield 19, 3) := by decide +kernel
theorem dX2_longOf_4 : decode cX2_longOf 4 = .ok (.iload_n 1, 1) := by decide +kernel
theorem dX2_longOf_5 : decode cX2_longOf 5 = .ok (.bipush 8, 2) := by decide +kernel
theorem dX2_longOf_7 : decode cX2_longOf 7 = .ok (.imul, 1) := by decide +kernel
theorem dX2_longOf_8 : decode cX2_longOf 8 = .ok (.iload_n 2, 1) := by decide +kernel
theorem dX2_longOf_9 : decode cX2_longOf 9 = .ok (.iadd, 1) := by decide +kernel
theorem dX2_longOf_10 : decode cX2_longOf 10 = .ok (.iaload, 1) := by decide +kernel
theorem dX2_longOf_11 : decode cX2_longOf 11 = .ok (.ireturn, 1) := by decide +kernel
theorem dX2_wideOf_0 : decode cX2_wideOf 0 = .ok (.aload_n 0, 1) := by decide +kernel
theorem dX2_wideOf_1 : decode cX2_wideOf 1 = .ok (.getfield 22, 3) := by decide +kernel
theorem dX2_wideOf_4 : decode cX2_wideOf 4 = .ok (.iload_n 1, 1) := by decide +kernel
theorem dX2_wideOf_5 : decode cX2_wideOf 5 = .ok (.bipush 8, 2) := by decide +kernel
theorem dX2_wideOf_7 : decode cX2_wideOf 7 = .ok (.imul, 1) := by decide +kernel
theorem dX2_wideOf_8 : decode cX2_wideOf 8 = .ok (.iload_n 2, 1) := by decide +kernel
theorem dX2_wideOf_9 : decode cX2_wideOf 9 = .ok (.iadd, 1) := by decide +kernel
theorem dX2_wideOf_10 : decode cX2_wideOf 10 = .ok (.iaload, 1) := by decide +kernel
theorem dX2_wideOf_11 : decode cX2_wideOf 11 = .ok (.ireturn, 1) := by decide +kernel
theorem dX2_allLines_0 : decode cX2_allLines 0 = .ok (.iconst 0, 1) := by decide +kernel
theorem dX2_allLines_1 : decode cX2_allLines 1 = .ok (.istore_n 1, 1) := by decide +kernel
theorem dX2_allLines_2 : decode cX2_allLines 2 = .ok (.iconst 0, 1) := by decide +kernel
theorem dX2_allLines_3 : decode cX2_allLines 3 = .ok (.istore_n 2, 1) := by decide +kernel
theorem dX2_allLines_4 : decode cX2_allLines 4 = .ok (.iload_n 2, 1) := by decide +kernel
theorem dX2_allLines_5 : decode cX2_allLines 5 = .ok (.aload_n 0, 1) := by decide +kernel
theorem dX2_allLines_6 : decode cX2_allLines 6 = .ok (.getfield 15, 3) := by decide +kernel
theorem dX2_allLines_9 : decode cX2_allLines 9 = .ok (.if_icmp .ge 18, 3) := by decide +kernel
theorem dX2_allLines_12 : decode cX2_allLines 12 = .ok (.iload_n 1, 1) := by decide +kernel
theorem dX2_allLines_13 : decode cX2_allLines 13 = .ok (.aload_n 0, 1) := by decide +kernel
theorem dX2_allLines_14 : decode cX2_allLines 14 = .ok (.getfield 9, 3) := by decide +kernel
theorem dX2_allLines_17 : decode cX2_allLines 17 = .ok (.iload_n 2, 1) := by decide +kernel
theorem dX2_allLines_18 : decode cX2_allLines 18 = .ok (.iaload, 1) := by decide +kernel
theorem dX2_allLines_19 : decode cX2_allLines 19 = .ok (.iadd, 1) := by decide +kernel
theorem dX2_allLines_20 : decode cX2_allLines 20 = .ok (.istore_n 1, 1) := by decide +kernel
theorem dX2_allLines_21 : decode cX2_allLines 21 = .ok (.iinc 2 1, 3) := by decide +kernel
theorem dX2_allLines_24 : decode cX2_allLines 24 = .ok (.goto (-20), 3) := by decide +kernel
theorem dX2_allLines_27 : decode cX2_allLines 27 = .ok (.iload_n 1, 1) := by decide +kernel
theorem dX2_allLines_28 : decode cX2_allLines 28 = .ok (.ireturn, 1) := by decide +kernel
theorem dX3_rank_0 : decode cX3_rank 0 = .ok (.iload_n 0, 1) := by decide +kernel
theorem dX3_rank_1 : decode cX3_rank 1 = .ok (.invokestatic 7, 3) := by decide +kernel
theorem dX3_rank_4 : decode cX3_rank 4 = .ok (.istore_n 3, 1) := by decide +kernel
theorem dX3_rank_5 : decode cX3_rank 5 = .ok (.iload_n 1, 1) := by decide +kernel
theorem dX3_rank_6 : decode cX3_rank 6 = .ok (.iload_n 2, 1) := by decide +kernel
theorem dX3_rank_7 : decode cX3_rank 7 = .ok (.isub, 1) := by decide +kernel
theorem dX3_rank_8 : decode cX3_rank 8 = .ok (.invokestatic 7, 3) := by decide +kernel
theorem dX3_rank_11 : decode cX3_rank 11 = .ok (.istore 4, 2) := by decide +kernel
theorem dX3_rank_13 : decode cX3_rank 13 = .ok (.iload_n 1, 1) := by decide +kernel
theorem dX3_rank_14 : decode cX3_rank 14 = .ok (.iload_n 2, 1) := by decide +kernel
theorem dX3_rank_15 : decode cX3_rank 15 = .ok (.iadd, 1) := by decide +kernel
theorem dX3_rank_16 : decode cX3_rank 16 = .ok (.invokestatic 7, 3) := by decide +kernel
theorem dX3_rank_19 : decode cX3_rank 19 = .ok (.istore 5, 2) := by decide +kernel
theorem dX3_rank_21 : decode cX3_rank 21 = .ok (.ldc 15, 2) := by decide +kernel
theorem dX3_rank_23 : decode cX3_rank 23 = .ok (.iconst 0, 1) := by decide +kernel
theorem dX3_rank_24 : decode cX3_rank 24 = .ok (.iload_n 3, 1) := by decide +kernel
theorem dX3_rank_25 : decode cX3_rank 25 = .ok (.iload 4, 2) := by decide +kernel
theorem dX3_rank_27 : decode cX3_rank 27 = .ok (.iconst 0, 1) := by decide +kernel
theorem dX3_rank_28 : decode cX3_rank 28 = .ok (.invokestatic 16, 3) := by decide +kernel
theorem dX3_rank_31 : decode cX3_rank 31 = .ok (.istore 6, 2) := by decide +kernel
theorem dX3_rank_33 : decode cX3_rank 33 = .ok (.iload 6, 2) := by decide +kernel
theorem dX3_rank_35 : decode cX3_rank 35 = .ok (.iconst 1, 1) := by decide +kernel
theorem dX3_rank_36 : decode cX3_rank 36 = .ok (.iload_n 3, 1) := by decide +kernel
theorem dX3_rank_37 : decode cX3_rank 37 = .ok (.iload 5, 2) := by decide +kernel
theorem dX3_rank_39 : decode cX3_rank 39 = .ok (.bipush 40, 2) := by decide +kernel
theorem dX3_rank_41 : decode cX3_rank 41 = .ok (.invokestatic 16, 3) := by decide +kernel
theorem dX3_rank_44 : decode cX3_rank 44 = .ok (.istore 6, 2) := by decide +kernel
theorem dX3_rank_46 : decode cX3_rank 46 = .ok (.iload 6, 2) := by decide +kernel
theorem dX3_rank_48 : decode cX3_rank 48 = .ok (.iconst 2, 1) := by decide +kernel
theorem dX3_rank_49 : decode cX3_rank 49 = .ok (.iload_n 3, 1) := by decide +kernel
theorem dX3_rank_50 : decode cX3_rank 50 = .ok (.sipush 1800, 3) := by decide +kernel
theorem dX3_rank_53 : decode cX3_rank 53 = .ok (.isub, 1) := by decide +kernel
theorem dX3_rank_54 : decode cX3_rank 54 = .ok (.invokestatic 7, 3) := by decide +kernel
theorem dX3_rank_57 : decode cX3_rank 57 = .ok (.iload 4, 2) := by decide +kernel
theorem dX3_rank_59 : decode cX3_rank 59 = .ok (.bipush 50, 2) := by decide +kernel
theorem dX3_rank_61 : decode cX3_rank 61 = .ok (.invokestatic 16, 3) := by decide +kernel
theorem dX3_rank_64 : decode cX3_rank 64 = .ok (.istore 6, 2) := by decide +kernel
theorem dX3_rank_66 : decode cX3_rank 66 = .ok (.iload 6, 2) := by decide +kernel
theorem dX3_rank_68 : decode cX3_rank 68 = .ok (.iconst 3, 1) := by decide +kernel
theorem dX3_rank_69 : decode cX3_rank 69 = .ok (.iload_n 3, 1) := by decide +kernel
theorem dX3_rank_70 : decode cX3_rank 70 = .ok (.sipush 600, 3) := by decide +kernel
theorem dX3_rank_73 : decode cX3_rank 73 = .ok (.isub, 1) := by decide +kernel
theorem dX3_rank_74 : decode cX3_rank 74 = .ok (.invokestatic 7, 3) := by decide +kernel
theorem dX3_rank_77 : decode cX3_rank 77 = .ok (.iload 4, 2) := by decide +kernel
theorem dX3_rank_79 : decode cX3_rank 79 = .ok (.bipush 45, 2) := by decide +kernel
theorem dX3_rank_81 : decode cX3_rank 81 = .ok (.invokestatic 16, 3) := by decide +kernel
theorem dX3_rank_84 : decode cX3_rank 84 = .ok (.istore 6, 2) := by decide +kernel
theorem dX3_rank_86 : decode cX3_rank 86 = .ok (.iload 6, 2) := by decide +kernel
theorem dX3_rank_88 : decode cX3_rank 88 = .ok (.iconst 3, 1) := by decide +kernel
theorem dX3_rank_89 : decode cX3_rank 89 = .ok (.iload_n 3, 1) := by decide +kernel
theorem dX3_rank_90 : decode cX3_rank 90 = .ok (.iload 4, 2) := by decide +kernel
theorem dX3_rank_92 : decode cX3_rank 92 = .ok (.sipush 600, 3) := by decide +kernel
theorem dX3_rank_95 : decode cX3_rank 95 = .ok (.isub, 1) := by decide +kernel
theorem dX3_rank_96 : decode cX3_rank 96 = .ok (.invokestatic 7, 3) := by decide +kernel
theorem dX3_rank_99 : decode cX3_rank 99 = .ok (.bipush 45, 2) := by decide +kernel
theorem dX3_rank_101 : decode cX3_rank 101 = .ok (.invokestatic 16, 3) := by decide +kernel
theorem dX3_rank_104 : decode cX3_rank 104 = .ok (.ireturn, 1) := by decide +kernel
theorem dX3_lesser_0 : decode cX3_lesser 0 = .ok (.iload_n 2, 1) := by decide +kernel
theorem dX3_lesser_1 : decode cX3_lesser 1 = .ok (.bipush 30, 2) := by decide +kernel
theorem dX3_lesser_3 : decode cX3_lesser 3 = .ok (.if_icmp .gt 9, 3) := by decide +kernel
theorem dX3_lesser_6 : decode cX3_lesser 6 = .ok (.iload_n 3, 1) := by decide +kernel
theorem dX3_lesser_7 : decode cX3_lesser 7 = .ok (.bipush 30, 2) := by decide +kernel
theorem dX3_lesser_9 : decode cX3_lesser 9 = .ok (.if_icmp .le 5, 3) := by decide +kernel
theorem dX3_lesser_12 : decode cX3_lesser 12 = .ok (.iload_n 0, 1) := by decide +kernel
theorem dX3_lesser_13 : decode cX3_lesser 13 = .ok (.ireturn, 1) := by decide +kernel
theorem dX3_lesser_14 : decode cX3_lesser 14 = .ok (.iconst 4, 1) := by decide +kernel
theorem dX3_lesser_15 : decode cX3_lesser 15 = .ok (.iload_n 2, 1) := by decide +kernel
theorem dX3_lesser_16 : decode cX3_lesser 16 = .ok (.iload_n 3, 1) := by decide +kernel
theorem dX3_lesser_17 : decode cX3_lesser 17 = .ok (.iadd, 1) := by decide +kernel
theorem dX3_lesser_18 : decode cX3_lesser 18 = .ok (.iload 4, 2) := by decide +kernel
theorem dX3_lesser_20 : decode cX3_lesser 20 = .ok (.iadd, 1) := by decide +kernel
theorem dX3_lesser_21 : decode cX3_lesser 21 = .ok (.imul, 1) := by decide +kernel
theorem dX3_lesser_22 : decode cX3_lesser 22 = .ok (.iload_n 1, 1) := by decide +kernel
theorem dX3_lesser_23 : decode cX3_lesser 23 = .ok (.iadd, 1) := by decide +kernel
theorem dX3_lesser_24 : decode cX3_lesser 24 = .ok (.istore 5, 2) := by decide +kernel
theorem dX3_lesser_26 : decode cX3_lesser 26 = .ok (.iload 5, 2) := by decide +kernel
theorem dX3_lesser_28 : decode cX3_lesser 28 = .ok (.iload_n 0, 1) := by decide +kernel
theorem dX3_lesser_29 : decode cX3_lesser 29 = .ok (.if_icmp .ge 8, 3) := by decide +kernel
theorem dX3_lesser_32 : decode cX3_lesser 32 = .ok (.iload 5, 2) := by decide +kernel
theorem dX3_lesser_34 : decode cX3_lesser 34 = .ok (.goto 4, 3) := by decide +kernel
theorem dX3_lesser_37 : decode cX3_lesser 37 = .ok (.iload_n 0, 1) := by decide +kernel
theorem dX3_lesser_38 : decode cX3_lesser 38 = .ok (.ireturn, 1) := by decide +kernel
theorem dX3_kindOf_0 : decode cX3_kindOf 0 = .ok (.iload_n 0, 1) := by decide +kernel
theorem dX3_kindOf_1 : decode cX3_kindOf 1 = .ok (.iconst 4, 1) := by decide +kernel
theorem dX3_kindOf_2 : decode cX3_kindOf 2 = .ok (.irem, 1) := by decide +kernel
theorem dX3_kindOf_3 : decode cX3_kindOf 3 = .ok (.ireturn, 1) := by decide +kernel
theorem dX3_costOf_0 : decode cX3_costOf 0 = .ok (.iload_n 0, 1) := by decide +kernel
theorem dX3_costOf_1 : decode cX3_costOf 1 = .ok (.iconst 4, 1) := by decide +kernel
theorem dX3_costOf_2 : decode cX3_costOf 2 = .ok (.idiv, 1) := by decide +kernel
theorem dX3_costOf_3 : decode cX3_costOf 3 = .ok (.ireturn, 1) := by decide +kernel
theorem dX4_init_0 : decode cX4_init 0 = .ok (.aload_n 0, 1) := by decide +kernel
theorem dX4_init_1 : decode cX4_init 1 = .ok (.invokespecial 3, 3) := by decide +kernel
theorem dX4_init_4 : decode cX4_init 4 = .ok (.aload_n 0, 1) := by decide +kernel
theorem dX4_init_5 : decode cX4_init 5 = .ok (.bipush 8, 2) := by decide +kernel
theorem dX4_init_7 : decode cX4_init 7 = .ok (.newarray .int, 2) := by decide +kernel
theorem dX4_init_9 : decode cX4_init 9 = .ok (.putfield 9, 3) := by decide +kernel
theorem dX4_init_12 : decode cX4_init 12 = .ok (.aload_n 0, 1) := by decide +kernel
theorem dX4_init_13 : decode cX4_init 13 = .ok (.bipush 8, 2) := by decide +kernel
theorem dX4_init_15 : decode cX4_init 15 = .ok (.newarray .int, 2) := by decide +kernel
theorem dX4_init_17 : decode cX4_init 17 = .ok (.putfield 15, 3) := by decide +kernel
theorem dX4_init_20 : decode cX4_init 20 = .ok (.aload_n 0, 1) := by decide +kernel
theorem dX4_init_21 : decode cX4_init 21 = .ok (.bipush 8, 2) := by decide +kernel
theorem dX4_init_23 : decode cX4_init 23 = .ok (.newarray .int, 2) := by decide +kernel
theorem dX4_init_25 : decode cX4_init 25 = .ok (.putfield 18, 3) := by decide +kernel
theorem dX4_init_28 : decode cX4_init 28 = .ok (.aload_n 0, 1) := by decide +kernel
theorem dX4_init_29 : decode cX4_init 29 = .ok (.bipush 8, 2) := by decide +kernel
theorem dX4_init_31 : decode cX4_init 31 = .ok (.newarray .int, 2) := by decide +kernel
theorem dX4_init_33 : decode cX4_init 33 = .ok (.putfield 21, 3) := by decide +kernel
theorem dX4_init_36 : decode cX4_init 36 = .ok (.aload_n 0, 1) := by decide +kernel
theorem dX4_init_37 : decode cX4_init 37 = .ok (.iconst 0, 1) := by decide +kernel
theorem dX4_init_38 : decode cX4_init 38 = .ok (.putfield 24, 3) := by decide +kernel
theorem dX4_init_41 : decode cX4_init 41 = .ok (.aload_n 0, 1) := by decide +kernel
theorem dX4_init_42 : decode cX4_init 42 = .ok (.bipush 6, 2) := by decide +kernel
theorem dX4_init_44 : decode cX4_init 44 = .ok (.putfield 28, 3) := by decide +kernel
theorem dX4_init_47 : decode cX4_init 47 = .ok (.return_, 1) := by decide +kernel
theorem dX4_has_0 : decode cX4_has 0 = .ok (.iload_n 1, 1) := by decide +kernel
theorem dX4_has_1 : decode cX4_has 1 = .ok (.ifCond .lt 15, 3) := by decide +kernel
theorem dX4_has_4 : decode cX4_has 4 = .ok (.iload_n 1, 1) := by decide +kernel
theorem dX4_has_5 : decode cX4_has 5 = .ok (.aload_n 0, 1) := by decide +kernel
theorem dX4_has_6 : decode cX4_has 6 = .ok (.getfield 24, 3) := by decide +kernel
theorem dX4_has_9 : decode cX4_has 9 = .ok (.if_icmp .ge 7, 3) := by decide +kernel
theorem dX4_has_12 : decode cX4_has 12 = .ok (.iconst 1, 1) := by decide +kernel
theorem dX4_has_13 : decode cX4_has 13 = .ok (.goto 4, 3) := by decide +kernel
theorem dX4_has_16 : decode cX4_has 16 = .ok (.iconst 0, 1) := by decide +kernel
theorem dX4_has_17 : decode cX4_has 17 = .ok (.ireturn, 1) := by decide +kernel
theorem dX4_add_0 : decode cX4_add 0 = .ok (.aload_n 0, 1) := by decide +kernel
theorem dX4_add_1 : decode cX4_add 1 = .ok (.getfield 9, 3) := by decide +kernel
theorem dX4_add_4 : decode cX4_add 4 = .ok (.aload_n 0, 1) := by decide +kernel
theorem dX4_add_5 : decode cX4_add 5 = .ok (.getfield 24, 3) := by decide +kernel
theorem dX4_add_8 : decode cX4_add 8 = .ok (.iload_n 1, 1) := by decide +kernel
theorem dX4_add_9 : decode cX4_add 9 = .ok (.iastore, 1) := by decide +kernel
theorem dX4_add_10 : decode cX4_add 10 = .ok (.aload_n 0, 1) := by decide +kernel
theorem dX4_add_11 : decode cX4_add 11 = .ok (.getfield 15, 3) := by decide +kernel
theorem dX4_add_14 : decode cX4_add 14 = .ok (.aload_n 0, 1) := by decide +kernel
theorem dX4_add_15 : decode cX4_add 15 = .ok (.getfield 24, 3) := by decide +kernel
theorem dX4_add_18 : decode cX4_add 18 = .ok (.iload_n 2, 1) := by decide +kernel
theorem dX4_add_19 : decode cX4_add 19 = .ok (.iastore, 1) := by decide +kernel
theorem dX4_add_20 : decode cX4_add 20 = .ok (.aload_n 0, 1) := by decide +kernel
theorem dX4_add_21 : decode cX4_add 21 = .ok (.getfield 18, 3) := by decide +kernel
theorem dX4_add_24 : decode cX4_add 24 = .ok (.aload_n 0, 1) := by decide +kernel
theorem dX4_add_25 : decode cX4_add 25 = .ok (.getfield 24, 3) := by decide +kernel
theorem dX4_add_28 : decode cX4_add 28 = .ok (.iload_n 3, 1) := by decide +kernel
theorem dX4_add_29 : decode cX4_add 29 = .ok (.iastore, 1) := by decide +kernel
theorem dX4_add_30 : decode cX4_add 30 = .ok (.aload_n 0, 1) := by decide +kernel
theorem dX4_add_31 : decode cX4_add 31 = .ok (.getfield 21, 3) := by decide +kernel
theorem dX4_add_34 : decode cX4_add 34 = .ok (.aload_n 0, 1) := by decide +kernel
theorem dX4_add_35 : decode cX4_add 35 = .ok (.getfield 24, 3) := by decide +kernel
theorem dX4_add_38 : decode cX4_add 38 = .ok (.iload 4, 2) := by decide +kernel
theorem dX4_add_40 : decode cX4_add 40 = .ok (.iastore, 1) := by decide +kernel
theorem dX4_add_41 : decode cX4_add 41 = .ok (.aload_n 0, 1) := by decide +kernel
theorem dX4_add_42 : decode cX4_add 42 = .ok (.dup, 1) := by decide +kernel
theorem dX4_add_43 : decode cX4_add 43 = .ok (.getfield 24, 3) := by decide +kernel
theorem dX4_add_46 : decode cX4_add 46 = .ok (.dup_x1, 1) := by decide +kernel
theorem dX4_add_47 : decode cX4_add 47 = .ok (.iconst 1, 1) := by decide +kernel
theorem dX4_add_48 : decode cX4_add 48 = .ok (.iadd, 1) := by decide +kernel
theorem dX4_add_49 : decode cX4_add 49 = .ok (.putfield 24, 3) := by decide +kernel
theorem dX4_add_52 : decode cX4_add 52 = .ok (.ireturn, 1) := by decide +kernel
theorem dX4_longIn_0 : decode cX4_longIn 0 = .ok (.iconst 5, 1) := by decide +kernel
theorem dX4_longIn_1 : decode cX4_longIn 1 = .ok (.iload_n 2, 1) := by decide +kernel
theorem dX4_longIn_2 : decode cX4_longIn 2 = .ok (.imul, 1) := by decide +kernel
theorem dX4_longIn_3 : decode cX4_longIn 3 = .ok (.bipush 6, 2) := by decide +kernel
theorem dX4_longIn_5 : decode cX4_longIn 5 = .ok (.invokestatic 31, 3) := by decide +kernel
theorem dX4_longIn_8 : decode cX4_longIn 8 = .ok (.istore_n 3, 1) := by decide +kernel
theorem dX4_longIn_9 : decode cX4_longIn 9 = .ok (.aload_n 0, 1) := by decide +kernel
theorem dX4_longIn_10 : decode cX4_longIn 10 = .ok (.getfield 18, 3) := by decide +kernel
theorem dX4_longIn_13 : decode cX4_longIn 13 = .ok (.iload_n 1, 1) := by decide +kernel
theorem dX4_longIn_14 : decode cX4_longIn 14 = .ok (.iaload, 1) := by decide +kernel
theorem dX4_longIn_15 : decode cX4_longIn 15 = .ok (.iload_n 2, 1) := by decide +kernel
theorem dX4_longIn_16 : decode cX4_longIn 16 = .ok (.imul, 1) := by decide +kernel
theorem dX4_longIn_17 : decode cX4_longIn 17 = .ok (.bipush 100, 2) := by decide +kernel
theorem dX4_longIn_19 : decode cX4_longIn 19 = .ok (.invokestatic 31, 3) := by decide +kernel
theorem dX4_longIn_22 : decode cX4_longIn 22 = .ok (.istore 4, 2) := by decide +kernel
theorem dX4_longIn_24 : decode cX4_longIn 24 = .ok (.aload_n 0, 1) := by decide +kernel
theorem dX4_longIn_25 : decode cX4_longIn 25 = .ok (.getfield 9, 3) := by decide +kernel
theorem dX4_longIn_28 : decode cX4_longIn 28 = .ok (.iload_n 1, 1) := by decide +kernel
theorem dX4_longIn_29 : decode cX4_longIn 29 = .ok (.iaload, 1) := by decide +kernel
theorem dX4_longIn_30 : decode cX4_longIn 30 = .ok (.iload_n 3, 1) := by decide +kernel
theorem dX4_longIn_31 : decode cX4_longIn 31 = .ok (.iadd, 1) := by decide +kernel
theorem dX4_longIn_32 : decode cX4_longIn 32 = .ok (.iload 4, 2) := by decide +kernel
theorem dX4_longIn_34 : decode cX4_longIn 34 = .ok (.iadd, 1) := by decide +kernel
theorem dX4_longIn_35 : decode cX4_longIn 35 = .ok (.sipush 21600, 3) := by decide +kernel
theorem dX4_longIn_38 : decode cX4_longIn 38 = .ok (.invokestatic 37, 3) := by decide +kernel
theorem dX4_longIn_41 : decode cX4_longIn 41 = .ok (.ireturn, 1) := by decide +kernel
theorem dX4_counts_0 : decode cX4_counts 0 = .ok (.aload_n 0, 1) := by decide +kernel
theorem dX4_counts_1 : decode cX4_counts 1 = .ok (.getfield 21, 3) := by decide +kernel
theorem dX4_counts_4 : decode cX4_counts 4 = .ok (.iload_n 1, 1) := by decide +kernel
theorem dX4_counts_5 : decode cX4_counts 5 = .ok (.iaload, 1) := by decide +kernel
theorem dX4_counts_6 : decode cX4_counts 6 = .ok (.aload_n 0, 1) := by decide +kernel
theorem dX4_counts_7 : decode cX4_counts 7 = .ok (.getfield 28, 3) := by decide +kernel
theorem dX4_counts_10 : decode cX4_counts 10 = .ok (.if_icmp .gt 7, 3) := by decide +kernel
theorem dX4_counts_13 : decode cX4_counts 13 = .ok (.iconst 1, 1) := by decide +kernel
theorem dX4_counts_14 : decode cX4_counts 14 = .ok (.goto 4, 3) := by decide +kernel
theorem dX4_counts_17 : decode cX4_counts 17 = .ok (.iconst 0, 1) := by decide +kernel
theorem dX4_counts_18 : decode cX4_counts 18 = .ok (.ireturn, 1) := by decide +kernel
theorem dX4_bright_0 : decode cX4_bright 0 = .ok (.iconst 0, 1) := by decide +kernel
theorem dX4_bright_1 : decode cX4_bright 1 = .ok (.istore_n 1, 1) := by decide +kernel
theorem dX4_bright_2 : decode cX4_bright 2 = .ok (.iconst 0, 1) := by decide +kernel
theorem dX4_bright_3 : decode cX4_bright 3 = .ok (.istore_n 2, 1) := by decide +kernel
theorem dX4_bright_4 : decode cX4_bright 4 = .ok (.iload_n 2, 1) := by decide +kernel
theorem dX4_bright_5 : decode cX4_bright 5 = .ok (.aload_n 0, 1) := by decide +kernel
theorem dX4_bright_6 : decode cX4_bright 6 = .ok (.getfield 24, 3) := by decide +kernel
theorem dX4_bright_9 : decode cX4_bright 9 = .ok (.if_icmp .ge 20, 3) := by decide +kernel
theorem dX4_bright_12 : decode cX4_bright 12 = .ok (.aload_n 0, 1) := by decide +kernel
theorem dX4_bright_13 : decode cX4_bright 13 = .ok (.iload_n 2, 1) := by decide +kernel
theorem dX4_bright_14 : decode cX4_bright 14 = .ok (.invokevirtual 40, 3) := by decide +kernel
theorem dX4_bright_17 : decode cX4_bright 17 = .ok (.ifCond .eq 6, 3) := by decide +kernel
theorem dX4_bright_20 : decode cX4_bright 20 = .ok (.iinc 1 1, 3) := by decide +kernel
theorem dX4_bright_23 : decode cX4_bright 23 = .ok (.iinc 2 1, 3) := by decide +kernel
theorem dX4_bright_26 : decode cX4_bright 26 = .ok (.goto (-22), 3) := by decide +kernel
theorem dX4_bright_29 : decode cX4_bright 29 = .ok (.iload_n 1, 1) := by decide +kernel
theorem dX4_bright_30 : decode cX4_bright 30 = .ok (.ireturn, 1) := by decide +kernel
theorem dX5_init_0 : decode cX5_init 0 = .ok (.aload_n 0, 1) := by decide +kernel
theorem dX5_init_1 : decode cX5_init 1 = .ok (.invokespecial 1, 3) := by decide +kernel
theorem dX5_init_4 : decode cX5_init 4 = .ok (.aload_n 0, 1) := by decide +kernel
theorem dX5_init_5 : decode cX5_init 5 = .ok (.new 7, 3) := by decide +kernel
theorem dX5_init_8 : decode cX5_init 8 = .ok (.dup, 1) := by decide +kernel
theorem dX5_init_9 : decode cX5_init 9 = .ok (.invokespecial 9, 3) := by decide +kernel
theorem dX5_init_12 : decode cX5_init 12 = .ok (.putfield 10, 3) := by decide +kernel
theorem dX5_init_15 : decode cX5_init 15 = .ok (.aload_n 0, 1) := by decide +kernel
theorem dX5_init_16 : decode cX5_init 16 = .ok (.new 16, 3) := by decide +kernel
theorem dX5_init_19 : decode cX5_init 19 = .ok (.dup, 1) := by decide +kernel
theorem dX5_init_20 : decode cX5_init 20 = .ok (.invokespecial 18, 3) := by decide +kernel
theorem dX5_init_23 : decode cX5_init 23 = .ok (.putfield 19, 3) := by decide +kernel
theorem dX5_init_26 : decode cX5_init 26 = .ok (.aload_n 0, 1) := by decide +kernel
theorem dX5_init_27 : decode cX5_init 27 = .ok (.new 23, 3) := by decide +kernel
theorem dX5_init_30 : decode cX5_init 30 = .ok (.dup, 1) := by decide +kernel
theorem dX5_init_31 : decode cX5_init 31 = .ok (.aload_n 0, 1) := by decide +kernel
theorem dX5_init_32 : decode cX5_init 32 = .ok (.getfield 10, 3) := by decide +kernel
theorem dX5_init_35 : decode cX5_init 35 = .ok (.aload_n 0, 1) := by decide +kernel
theorem dX5_init_36 : decode cX5_init 36 = .ok (.getfield 19, 3) := by decide +kernel
theorem dX5_init_39 : decode cX5_init 39 = .ok (.invokespecial 25, 3) := by decide +kernel
theorem dX5_init_42 : decode cX5_init 42 = .ok (.putfield 28, 3) := by decide +kernel
theorem dX5_init_45 : decode cX5_init 45 = .ok (.aload_n 0, 1) := by decide +kernel
theorem dX5_init_46 : decode cX5_init 46 = .ok (.new 32, 3) := by decide +kernel
theorem dX5_init_49 : decode cX5_init 49 = .ok (.dup, 1) := by decide +kernel
theorem dX5_init_50 : decode cX5_init 50 = .ok (.aload_n 0, 1) := by decide +kernel
theorem dX5_init_51 : decode cX5_init 51 = .ok (.getfield 10, 3) := by decide +kernel
theorem dX5_init_54 : decode cX5_init 54 = .ok (.aload_n 0, 1) := by decide +kernel
theorem dX5_init_55 : decode cX5_init 55 = .ok (.getfield 19, 3) := by decide +kernel
theorem dX5_init_58 : decode cX5_init 58 = .ok (.aload_n 0, 1) := by decide +kernel
theorem dX5_init_59 : decode cX5_init 59 = .ok (.getfield 28, 3) := by decide +kernel
theorem dX5_init_62 : decode cX5_init 62 = .ok (.invokespecial 34, 3) := by decide +kernel
theorem dX5_init_65 : decode cX5_init 65 = .ok (.putfield 37, 3) := by decide +kernel
theorem dX5_init_68 : decode cX5_init 68 = .ok (.aload_n 0, 1) := by decide +kernel
theorem dX5_init_69 : decode cX5_init 69 = .ok (.bipush 41, 2) := by decide +kernel
theorem dX5_init_71 : decode cX5_init 71 = .ok (.newarray .int, 2) := by decide +kernel
theorem dX5_init_73 : decode cX5_init 73 = .ok (.putfield 41, 3) := by decide +kernel
theorem dX5_init_76 : decode cX5_init 76 = .ok (.return_, 1) := by decide +kernel
theorem dX5_star_0 : decode cX5_star 0 = .ok (.iload_n 1, 1) := by decide +kernel
theorem dX5_star_1 : decode cX5_star 1 = .ok (.iload_n 2, 1) := by decide +kernel
theorem dX5_star_2 : decode cX5_star 2 = .ok (.invokestatic 45, 3) := by decide +kernel
theorem dX5_star_5 : decode cX5_star 5 = .ok (.ifCond .ne 6, 3) := by decide +kernel
theorem dX5_star_8 : decode cX5_star 8 = .ok (.bipush (-2), 2) := by decide +kernel
theorem dX5_star_10 : decode cX5_star 10 = .ok (.ireturn, 1) := by decide +kernel
theorem dX5_star_11 : decode cX5_star 11 = .ok (.iload_n 3, 1) := by decide +kernel
theorem dX5_star_12 : decode cX5_star 12 = .ok (.bipush (-50), 2) := by decide +kernel
theorem dX5_star_14 : decode cX5_star 14 = .ok (.bipush 50, 2) := by decide +kernel
theorem dX5_star_16 : decode cX5_star 16 = .ok (.invokestatic 49, 3) := by decide +kernel
theorem dX5_star_19 : decode cX5_star 19 = .ok (.ifCond .ne 6, 3) := by decide +kernel
theorem dX5_star_22 : decode cX5_star 22 = .ok (.bipush (-2), 2) := by decide +kernel
theorem dX5_star_24 : decode cX5_star 24 = .ok (.ireturn, 1) := by decide +kernel
theorem dX5_star_25 : decode cX5_star 25 = .ok (.iload 4, 2) := by decide +kernel
theorem dX5_star_27 : decode cX5_star 27 = .ok (.iconst 0, 1) := by decide +kernel
theorem dX5_star_28 : decode cX5_star 28 = .ok (.bipush 6, 2) := by decide +kernel
theorem dX5_star_30 : decode cX5_star 30 = .ok (.invokestatic 49, 3) := by decide +kernel
theorem dX5_star_33 : decode cX5_star 33 = .ok (.ifCond .ne 6, 3) := by decide +kernel
theorem dX5_star_36 : decode cX5_star 36 = .ok (.bipush (-2), 2) := by decide +kernel
theorem dX5_star_38 : decode cX5_star 38 = .ok (.ireturn, 1) := by decide +kernel
theorem dX5_star_39 : decode cX5_star 39 = .ok (.aload_n 0, 1) := by decide +kernel
theorem dX5_star_40 : decode cX5_star 40 = .ok (.getfield 10, 3) := by decide +kernel
theorem dX5_star_43 : decode cX5_star 43 = .ok (.getfield 53, 3) := by decide +kernel
theorem dX5_star_46 : decode cX5_star 46 = .ok (.bipush 8, 2) := by decide +kernel
theorem dX5_star_48 : decode cX5_star 48 = .ok (.if_icmp .lt 6, 3) := by decide +kernel
theorem dX5_star_51 : decode cX5_star 51 = .ok (.bipush (-4), 2) := by decide +kernel
theorem dX5_star_53 : decode cX5_star 53 = .ok (.ireturn, 1) := by decide +kernel
theorem dX5_star_54 : decode cX5_star 54 = .ok (.aload_n 0, 1) := by decide +kernel
theorem dX5_star_55 : decode cX5_star 55 = .ok (.getfield 10, 3) := by decide +kernel
theorem dX5_star_58 : decode cX5_star 58 = .ok (.iload_n 1, 1) := by decide +kernel
theorem dX5_star_59 : decode cX5_star 59 = .ok (.iload_n 2, 1) := by decide +kernel
theorem dX5_star_60 : decode cX5_star 60 = .ok (.iload_n 3, 1) := by decide +kernel
theorem dX5_star_61 : decode cX5_star 61 = .ok (.iload 4, 2) := by decide +kernel
theorem dX5_star_63 : decode cX5_star 63 = .ok (.invokevirtual 57, 3) := by decide +kernel
theorem dX5_star_66 : decode cX5_star 66 = .ok (.ireturn, 1) := by decide +kernel
theorem dX5_sky_0 : decode cX5_sky 0 = .ok (.aload_n 0, 1) := by decide +kernel
theorem dX5_sky_1 : decode cX5_sky 1 = .ok (.getfield 10, 3) := by decide +kernel
theorem dX5_sky_4 : decode cX5_sky 4 = .ok (.iload_n 1, 1) := by decide +kernel
theorem dX5_sky_5 : decode cX5_sky 5 = .ok (.invokevirtual 61, 3) := by decide +kernel
theorem dX5_sky_8 : decode cX5_sky 8 = .ok (.ifCond .ne 5, 3) := by decide +kernel
theorem dX5_sky_11 : decode cX5_sky 11 = .ok (.iconst (-1), 1) := by decide +kernel
theorem dX5_sky_12 : decode cX5_sky 12 = .ok (.ireturn, 1) := by decide +kernel
theorem dX5_sky_13 : decode cX5_sky 13 = .ok (.iload_n 2, 1) := by decide +kernel
theorem dX5_sky_14 : decode cX5_sky 14 = .ok (.invokestatic 65, 3) := by decide +kernel
theorem dX5_sky_17 : decode cX5_sky 17 = .ok (.ifCond .ne 6, 3) := by decide +kernel
theorem dX5_sky_20 : decode cX5_sky 20 = .ok (.bipush (-2), 2) := by decide +kernel
theorem dX5_sky_22 : decode cX5_sky 22 = .ok (.ireturn, 1) := by decide +kernel
theorem dX5_sky_23 : decode cX5_sky 23 = .ok (.aload_n 0, 1) := by decide +kernel
theorem dX5_sky_24 : decode cX5_sky 24 = .ok (.getfield 10, 3) := by decide +kernel
theorem dX5_sky_27 : decode cX5_sky 27 = .ok (.iload_n 1, 1) := by decide +kernel
theorem dX5_sky_28 : decode cX5_sky 28 = .ok (.iload_n 2, 1) := by decide +kernel
theorem dX5_sky_29 : decode cX5_sky 29 = .ok (.invokevirtual 68, 3) := by decide +kernel
theorem dX5_sky_32 : decode cX5_sky 32 = .ok (.ireturn, 1) := by decide +kernel
theorem dX5_about_0 : decode cX5_about 0 = .ok (.aload_n 0, 1) := by decide +kernel
theorem dX5_about_1 : decode cX5_about 1 = .ok (.getfield 10, 3) := by decide +kernel
theorem dX5_about_4 : decode cX5_about 4 = .ok (.iload_n 1, 1) := by decide +kernel
theorem dX5_about_5 : decode cX5_about 5 = .ok (.invokevirtual 61, 3) := by decide +kernel
theorem dX5_about_8 : decode cX5_about 8 = .ok (.ifCond .ne 5, 3) := by decide +kernel
theorem dX5_about_11 : decode cX5_about 11 = .ok (.iconst (-1), 1) := by decide +kernel
theorem dX5_about_12 : decode cX5_about 12 = .ok (.ireturn, 1) := by decide +kernel
theorem dX5_about_13 : decode cX5_about 13 = .ok (.iload_n 2, 1) := by decide +kernel
theorem dX5_about_14 : decode cX5_about 14 = .ok (.tableswitch 74 0 3 #[30, 40, 50, 60], 30) := by decide +kernel
theorem dX5_about_44 : decode cX5_about 44 = .ok (.aload_n 0, 1) := by decide +kernel
theorem dX5_about_45 : decode cX5_about 45 = .ok (.getfield 10, 3) := by decide +kernel
theorem dX5_about_48 : decode cX5_about 48 = .ok (.getfield 72, 3) := by decide +kernel
theorem dX5_about_51 : decode cX5_about 51 = .ok (.iload_n 1, 1) := by decide +kernel
theorem dX5_about_52 : decode cX5_about 52 = .ok (.iaload, 1) := by decide +kernel
theorem dX5_about_53 : decode cX5_about 53 = .ok (.ireturn, 1) := by decide +kernel
theorem dX5_about_54 : decode cX5_about 54 = .ok (.aload_n 0, 1) := by decide +kernel
theorem dX5_about_55 : decode cX5_about 55 = .ok (.getfield 10, 3) := by decide +kernel
theorem dX5_about_58 : decode cX5_about 58 = .ok (.getfield 75, 3) := by decide +kernel
theorem dX5_about_61 : decode cX5_about 61 = .ok (.iload_n 1, 1) := by decide +kernel
theorem dX5_about_62 : decode cX5_about 62 = .ok (.iaload, 1) := by decide +kernel
theorem dX5_about_63 : decode cX5_about 63 = .ok (.ireturn, 1) := by decide +kernel
theorem dX5_about_64 : decode cX5_about 64 = .ok (.aload_n 0, 1) := by decide +kernel
theorem dX5_about_65 : decode cX5_about 65 = .ok (.getfield 10, 3) := by decide +kernel
theorem dX5_about_68 : decode cX5_about 68 = .ok (.getfield 78, 3) := by decide +kernel
theorem dX5_about_71 : decode cX5_about 71 = .ok (.iload_n 1, 1) := by decide +kernel
theorem dX5_about_72 : decode cX5_about 72 = .ok (.iaload, 1) := by decide +kernel
theorem dX5_about_73 : decode cX5_about 73 = .ok (.ireturn, 1) := by decide +kernel
theorem dX5_about_74 : decode cX5_about 74 = .ok (.aload_n 0, 1) := by decide +kernel
theorem dX5_about_75 : decode cX5_about 75 = .ok (.getfield 10, 3) := by decide +kernel
theorem dX5_about_78 : decode cX5_about 78 = .ok (.getfield 81, 3) := by decide +kernel
theorem dX5_about_81 : decode cX5_about 81 = .ok (.iload_n 1, 1) := by decide +kernel
theorem dX5_about_82 : decode cX5_about 82 = .ok (.iaload, 1) := by decide +kernel
theorem dX5_about_83 : decode cX5_about 83 = .ok (.sipush 5400, 3) := by decide +kernel
theorem dX5_about_86 : decode cX5_about 86 = .ok (.iadd, 1) := by decide +kernel
theorem dX5_about_87 : decode cX5_about 87 = .ok (.ireturn, 1) := by decide +kernel
theorem dX5_about_88 : decode cX5_about 88 = .ok (.bipush (-2), 2) := by decide +kernel
theorem dX5_about_90 : decode cX5_about 90 = .ok (.ireturn, 1) := by decide +kernel
theorem dX5_limit_0 : decode cX5_limit 0 = .ok (.iload_n 1, 1) := by decide +kernel
theorem dX5_limit_1 : decode cX5_limit 1 = .ok (.iconst 0, 1) := by decide +kernel
theorem dX5_limit_2 : decode cX5_limit 2 = .ok (.bipush 6, 2) := by decide +kernel
theorem dX5_limit_4 : decode cX5_limit 4 = .ok (.invokestatic 49, 3) := by decide +kernel
theorem dX5_limit_7 : decode cX5_limit 7 = .ok (.ifCond .ne 6, 3) := by decide +kernel
theorem dX5_limit_10 : decode cX5_limit 10 = .ok (.bipush (-2), 2) := by decide +kernel
theorem dX5_limit_12 : decode cX5_limit 12 = .ok (.ireturn, 1) := by decide +kernel
theorem dX5_limit_13 : decode cX5_limit 13 = .ok (.aload_n 0, 1) := by decide +kernel
theorem dX5_limit_14 : decode cX5_limit 14 = .ok (.getfield 10, 3) := by decide +kernel
theorem dX5_limit_17 : decode cX5_limit 17 = .ok (.getfield 84, 3) := by decide +kernel
theorem dX5_limit_20 : decode cX5_limit 20 = .ok (.istore_n 2, 1) := by decide +kernel
theorem dX5_limit_21 : decode cX5_limit 21 = .ok (.aload_n 0, 1) := by decide +kernel
theorem dX5_limit_22 : decode cX5_limit 22 = .ok (.getfield 10, 3) := by decide +kernel
theorem dX5_limit_25 : decode cX5_limit 25 = .ok (.iload_n 1, 1) := by decide +kernel
theorem dX5_limit_26 : decode cX5_limit 26 = .ok (.putfield 84, 3) := by decide +kernel
theorem dX5_limit_29 : decode cX5_limit 29 = .ok (.iload_n 2, 1) := by decide +kernel
theorem dX5_limit_30 : decode cX5_limit 30 = .ok (.ireturn, 1) := by decide +kernel
theorem dX5_way_0 : decode cX5_way 0 = .ok (.iload_n 1, 1) := by decide +kernel
theorem dX5_way_1 : decode cX5_way 1 = .ok (.invokestatic 87, 3) := by decide +kernel
theorem dX5_way_4 : decode cX5_way 4 = .ok (.ifCond .eq 10, 3) := by decide +kernel
theorem dX5_way_7 : decode cX5_way 7 = .ok (.iload_n 2, 1) := by decide +kernel
theorem dX5_way_8 : decode cX5_way 8 = .ok (.invokestatic 87, 3) := by decide +kernel
theorem dX5_way_11 : decode cX5_way 11 = .ok (.ifCond .ne 6, 3) := by decide +kernel
theorem dX5_way_14 : decode cX5_way 14 = .ok (.bipush (-2), 2) := by decide +kernel
theorem dX5_way_16 : decode cX5_way 16 = .ok (.ireturn, 1) := by decide +kernel
theorem dX5_way_17 : decode cX5_way 17 = .ok (.iload_n 1, 1) := by decide +kernel
theorem dX5_way_18 : decode cX5_way 18 = .ok (.iload_n 2, 1) := by decide +kernel
theorem dX5_way_19 : decode cX5_way 19 = .ok (.invokestatic 90, 3) := by decide +kernel
theorem dX5_way_22 : decode cX5_way 22 = .ok (.sipush 10800, 3) := by decide +kernel
theorem dX5_way_25 : decode cX5_way 25 = .ok (.iadd, 1) := by decide +kernel
theorem dX5_way_26 : decode cX5_way 26 = .ok (.ireturn, 1) := by decide +kernel
theorem dX5_list_0 : decode cX5_list 0 = .ok (.aload_n 0, 1) := by decide +kernel
theorem dX5_list_1 : decode cX5_list 1 = .ok (.getfield 19, 3) := by decide +kernel
theorem dX5_list_4 : decode cX5_list 4 = .ok (.getfield 93, 3) := by decide +kernel
theorem dX5_list_7 : decode cX5_list 7 = .ok (.bipush 6, 2) := by decide +kernel
theorem dX5_list_9 : decode cX5_list 9 = .ok (.if_icmp .lt 6, 3) := by decide +kernel
theorem dX5_list_12 : decode cX5_list 12 = .ok (.bipush (-4), 2) := by decide +kernel
theorem dX5_list_14 : decode cX5_list 14 = .ok (.ireturn, 1) := by decide +kernel
theorem dX5_list_15 : decode cX5_list 15 = .ok (.aload_n 0, 1) := by decide +kernel
theorem dX5_list_16 : decode cX5_list 16 = .ok (.getfield 19, 3) := by decide +kernel
theorem dX5_list_19 : decode cX5_list 19 = .ok (.invokevirtual 94, 3) := by decide +kernel
theorem dX5_list_22 : decode cX5_list 22 = .ok (.ireturn, 1) := by decide +kernel
theorem dX5_line_0 : decode cX5_line 0 = .ok (.aload_n 0, 1) := by decide +kernel
theorem dX5_line_1 : decode cX5_line 1 = .ok (.getfield 19, 3) := by decide +kernel
theorem dX5_line_4 : decode cX5_line 4 = .ok (.iload_n 1, 1) := by decide +kernel
theorem dX5_line_5 : decode cX5_line 5 = .ok (.invokevirtual 98, 3) := by decide +kernel
theorem dX5_line_8 : decode cX5_line 8 = .ok (.ifCond .ne 5, 3) := by decide +kernel
theorem dX5_line_11 : decode cX5_line 11 = .ok (.iconst (-1), 1) := by decide +kernel
theorem dX5_line_12 : decode cX5_line 12 = .ok (.ireturn, 1) := by decide +kernel
theorem dX5_line_13 : decode cX5_line 13 = .ok (.iload_n 2, 1) := by decide +kernel
theorem dX5_line_14 : decode cX5_line 14 = .ok (.iload_n 3, 1) := by decide +kernel
theorem dX5_line_15 : decode cX5_line 15 = .ok (.invokestatic 45, 3) := by decide +kernel
theorem dX5_line_18 : decode cX5_line 18 = .ok (.ifCond .ne 6, 3) := by decide +kernel
theorem dX5_line_21 : decode cX5_line 21 = .ok (.bipush (-2), 2) := by decide +kernel
theorem dX5_line_23 : decode cX5_line 23 = .ok (.ireturn, 1) := by decide +kernel
theorem dX5_line_24 : decode cX5_line 24 = .ok (.aload_n 0, 1) := by decide +kernel
theorem dX5_line_25 : decode cX5_line 25 = .ok (.getfield 19, 3) := by decide +kernel
theorem dX5_line_28 : decode cX5_line 28 = .ok (.getfield 99, 3) := by decide +kernel
theorem dX5_line_31 : decode cX5_line 31 = .ok (.iload_n 1, 1) := by decide +kernel
theorem dX5_line_32 : decode cX5_line 32 = .ok (.iaload, 1) := by decide +kernel
theorem dX5_line_33 : decode cX5_line 33 = .ok (.bipush 8, 2) := by decide +kernel
theorem dX5_line_35 : decode cX5_line 35 = .ok (.if_icmp .lt 6, 3) := by decide +kernel
theorem dX5_line_38 : decode cX5_line 38 = .ok (.bipush (-4), 2) := by decide +kernel
theorem dX5_line_40 : decode cX5_line 40 = .ok (.ireturn, 1) := by decide +kernel
theorem dX5_line_41 : decode cX5_line 41 = .ok (.aload_n 0, 1) := by decide +kernel
theorem dX5_line_42 : decode cX5_line 42 = .ok (.getfield 19, 3) := by decide +kernel
theorem dX5_line_45 : decode cX5_line 45 = .ok (.iload_n 1, 1) := by decide +kernel
theorem dX5_line_46 : decode cX5_line 46 = .ok (.iload_n 2, 1) := by decide +kernel
theorem dX5_line_47 : decode cX5_line 47 = .ok (.iload_n 3, 1) := by decide +kernel
theorem dX5_line_48 : decode cX5_line 48 = .ok (.invokevirtual 102, 3) := by decide +kernel
theorem dX5_line_51 : decode cX5_line 51 = .ok (.ireturn, 1) := by decide +kernel
theorem dX5_written_0 : decode cX5_written 0 = .ok (.aload_n 0, 1) := by decide +kernel
theorem dX5_written_1 : decode cX5_written 1 = .ok (.getfield 19, 3) := by decide +kernel
theorem dX5_written_4 : decode cX5_written 4 = .ok (.iload_n 1, 1) := by decide +kernel
theorem dX5_written_5 : decode cX5_written 5 = .ok (.iload_n 2, 1) := by decide +kernel
theorem dX5_written_6 : decode cX5_written 6 = .ok (.invokevirtual 105, 3) := by decide +kernel
theorem dX5_written_9 : decode cX5_written 9 = .ok (.ifCond .ne 5, 3) := by decide +kernel
theorem dX5_written_12 : decode cX5_written 12 = .ok (.iconst (-1), 1) := by decide +kernel
theorem dX5_written_13 : decode cX5_written 13 = .ok (.ireturn, 1) := by decide +kernel
theorem dX5_written_14 : decode cX5_written 14 = .ok (.iload_n 3, 1) := by decide +kernel
theorem dX5_written_15 : decode cX5_written 15 = .ok (.lookupswitch 49 #[(0, 25), (1, 35)], 25) := by decide +kernel
theorem dX5_written_40 : decode cX5_written 40 = .ok (.aload_n 0, 1) := by decide +kernel
theorem dX5_written_41 : decode cX5_written 41 = .ok (.getfield 19, 3) := by decide +kernel
theorem dX5_written_44 : decode cX5_written 44 = .ok (.iload_n 1, 1) := by decide +kernel
theorem dX5_written_45 : decode cX5_written 45 = .ok (.iload_n 2, 1) := by decide +kernel
theorem dX5_written_46 : decode cX5_written 46 = .ok (.invokevirtual 108, 3) := by decide +kernel
theorem dX5_written_49 : decode cX5_written 49 = .ok (.ireturn, 1) := by decide +kernel
theorem dX5_written_50 : decode cX5_written 50 = .ok (.aload_n 0, 1) := by decide +kernel
theorem dX5_written_51 : decode cX5_written 51 = .ok (.getfield 19, 3) := by decide +kernel
theorem dX5_written_54 : decode cX5_written 54 = .ok (.iload_n 1, 1) := by decide +kernel
theorem dX5_written_55 : decode cX5_written 55 = .ok (.iload_n 2, 1) := by decide +kernel
theorem dX5_written_56 : decode cX5_written 56 = .ok (.invokevirtual 111, 3) := by decide +kernel
theorem dX5_written_59 : decode cX5_written 59 = .ok (.sipush 5400, 3) := by decide +kernel
theorem dX5_written_62 : decode cX5_written 62 = .ok (.iadd, 1) := by decide +kernel
theorem dX5_written_63 : decode cX5_written 63 = .ok (.ireturn, 1) := by decide +kernel
theorem dX5_written_64 : decode cX5_written 64 = .ok (.bipush (-2), 2) := by decide +kernel
theorem dX5_written_66 : decode cX5_written 66 = .ok (.ireturn, 1) := by decide +kernel
theorem dX5_mend_0 : decode cX5_mend 0 = .ok (.aload_n 0, 1) := by decide +kernel
theorem dX5_mend_1 : decode cX5_mend 1 = .ok (.getfield 19, 3) := by decide +kernel
theorem dX5_mend_4 : decode cX5_mend 4 = .ok (.iload_n 1, 1) := by decide +kernel
theorem dX5_mend_5 : decode cX5_mend 5 = .ok (.iload_n 2, 1) := by decide +kernel
theorem dX5_mend_6 : decode cX5_mend 6 = .ok (.invokevirtual 105, 3) := by decide +kernel
theorem dX5_mend_9 : decode cX5_mend 9 = .ok (.ifCond .ne 5, 3) := by decide +kernel
theorem dX5_mend_12 : decode cX5_mend 12 = .ok (.iconst (-1), 1) := by decide +kernel
theorem dX5_mend_13 : decode cX5_mend 13 = .ok (.ireturn, 1) := by decide +kernel
theorem dX5_mend_14 : decode cX5_mend 14 = .ok (.iload_n 3, 1) := by decide +kernel
theorem dX5_mend_15 : decode cX5_mend 15 = .ok (.iload 4, 2) := by decide +kernel
theorem dX5_mend_17 : decode cX5_mend 17 = .ok (.invokestatic 45, 3) := by decide +kernel
theorem dX5_mend_20 : decode cX5_mend 20 = .ok (.ifCond .ne 6, 3) := by decide +kernel
theorem dX5_mend_23 : decode cX5_mend 23 = .ok (.bipush (-2), 2) := by decide +kernel
theorem dX5_mend_25 : decode cX5_mend 25 = .ok (.ireturn, 1) := by decide +kernel
theorem dX5_mend_26 : decode cX5_mend 26 = .ok (.aload_n 0, 1) := by decide +kernel
theorem dX5_mend_27 : decode cX5_mend 27 = .ok (.getfield 19, 3) := by decide +kernel
theorem dX5_mend_30 : decode cX5_mend 30 = .ok (.iload_n 1, 1) := by decide +kernel
theorem dX5_mend_31 : decode cX5_mend 31 = .ok (.iload_n 2, 1) := by decide +kernel
theorem dX5_mend_32 : decode cX5_mend 32 = .ok (.invokevirtual 108, 3) := by decide +kernel
theorem dX5_mend_35 : decode cX5_mend 35 = .ok (.istore 5, 2) := by decide +kernel
theorem dX5_mend_37 : decode cX5_mend 37 = .ok (.aload_n 0, 1) := by decide +kernel
theorem dX5_mend_38 : decode cX5_mend 38 = .ok (.getfield 19, 3) := by decide +kernel
theorem dX5_mend_41 : decode cX5_mend 41 = .ok (.iload_n 1, 1) := by decide +kernel
theorem dX5_mend_42 : decode cX5_mend 42 = .ok (.iload_n 2, 1) := by decide +kernel
theorem dX5_mend_43 : decode cX5_mend 43 = .ok (.iload_n 3, 1) := by decide +kernel
theorem dX5_mend_44 : decode cX5_mend 44 = .ok (.iload 4, 2) := by decide +kernel
theorem dX5_mend_46 : decode cX5_mend 46 = .ok (.invokevirtual 114, 3) := by decide +kernel
theorem dX5_mend_49 : decode cX5_mend 49 = .ok (.iload 5, 2) := by decide +kernel
theorem dX5_mend_51 : decode cX5_mend 51 = .ok (.ireturn, 1) := by decide +kernel
theorem dX5_round_0 : decode cX5_round 0 = .ok (.aload_n 0, 1) := by decide +kernel
theorem dX5_round_1 : decode cX5_round 1 = .ok (.getfield 19, 3) := by decide +kernel
theorem dX5_round_4 : decode cX5_round 4 = .ok (.iload_n 1, 1) := by decide +kernel
theorem dX5_round_5 : decode cX5_round 5 = .ok (.invokevirtual 98, 3) := by decide +kernel
theorem dX5_round_8 : decode cX5_round 8 = .ok (.ifCond .ne 5, 3) := by decide +kernel
theorem dX5_round_11 : decode cX5_round 11 = .ok (.iconst (-1), 1) := by decide +kernel
theorem dX5_round_12 : decode cX5_round 12 = .ok (.ireturn, 1) := by decide +kernel
theorem dX5_round_13 : decode cX5_round 13 = .ok (.iload_n 2, 1) := by decide +kernel
theorem dX5_round_14 : decode cX5_round 14 = .ok (.iconst 2, 1) := by decide +kernel
theorem dX5_round_15 : decode cX5_round 15 = .ok (.sipush 1800, 3) := by decide +kernel
theorem dX5_round_18 : decode cX5_round 18 = .ok (.invokestatic 49, 3) := by decide +kernel
theorem dX5_round_21 : decode cX5_round 21 = .ok (.ifCond .ne 6, 3) := by decide +kernel
theorem dX5_round_24 : decode cX5_round 24 = .ok (.bipush (-2), 2) := by decide +kernel
theorem dX5_round_26 : decode cX5_round 26 = .ok (.ireturn, 1) := by decide +kernel
theorem dX5_round_27 : decode cX5_round 27 = .ok (.iconst 0, 1) := by decide +kernel
theorem dX5_round_28 : decode cX5_round 28 = .ok (.istore_n 3, 1) := by decide +kernel
theorem dX5_round_29 : decode cX5_round 29 = .ok (.iconst 0, 1) := by decide +kernel
theorem dX5_round_30 : decode cX5_round 30 = .ok (.istore 4, 2) := by decide +kernel
theorem dX5_round_32 : decode cX5_round 32 = .ok (.iload 4, 2) := by decide +kernel
theorem dX5_round_34 : decode cX5_round 34 = .ok (.aload_n 0, 1) := by decide +kernel
theorem dX5_round_35 : decode cX5_round 35 = .ok (.getfield 19, 3) := by decide +kernel
theorem dX5_round_38 : decode cX5_round 38 = .ok (.getfield 99, 3) := by decide +kernel
theorem dX5_round_41 : decode cX5_round 41 = .ok (.iload_n 1, 1) := by decide +kernel
theorem dX5_round_42 : decode cX5_round 42 = .ok (.iaload, 1) := by decide +kernel
theorem dX5_round_43 : decode cX5_round 43 = .ok (.if_icmp .ge 27, 3) := by decide +kernel
theorem dX5_round_46 : decode cX5_round 46 = .ok (.aload_n 0, 1) := by decide +kernel
theorem dX5_round_47 : decode cX5_round 47 = .ok (.getfield 19, 3) := by decide +kernel
theorem dX5_round_50 : decode cX5_round 50 = .ok (.iload_n 1, 1) := by decide +kernel
theorem dX5_round_51 : decode cX5_round 51 = .ok (.iload 4, 2) := by decide +kernel
theorem dX5_round_53 : decode cX5_round 53 = .ok (.invokevirtual 108, 3) := by decide +kernel
theorem dX5_round_56 : decode cX5_round 56 = .ok (.iload_n 2, 1) := by decide +kernel
theorem dX5_round_57 : decode cX5_round 57 = .ok (.irem, 1) := by decide +kernel
theorem dX5_round_58 : decode cX5_round 58 = .ok (.ifCond .ne 6, 3) := by decide +kernel
theorem dX5_round_61 : decode cX5_round 61 = .ok (.iinc 3 1, 3) := by decide +kernel
theorem dX5_round_64 : decode cX5_round 64 = .ok (.iinc 4 1, 3) := by decide +kernel
theorem dX5_round_67 : decode cX5_round 67 = .ok (.goto (-35), 3) := by decide +kernel
theorem dX5_round_70 : decode cX5_round 70 = .ok (.iload_n 3, 1) := by decide +kernel
theorem dX5_round_71 : decode cX5_round 71 = .ok (.ireturn, 1) := by decide +kernel
theorem dX5_slip_0 : decode cX5_slip 0 = .ok (.aload_n 0, 1) := by decide +kernel
theorem dX5_slip_1 : decode cX5_slip 1 = .ok (.getfield 19, 3) := by decide +kernel
theorem dX5_slip_4 : decode cX5_slip 4 = .ok (.iload_n 1, 1) := by decide +kernel
theorem dX5_slip_5 : decode cX5_slip 5 = .ok (.iload_n 2, 1) := by decide +kernel
theorem dX5_slip_6 : decode cX5_slip 6 = .ok (.invokevirtual 105, 3) := by decide +kernel
theorem dX5_slip_9 : decode cX5_slip 9 = .ok (.ifCond .eq 14, 3) := by decide +kernel
theorem dX5_slip_12 : decode cX5_slip 12 = .ok (.aload_n 0, 1) := by decide +kernel
theorem dX5_slip_13 : decode cX5_slip 13 = .ok (.getfield 10, 3) := by decide +kernel
theorem dX5_slip_16 : decode cX5_slip 16 = .ok (.iload_n 3, 1) := by decide +kernel
theorem dX5_slip_17 : decode cX5_slip 17 = .ok (.invokevirtual 61, 3) := by decide +kernel
theorem dX5_slip_20 : decode cX5_slip 20 = .ok (.ifCond .ne 5, 3) := by decide +kernel
theorem dX5_slip_23 : decode cX5_slip 23 = .ok (.iconst (-1), 1) := by decide +kernel
theorem dX5_slip_24 : decode cX5_slip 24 = .ok (.ireturn, 1) := by decide +kernel
theorem dX5_slip_25 : decode cX5_slip 25 = .ok (.iload 4, 2) := by decide +kernel
theorem dX5_slip_27 : decode cX5_slip 27 = .ok (.iload 5, 2) := by decide +kernel
theorem dX5_slip_29 : decode cX5_slip 29 = .ok (.invokestatic 118, 3) := by decide +kernel
theorem dX5_slip_32 : decode cX5_slip 32 = .ok (.ifCond .ne 6, 3) := by decide +kernel
theorem dX5_slip_35 : decode cX5_slip 35 = .ok (.bipush (-2), 2) := by decide +kernel
theorem dX5_slip_37 : decode cX5_slip 37 = .ok (.ireturn, 1) := by decide +kernel
theorem dX5_slip_38 : decode cX5_slip 38 = .ok (.aload_n 0, 1) := by decide +kernel
theorem dX5_slip_39 : decode cX5_slip 39 = .ok (.getfield 28, 3) := by decide +kernel
theorem dX5_slip_42 : decode cX5_slip 42 = .ok (.iload_n 1, 1) := by decide +kernel
theorem dX5_slip_43 : decode cX5_slip 43 = .ok (.iload_n 2, 1) := by decide +kernel
theorem dX5_slip_44 : decode cX5_slip 44 = .ok (.iload_n 3, 1) := by decide +kernel
theorem dX5_slip_45 : decode cX5_slip 45 = .ok (.iload 4, 2) := by decide +kernel
theorem dX5_slip_47 : decode cX5_slip 47 = .ok (.iload 5, 2) := by decide +kernel
theorem dX5_slip_49 : decode cX5_slip 49 = .ok (.invokevirtual 121, 3) := by decide +kernel
theorem dX5_slip_52 : decode cX5_slip 52 = .ok (.istore 6, 2) := by decide +kernel
theorem dX5_slip_54 : decode cX5_slip 54 = .ok (.iload 6, 2) := by decide +kernel
theorem dX5_slip_56 : decode cX5_slip 56 = .ok (.ldc 127, 2) := by decide +kernel
theorem dX5_slip_58 : decode cX5_slip 58 = .ok (.if_icmp .ne 8, 3) := by decide +kernel
theorem dX5_slip_61 : decode cX5_slip 61 = .ok (.bipush (-9), 2) := by decide +kernel
theorem dX5_slip_63 : decode cX5_slip 63 = .ok (.goto 8, 3) := by decide +kernel
theorem dX5_slip_66 : decode cX5_slip 66 = .ok (.iload 6, 2) := by decide +kernel
theorem dX5_slip_68 : decode cX5_slip 68 = .ok (.invokestatic 128, 3) := by decide +kernel
theorem dX5_slip_71 : decode cX5_slip 71 = .ok (.ireturn, 1) := by decide +kernel
theorem dX5_cost_0 : decode cX5_cost 0 = .ok (.aload_n 0, 1) := by decide +kernel
theorem dX5_cost_1 : decode cX5_cost 1 = .ok (.getfield 19, 3) := by decide +kernel
theorem dX5_cost_4 : decode cX5_cost 4 = .ok (.iload_n 1, 1) := by decide +kernel
theorem dX5_cost_5 : decode cX5_cost 5 = .ok (.iload_n 2, 1) := by decide +kernel
theorem dX5_cost_6 : decode cX5_cost 6 = .ok (.invokevirtual 105, 3) := by decide +kernel
theorem dX5_cost_9 : decode cX5_cost 9 = .ok (.ifCond .eq 14, 3) := by decide +kernel
theorem dX5_cost_12 : decode cX5_cost 12 = .ok (.aload_n 0, 1) := by decide +kernel
theorem dX5_cost_13 : decode cX5_cost 13 = .ok (.getfield 10, 3) := by decide +kernel
theorem dX5_cost_16 : decode cX5_cost 16 = .ok (.iload_n 3, 1) := by decide +kernel
theorem dX5_cost_17 : decode cX5_cost 17 = .ok (.invokevirtual 61, 3) := by decide +kernel
theorem dX5_cost_20 : decode cX5_cost 20 = .ok (.ifCond .ne 5, 3) := by decide +kernel
theorem dX5_cost_23 : decode cX5_cost 23 = .ok (.iconst (-1), 1) := by decide +kernel
theorem dX5_cost_24 : decode cX5_cost 24 = .ok (.ireturn, 1) := by decide +kernel
theorem dX5_cost_25 : decode cX5_cost 25 = .ok (.iload 4, 2) := by decide +kernel
theorem dX5_cost_27 : decode cX5_cost 27 = .ok (.iload 5, 2) := by decide +kernel
theorem dX5_cost_29 : decode cX5_cost 29 = .ok (.invokestatic 118, 3) := by decide +kernel
theorem dX5_cost_32 : decode cX5_cost 32 = .ok (.ifCond .ne 6, 3) := by decide +kernel
theorem dX5_cost_35 : decode cX5_cost 35 = .ok (.bipush (-2), 2) := by decide +kernel
theorem dX5_cost_37 : decode cX5_cost 37 = .ok (.ireturn, 1) := by decide +kernel
theorem dX5_cost_38 : decode cX5_cost 38 = .ok (.aload_n 0, 1) := by decide +kernel
theorem dX5_cost_39 : decode cX5_cost 39 = .ok (.getfield 28, 3) := by decide +kernel
theorem dX5_cost_42 : decode cX5_cost 42 = .ok (.iload_n 1, 1) := by decide +kernel
theorem dX5_cost_43 : decode cX5_cost 43 = .ok (.iload_n 2, 1) := by decide +kernel
theorem dX5_cost_44 : decode cX5_cost 44 = .ok (.iload_n 3, 1) := by decide +kernel
theorem dX5_cost_45 : decode cX5_cost 45 = .ok (.iload 4, 2) := by decide +kernel
theorem dX5_cost_47 : decode cX5_cost 47 = .ok (.iload 5, 2) := by decide +kernel
theorem dX5_cost_49 : decode cX5_cost 49 = .ok (.invokevirtual 121, 3) := by decide +kernel
theorem dX5_cost_52 : decode cX5_cost 52 = .ok (.istore 6, 2) := by decide +kernel
theorem dX5_cost_54 : decode cX5_cost 54 = .ok (.iload 6, 2) := by decide +kernel
theorem dX5_cost_56 : decode cX5_cost 56 = .ok (.ldc 127, 2) := by decide +kernel
theorem dX5_cost_58 : decode cX5_cost 58 = .ok (.if_icmp .ne 8, 3) := by decide +kernel
theorem dX5_cost_61 : decode cX5_cost 61 = .ok (.bipush (-9), 2) := by decide +kernel
theorem dX5_cost_63 : decode cX5_cost 63 = .ok (.goto 8, 3) := by decide +kernel
theorem dX5_cost_66 : decode cX5_cost 66 = .ok (.iload 6, 2) := by decide +kernel
theorem dX5_cost_68 : decode cX5_cost 68 = .ok (.invokestatic 132, 3) := by decide +kernel
theorem dX5_cost_71 : decode cX5_cost 71 = .ok (.ireturn, 1) := by decide +kernel
theorem dX5_best_0 : decode cX5_best 0 = .ok (.aload_n 0, 1) := by decide +kernel
theorem dX5_best_1 : decode cX5_best 1 = .ok (.getfield 19, 3) := by decide +kernel
theorem dX5_best_4 : decode cX5_best 4 = .ok (.iload_n 1, 1) := by decide +kernel
theorem dX5_best_5 : decode cX5_best 5 = .ok (.invokevirtual 98, 3) := by decide +kernel
theorem dX5_best_8 : decode cX5_best 8 = .ok (.ifCond .ne 5, 3) := by decide +kernel
theorem dX5_best_11 : decode cX5_best 11 = .ok (.iconst (-1), 1) := by decide +kernel
theorem dX5_best_12 : decode cX5_best 12 = .ok (.ireturn, 1) := by decide +kernel
theorem dX5_best_13 : decode cX5_best 13 = .ok (.iload_n 2, 1) := by decide +kernel
theorem dX5_best_14 : decode cX5_best 14 = .ok (.iload_n 3, 1) := by decide +kernel
theorem dX5_best_15 : decode cX5_best 15 = .ok (.invokestatic 118, 3) := by decide +kernel
theorem dX5_best_18 : decode cX5_best 18 = .ok (.ifCond .ne 6, 3) := by decide +kernel
theorem dX5_best_21 : decode cX5_best 21 = .ok (.bipush (-2), 2) := by decide +kernel
theorem dX5_best_23 : decode cX5_best 23 = .ok (.ireturn, 1) := by decide +kernel
theorem dX5_best_24 : decode cX5_best 24 = .ok (.aload_n 0, 1) := by decide +kernel
theorem dX5_best_25 : decode cX5_best 25 = .ok (.getfield 28, 3) := by decide +kernel
theorem dX5_best_28 : decode cX5_best 28 = .ok (.iload_n 1, 1) := by decide +kernel
theorem dX5_best_29 : decode cX5_best 29 = .ok (.iload_n 2, 1) := by decide +kernel
theorem dX5_best_30 : decode cX5_best 30 = .ok (.iload_n 3, 1) := by decide +kernel
theorem dX5_best_31 : decode cX5_best 31 = .ok (.invokevirtual 135, 3) := by decide +kernel
theorem dX5_best_34 : decode cX5_best 34 = .ok (.aload_n 0, 1) := by decide +kernel
theorem dX5_best_35 : decode cX5_best 35 = .ok (.getfield 28, 3) := by decide +kernel
theorem dX5_best_38 : decode cX5_best 38 = .ok (.getfield 139, 3) := by decide +kernel
theorem dX5_best_41 : decode cX5_best 41 = .ok (.ireturn, 1) := by decide +kernel
theorem dX5_matched_0 : decode cX5_matched 0 = .ok (.aload_n 0, 1) := by decide +kernel
theorem dX5_matched_1 : decode cX5_matched 1 = .ok (.getfield 19, 3) := by decide +kernel
theorem dX5_matched_4 : decode cX5_matched 4 = .ok (.iload_n 1, 1) := by decide +kernel
theorem dX5_matched_5 : decode cX5_matched 5 = .ok (.iload_n 2, 1) := by decide +kernel
theorem dX5_matched_6 : decode cX5_matched 6 = .ok (.invokevirtual 105, 3) := by decide +kernel
theorem dX5_matched_9 : decode cX5_matched 9 = .ok (.ifCond .ne 5, 3) := by decide +kernel
theorem dX5_matched_12 : decode cX5_matched 12 = .ok (.iconst (-1), 1) := by decide +kernel
theorem dX5_matched_13 : decode cX5_matched 13 = .ok (.ireturn, 1) := by decide +kernel
theorem dX5_matched_14 : decode cX5_matched 14 = .ok (.iload_n 3, 1) := by decide +kernel
theorem dX5_matched_15 : decode cX5_matched 15 = .ok (.iload 4, 2) := by decide +kernel
theorem dX5_matched_17 : decode cX5_matched 17 = .ok (.invokestatic 118, 3) := by decide +kernel
theorem dX5_matched_20 : decode cX5_matched 20 = .ok (.ifCond .ne 6, 3) := by decide +kernel
theorem dX5_matched_23 : decode cX5_matched 23 = .ok (.bipush (-2), 2) := by decide +kernel
theorem dX5_matched_25 : decode cX5_matched 25 = .ok (.ireturn, 1) := by decide +kernel
theorem dX5_matched_26 : decode cX5_matched 26 = .ok (.aload_n 0, 1) := by decide +kernel
theorem dX5_matched_27 : decode cX5_matched 27 = .ok (.getfield 28, 3) := by decide +kernel
theorem dX5_matched_30 : decode cX5_matched 30 = .ok (.iload_n 1, 1) := by decide +kernel
theorem dX5_matched_31 : decode cX5_matched 31 = .ok (.iload_n 3, 1) := by decide +kernel
theorem dX5_matched_32 : decode cX5_matched 32 = .ok (.iload 4, 2) := by decide +kernel
theorem dX5_matched_34 : decode cX5_matched 34 = .ok (.invokevirtual 135, 3) := by decide +kernel
theorem dX5_matched_37 : decode cX5_matched 37 = .ok (.aload_n 0, 1) := by decide +kernel
theorem dX5_matched_38 : decode cX5_matched 38 = .ok (.getfield 28, 3) := by decide +kernel
theorem dX5_matched_41 : decode cX5_matched 41 = .ok (.getfield 142, 3) := by decide +kernel
theorem dX5_matched_44 : decode cX5_matched 44 = .ok (.iload_n 2, 1) := by decide +kernel
theorem dX5_matched_45 : decode cX5_matched 45 = .ok (.iaload, 1) := by decide +kernel
theorem dX5_matched_46 : decode cX5_matched 46 = .ok (.ireturn, 1) := by decide +kernel
theorem dX5_dated_0 : decode cX5_dated 0 = .ok (.aload_n 0, 1) := by decide +kernel
theorem dX5_dated_1 : decode cX5_dated 1 = .ok (.getfield 19, 3) := by decide +kernel
theorem dX5_dated_4 : decode cX5_dated 4 = .ok (.iload_n 1, 1) := by decide +kernel
theorem dX5_dated_5 : decode cX5_dated 5 = .ok (.invokevirtual 98, 3) := by decide +kernel
theorem dX5_dated_8 : decode cX5_dated 8 = .ok (.ifCond .ne 5, 3) := by decide +kernel
theorem dX5_dated_11 : decode cX5_dated 11 = .ok (.iconst (-1), 1) := by decide +kernel
theorem dX5_dated_12 : decode cX5_dated 12 = .ok (.ireturn, 1) := by decide +kernel
theorem dX5_dated_13 : decode cX5_dated 13 = .ok (.iload_n 2, 1) := by decide +kernel
theorem dX5_dated_14 : decode cX5_dated 14 = .ok (.iload_n 3, 1) := by decide +kernel
theorem dX5_dated_15 : decode cX5_dated 15 = .ok (.iload 4, 2) := by decide +kernel
theorem dX5_dated_17 : decode cX5_dated 17 = .ok (.invokestatic 145, 3) := by decide +kernel
theorem dX5_dated_20 : decode cX5_dated 20 = .ok (.ifCond .ne 6, 3) := by decide +kernel
theorem dX5_dated_23 : decode cX5_dated 23 = .ok (.bipush (-2), 2) := by decide +kernel
theorem dX5_dated_25 : decode cX5_dated 25 = .ok (.ireturn, 1) := by decide +kernel
theorem dX5_dated_26 : decode cX5_dated 26 = .ok (.aload_n 0, 1) := by decide +kernel
theorem dX5_dated_27 : decode cX5_dated 27 = .ok (.iload_n 1, 1) := by decide +kernel
theorem dX5_dated_28 : decode cX5_dated 28 = .ok (.iload_n 2, 1) := by decide +kernel
theorem dX5_dated_29 : decode cX5_dated 29 = .ok (.iload_n 3, 1) := by decide +kernel
theorem dX5_dated_30 : decode cX5_dated 30 = .ok (.iload 4, 2) := by decide +kernel
theorem dX5_dated_32 : decode cX5_dated 32 = .ok (.invokevirtual 148, 3) := by decide +kernel
theorem dX5_dated_35 : decode cX5_dated 35 = .ok (.istore 5, 2) := by decide +kernel
theorem dX5_dated_37 : decode cX5_dated 37 = .ok (.iconst 0, 1) := by decide +kernel
theorem dX5_dated_38 : decode cX5_dated 38 = .ok (.istore 6, 2) := by decide +kernel
theorem dX5_dated_40 : decode cX5_dated 40 = .ok (.iconst 1, 1) := by decide +kernel
theorem dX5_dated_41 : decode cX5_dated 41 = .ok (.istore 7, 2) := by decide +kernel
theorem dX5_dated_43 : decode cX5_dated 43 = .ok (.iload 7, 2) := by decide +kernel
theorem dX5_dated_45 : decode cX5_dated 45 = .ok (.iload 5, 2) := by decide +kernel
theorem dX5_dated_47 : decode cX5_dated 47 = .ok (.if_icmp .ge 30, 3) := by decide +kernel
theorem dX5_dated_50 : decode cX5_dated 50 = .ok (.aload_n 0, 1) := by decide +kernel
theorem dX5_dated_51 : decode cX5_dated 51 = .ok (.getfield 41, 3) := by decide +kernel
theorem dX5_dated_54 : decode cX5_dated 54 = .ok (.iload 7, 2) := by decide +kernel
theorem dX5_dated_56 : decode cX5_dated 56 = .ok (.iaload, 1) := by decide +kernel
theorem dX5_dated_57 : decode cX5_dated 57 = .ok (.aload_n 0, 1) := by decide +kernel
theorem dX5_dated_58 : decode cX5_dated 58 = .ok (.getfield 41, 3) := by decide +kernel
theorem dX5_dated_61 : decode cX5_dated 61 = .ok (.iload 6, 2) := by decide +kernel
theorem dX5_dated_63 : decode cX5_dated 63 = .ok (.iaload, 1) := by decide +kernel
theorem dX5_dated_64 : decode cX5_dated 64 = .ok (.if_icmp .ge 7, 3) := by decide +kernel
theorem dX5_dated_67 : decode cX5_dated 67 = .ok (.iload 7, 2) := by decide +kernel
theorem dX5_dated_69 : decode cX5_dated 69 = .ok (.istore 6, 2) := by decide +kernel
theorem dX5_dated_71 : decode cX5_dated 71 = .ok (.iinc 7 1, 3) := by decide +kernel
theorem dX5_dated_74 : decode cX5_dated 74 = .ok (.goto (-31), 3) := by decide +kernel
theorem dX5_dated_77 : decode cX5_dated 77 = .ok (.iload_n 3, 1) := by decide +kernel
theorem dX5_dated_78 : decode cX5_dated 78 = .ok (.bipush 10, 2) := by decide +kernel
theorem dX5_dated_80 : decode cX5_dated 80 = .ok (.iload 6, 2) := by decide +kernel
theorem dX5_dated_82 : decode cX5_dated 82 = .ok (.imul, 1) := by decide +kernel
theorem dX5_dated_83 : decode cX5_dated 83 = .ok (.iadd, 1) := by decide +kernel
theorem dX5_dated_84 : decode cX5_dated 84 = .ok (.sipush 3000, 3) := by decide +kernel
theorem dX5_dated_87 : decode cX5_dated 87 = .ok (.iadd, 1) := by decide +kernel
theorem dX5_dated_88 : decode cX5_dated 88 = .ok (.ireturn, 1) := by decide +kernel
theorem dX5_doubt_0 : decode cX5_doubt 0 = .ok (.aload_n 0, 1) := by decide +kernel
theorem dX5_doubt_1 : decode cX5_doubt 1 = .ok (.getfield 19, 3) := by decide +kernel
theorem dX5_doubt_4 : decode cX5_doubt 4 = .ok (.iload_n 1, 1) := by decide +kernel
theorem dX5_doubt_5 : decode cX5_doubt 5 = .ok (.invokevirtual 98, 3) := by decide +kernel
theorem dX5_doubt_8 : decode cX5_doubt 8 = .ok (.ifCond .ne 5, 3) := by decide +kernel
theorem dX5_doubt_11 : decode cX5_doubt 11 = .ok (.iconst (-1), 1) := by decide +kernel
theorem dX5_doubt_12 : decode cX5_doubt 12 = .ok (.ireturn, 1) := by decide +kernel
theorem dX5_doubt_13 : decode cX5_doubt 13 = .ok (.iload_n 2, 1) := by decide +kernel
theorem dX5_doubt_14 : decode cX5_doubt 14 = .ok (.iload_n 3, 1) := by decide +kernel
theorem dX5_doubt_15 : decode cX5_doubt 15 = .ok (.iload 4, 2) := by decide +kernel
theorem dX5_doubt_17 : decode cX5_doubt 17 = .ok (.invokestatic 145, 3) := by decide +kernel
theorem dX5_doubt_20 : decode cX5_doubt 20 = .ok (.ifCond .eq 15, 3) := by decide +kernel
theorem dX5_doubt_23 : decode cX5_doubt 23 = .ok (.iload 5, 2) := by decide +kernel
theorem dX5_doubt_25 : decode cX5_doubt 25 = .ok (.iconst 0, 1) := by decide +kernel
theorem dX5_doubt_26 : decode cX5_doubt 26 = .ok (.sipush 800, 3) := by decide +kernel
theorem dX5_doubt_29 : decode cX5_doubt 29 = .ok (.invokestatic 49, 3) := by decide +kernel
theorem dX5_doubt_32 : decode cX5_doubt 32 = .ok (.ifCond .ne 6, 3) := by decide +kernel
theorem dX5_doubt_35 : decode cX5_doubt 35 = .ok (.bipush (-2), 2) := by decide +kernel
theorem dX5_doubt_37 : decode cX5_doubt 37 = .ok (.ireturn, 1) := by decide +kernel
theorem dX5_doubt_38 : decode cX5_doubt 38 = .ok (.aload_n 0, 1) := by decide +kernel
theorem dX5_doubt_39 : decode cX5_doubt 39 = .ok (.iload_n 1, 1) := by decide +kernel
theorem dX5_doubt_40 : decode cX5_doubt 40 = .ok (.iload_n 2, 1) := by decide +kernel
theorem dX5_doubt_41 : decode cX5_doubt 41 = .ok (.iload_n 3, 1) := by decide +kernel
theorem dX5_doubt_42 : decode cX5_doubt 42 = .ok (.iload 4, 2) := by decide +kernel
theorem dX5_doubt_44 : decode cX5_doubt 44 = .ok (.invokevirtual 148, 3) := by decide +kernel
theorem dX5_doubt_47 : decode cX5_doubt 47 = .ok (.istore 6, 2) := by decide +kernel
theorem dX5_doubt_49 : decode cX5_doubt 49 = .ok (.aload_n 0, 1) := by decide +kernel
theorem dX5_doubt_50 : decode cX5_doubt 50 = .ok (.getfield 41, 3) := by decide +kernel
theorem dX5_doubt_53 : decode cX5_doubt 53 = .ok (.iconst 0, 1) := by decide +kernel
theorem dX5_doubt_54 : decode cX5_doubt 54 = .ok (.iaload, 1) := by decide +kernel
theorem dX5_doubt_55 : decode cX5_doubt 55 = .ok (.istore 7, 2) := by decide +kernel
theorem dX5_doubt_57 : decode cX5_doubt 57 = .ok (.iconst 1, 1) := by decide +kernel
theorem dX5_doubt_58 : decode cX5_doubt 58 = .ok (.istore 8, 2) := by decide +kernel
theorem dX5_doubt_60 : decode cX5_doubt 60 = .ok (.iload 8, 2) := by decide +kernel
theorem dX5_doubt_62 : decode cX5_doubt 62 = .ok (.iload 6, 2) := by decide +kernel
theorem dX5_doubt_64 : decode cX5_doubt 64 = .ok (.if_icmp .ge 23, 3) := by decide +kernel
theorem dX5_doubt_67 : decode cX5_doubt 67 = .ok (.iload 7, 2) := by decide +kernel
theorem dX5_doubt_69 : decode cX5_doubt 69 = .ok (.aload_n 0, 1) := by decide +kernel
theorem dX5_doubt_70 : decode cX5_doubt 70 = .ok (.getfield 41, 3) := by decide +kernel
theorem dX5_doubt_73 : decode cX5_doubt 73 = .ok (.iload 8, 2) := by decide +kernel
theorem dX5_doubt_75 : decode cX5_doubt 75 = .ok (.iaload, 1) := by decide +kernel
theorem dX5_doubt_76 : decode cX5_doubt 76 = .ok (.invokestatic 151, 3) := by decide +kernel
theorem dX5_doubt_79 : decode cX5_doubt 79 = .ok (.istore 7, 2) := by decide +kernel
theorem dX5_doubt_81 : decode cX5_doubt 81 = .ok (.iinc 8 1, 3) := by decide +kernel
theorem dX5_doubt_84 : decode cX5_doubt 84 = .ok (.goto (-24), 3) := by decide +kernel
theorem dX5_doubt_87 : decode cX5_doubt 87 = .ok (.iconst 0, 1) := by decide +kernel
theorem dX5_doubt_88 : decode cX5_doubt 88 = .ok (.istore 8, 2) := by decide +kernel
theorem dX5_doubt_90 : decode cX5_doubt 90 = .ok (.iconst 0, 1) := by decide +kernel
theorem dX5_doubt_91 : decode cX5_doubt 91 = .ok (.istore 9, 2) := by decide +kernel
theorem dX5_doubt_93 : decode cX5_doubt 93 = .ok (.iload 9, 2) := by decide +kernel
theorem dX5_doubt_95 : decode cX5_doubt 95 = .ok (.iload 6, 2) := by decide +kernel
theorem dX5_doubt_97 : decode cX5_doubt 97 = .ok (.if_icmp .ge 27, 3) := by decide +kernel
theorem dX5_doubt_100 : decode cX5_doubt 100 = .ok (.aload_n 0, 1) := by decide +kernel
theorem dX5_doubt_101 : decode cX5_doubt 101 = .ok (.getfield 41, 3) := by decide +kernel
theorem dX5_doubt_104 : decode cX5_doubt 104 = .ok (.iload 9, 2) := by decide +kernel
theorem dX5_doubt_106 : decode cX5_doubt 106 = .ok (.iaload, 1) := by decide +kernel
theorem dX5_doubt_107 : decode cX5_doubt 107 = .ok (.iload 7, 2) := by decide +kernel
theorem dX5_doubt_109 : decode cX5_doubt 109 = .ok (.iload 5, 2) := by decide +kernel
theorem dX5_doubt_111 : decode cX5_doubt 111 = .ok (.iadd, 1) := by decide +kernel
theorem dX5_doubt_112 : decode cX5_doubt 112 = .ok (.if_icmp .gt 6, 3) := by decide +kernel
theorem dX5_doubt_115 : decode cX5_doubt 115 = .ok (.iinc 8 1, 3) := by decide +kernel
theorem dX5_doubt_118 : decode cX5_doubt 118 = .ok (.iinc 9 1, 3) := by decide +kernel
theorem dX5_doubt_121 : decode cX5_doubt 121 = .ok (.goto (-28), 3) := by decide +kernel
theorem dX5_doubt_124 : decode cX5_doubt 124 = .ok (.iload 8, 2) := by decide +kernel
theorem dX5_doubt_126 : decode cX5_doubt 126 = .ok (.ireturn, 1) := by decide +kernel
theorem dX5_shift_0 : decode cX5_shift 0 = .ok (.aload_n 0, 1) := by decide +kernel
theorem dX5_shift_1 : decode cX5_shift 1 = .ok (.getfield 19, 3) := by decide +kernel
theorem dX5_shift_4 : decode cX5_shift 4 = .ok (.iload_n 1, 1) := by decide +kernel
theorem dX5_shift_5 : decode cX5_shift 5 = .ok (.invokevirtual 98, 3) := by decide +kernel
theorem dX5_shift_8 : decode cX5_shift 8 = .ok (.ifCond .ne 5, 3) := by decide +kernel
theorem dX5_shift_11 : decode cX5_shift 11 = .ok (.iconst (-1), 1) := by decide +kernel
theorem dX5_shift_12 : decode cX5_shift 12 = .ok (.ireturn, 1) := by decide +kernel
theorem dX5_shift_13 : decode cX5_shift 13 = .ok (.iload_n 2, 1) := by decide +kernel
theorem dX5_shift_14 : decode cX5_shift 14 = .ok (.invokestatic 65, 3) := by decide +kernel
theorem dX5_shift_17 : decode cX5_shift 17 = .ok (.ifCond .ne 6, 3) := by decide +kernel
theorem dX5_shift_20 : decode cX5_shift 20 = .ok (.bipush (-2), 2) := by decide +kernel
theorem dX5_shift_22 : decode cX5_shift 22 = .ok (.ireturn, 1) := by decide +kernel
theorem dX5_shift_23 : decode cX5_shift 23 = .ok (.aload_n 0, 1) := by decide +kernel
theorem dX5_shift_24 : decode cX5_shift 24 = .ok (.getfield 28, 3) := by decide +kernel
theorem dX5_shift_27 : decode cX5_shift 27 = .ok (.iload_n 1, 1) := by decide +kernel
theorem dX5_shift_28 : decode cX5_shift 28 = .ok (.iload_n 2, 1) := by decide +kernel
theorem dX5_shift_29 : decode cX5_shift 29 = .ok (.iconst 0, 1) := by decide +kernel
theorem dX5_shift_30 : decode cX5_shift 30 = .ok (.invokevirtual 135, 3) := by decide +kernel
theorem dX5_shift_33 : decode cX5_shift 33 = .ok (.aload_n 0, 1) := by decide +kernel
theorem dX5_shift_34 : decode cX5_shift 34 = .ok (.getfield 28, 3) := by decide +kernel
theorem dX5_shift_37 : decode cX5_shift 37 = .ok (.iload_n 1, 1) := by decide +kernel
theorem dX5_shift_38 : decode cX5_shift 38 = .ok (.invokevirtual 156, 3) := by decide +kernel
theorem dX5_shift_41 : decode cX5_shift 41 = .ok (.istore_n 3, 1) := by decide +kernel
theorem dX5_shift_42 : decode cX5_shift 42 = .ok (.iload_n 3, 1) := by decide +kernel
theorem dX5_shift_43 : decode cX5_shift 43 = .ok (.ifCond .ne 6, 3) := by decide +kernel
theorem dX5_shift_46 : decode cX5_shift 46 = .ok (.bipush (-9), 2) := by decide +kernel
theorem dX5_shift_48 : decode cX5_shift 48 = .ok (.ireturn, 1) := by decide +kernel
theorem dX5_shift_49 : decode cX5_shift 49 = .ok (.aload_n 0, 1) := by decide +kernel
theorem dX5_shift_50 : decode cX5_shift 50 = .ok (.getfield 28, 3) := by decide +kernel
theorem dX5_shift_53 : decode cX5_shift 53 = .ok (.getfield 159, 3) := by decide +kernel
theorem dX5_shift_56 : decode cX5_shift 56 = .ok (.iload_n 3, 1) := by decide +kernel
theorem dX5_shift_57 : decode cX5_shift 57 = .ok (.iconst 1, 1) := by decide +kernel
theorem dX5_shift_58 : decode cX5_shift 58 = .ok (.isub, 1) := by decide +kernel
theorem dX5_shift_59 : decode cX5_shift 59 = .ok (.iconst 2, 1) := by decide +kernel
theorem dX5_shift_60 : decode cX5_shift 60 = .ok (.idiv, 1) := by decide +kernel
theorem dX5_shift_61 : decode cX5_shift 61 = .ok (.iaload, 1) := by decide +kernel
theorem dX5_shift_62 : decode cX5_shift 62 = .ok (.bipush 30, 2) := by decide +kernel
theorem dX5_shift_64 : decode cX5_shift 64 = .ok (.iadd, 1) := by decide +kernel
theorem dX5_shift_65 : decode cX5_shift 65 = .ok (.ireturn, 1) := by decide +kernel
theorem dX5_fault_0 : decode cX5_fault 0 = .ok (.aload_n 0, 1) := by decide +kernel
theorem dX5_fault_1 : decode cX5_fault 1 = .ok (.getfield 19, 3) := by decide +kernel
theorem dX5_fault_4 : decode cX5_fault 4 = .ok (.iload_n 1, 1) := by decide +kernel
theorem dX5_fault_5 : decode cX5_fault 5 = .ok (.invokevirtual 98, 3) := by decide +kernel
theorem dX5_fault_8 : decode cX5_fault 8 = .ok (.ifCond .eq 14, 3) := by decide +kernel
theorem dX5_fault_11 : decode cX5_fault 11 = .ok (.aload_n 0, 1) := by decide +kernel
theorem dX5_fault_12 : decode cX5_fault 12 = .ok (.getfield 10, 3) := by decide +kernel
theorem dX5_fault_15 : decode cX5_fault 15 = .ok (.iload_n 2, 1) := by decide +kernel
theorem dX5_fault_16 : decode cX5_fault 16 = .ok (.invokevirtual 61, 3) := by decide +kernel
theorem dX5_fault_19 : decode cX5_fault 19 = .ok (.ifCond .ne 5, 3) := by decide +kernel
theorem dX5_fault_22 : decode cX5_fault 22 = .ok (.iconst (-1), 1) := by decide +kernel
theorem dX5_fault_23 : decode cX5_fault 23 = .ok (.ireturn, 1) := by decide +kernel
theorem dX5_fault_24 : decode cX5_fault 24 = .ok (.iload_n 3, 1) := by decide +kernel
theorem dX5_fault_25 : decode cX5_fault 25 = .ok (.iload 4, 2) := by decide +kernel
theorem dX5_fault_27 : decode cX5_fault 27 = .ok (.invokestatic 118, 3) := by decide +kernel
theorem dX5_fault_30 : decode cX5_fault 30 = .ok (.ifCond .ne 6, 3) := by decide +kernel
theorem dX5_fault_33 : decode cX5_fault 33 = .ok (.bipush (-2), 2) := by decide +kernel
theorem dX5_fault_35 : decode cX5_fault 35 = .ok (.ireturn, 1) := by decide +kernel
theorem dX5_fault_36 : decode cX5_fault 36 = .ok (.aload_n 0, 1) := by decide +kernel
theorem dX5_fault_37 : decode cX5_fault 37 = .ok (.getfield 37, 3) := by decide +kernel
theorem dX5_fault_40 : decode cX5_fault 40 = .ok (.iload_n 1, 1) := by decide +kernel
theorem dX5_fault_41 : decode cX5_fault 41 = .ok (.iload_n 3, 1) := by decide +kernel
theorem dX5_fault_42 : decode cX5_fault 42 = .ok (.iload 4, 2) := by decide +kernel
theorem dX5_fault_44 : decode cX5_fault 44 = .ok (.invokevirtual 162, 3) := by decide +kernel
theorem dX5_fault_47 : decode cX5_fault 47 = .ok (.aload_n 0, 1) := by decide +kernel
theorem dX5_fault_48 : decode cX5_fault 48 = .ok (.getfield 37, 3) := by decide +kernel
theorem dX5_fault_51 : decode cX5_fault 51 = .ok (.iload_n 1, 1) := by decide +kernel
theorem dX5_fault_52 : decode cX5_fault 52 = .ok (.iload_n 2, 1) := by decide +kernel
theorem dX5_fault_53 : decode cX5_fault 53 = .ok (.invokevirtual 165, 3) := by decide +kernel
theorem dX5_fault_56 : decode cX5_fault 56 = .ok (.ireturn, 1) := by decide +kernel
theorem dX5_share_0 : decode cX5_share 0 = .ok (.aload_n 0, 1) := by decide +kernel
theorem dX5_share_1 : decode cX5_share 1 = .ok (.getfield 19, 3) := by decide +kernel
theorem dX5_share_4 : decode cX5_share 4 = .ok (.iload_n 1, 1) := by decide +kernel
theorem dX5_share_5 : decode cX5_share 5 = .ok (.invokevirtual 98, 3) := by decide +kernel
theorem dX5_share_8 : decode cX5_share 8 = .ok (.ifCond .eq 14, 3) := by decide +kernel
theorem dX5_share_11 : decode cX5_share 11 = .ok (.aload_n 0, 1) := by decide +kernel
theorem dX5_share_12 : decode cX5_share 12 = .ok (.getfield 19, 3) := by decide +kernel
theorem dX5_share_15 : decode cX5_share 15 = .ok (.iload_n 2, 1) := by decide +kernel
theorem dX5_share_16 : decode cX5_share 16 = .ok (.invokevirtual 98, 3) := by decide +kernel
theorem dX5_share_19 : decode cX5_share 19 = .ok (.ifCond .ne 5, 3) := by decide +kernel
theorem dX5_share_22 : decode cX5_share 22 = .ok (.iconst (-1), 1) := by decide +kernel
theorem dX5_share_23 : decode cX5_share 23 = .ok (.ireturn, 1) := by decide +kernel
theorem dX5_share_24 : decode cX5_share 24 = .ok (.iload_n 3, 1) := by decide +kernel
theorem dX5_share_25 : decode cX5_share 25 = .ok (.iload 4, 2) := by decide +kernel
theorem dX5_share_27 : decode cX5_share 27 = .ok (.invokestatic 118, 3) := by decide +kernel
theorem dX5_share_30 : decode cX5_share 30 = .ok (.ifCond .ne 6, 3) := by decide +kernel
theorem dX5_share_33 : decode cX5_share 33 = .ok (.bipush (-2), 2) := by decide +kernel
theorem dX5_share_35 : decode cX5_share 35 = .ok (.ireturn, 1) := by decide +kernel
theorem dX5_share_36 : decode cX5_share 36 = .ok (.aload_n 0, 1) := by decide +kernel
theorem dX5_share_37 : decode cX5_share 37 = .ok (.getfield 37, 3) := by decide +kernel
theorem dX5_share_40 : decode cX5_share 40 = .ok (.iload_n 1, 1) := by decide +kernel
theorem dX5_share_41 : decode cX5_share 41 = .ok (.iload_n 3, 1) := by decide +kernel
theorem dX5_share_42 : decode cX5_share 42 = .ok (.iload 4, 2) := by decide +kernel
theorem dX5_share_44 : decode cX5_share 44 = .ok (.invokevirtual 162, 3) := by decide +kernel
theorem dX5_share_47 : decode cX5_share 47 = .ok (.aload_n 0, 1) := by decide +kernel
theorem dX5_share_48 : decode cX5_share 48 = .ok (.getfield 37, 3) := by decide +kernel
theorem dX5_share_51 : decode cX5_share 51 = .ok (.iload_n 2, 1) := by decide +kernel
theorem dX5_share_52 : decode cX5_share 52 = .ok (.iload_n 3, 1) := by decide +kernel
theorem dX5_share_53 : decode cX5_share 53 = .ok (.iload 4, 2) := by decide +kernel
theorem dX5_share_55 : decode cX5_share 55 = .ok (.invokevirtual 162, 3) := by decide +kernel
theorem dX5_share_58 : decode cX5_share 58 = .ok (.aload_n 0, 1) := by decide +kernel
theorem dX5_share_59 : decode cX5_share 59 = .ok (.getfield 37, 3) := by decide +kernel
theorem dX5_share_62 : decode cX5_share 62 = .ok (.iload_n 1, 1) := by decide +kernel
theorem dX5_share_63 : decode cX5_share 63 = .ok (.iload_n 2, 1) := by decide +kernel
theorem dX5_share_64 : decode cX5_share 64 = .ok (.invokevirtual 168, 3) := by decide +kernel
theorem dX5_share_67 : decode cX5_share 67 = .ok (.ireturn, 1) := by decide +kernel
theorem dX5_apart_0 : decode cX5_apart 0 = .ok (.aload_n 0, 1) := by decide +kernel
theorem dX5_apart_1 : decode cX5_apart 1 = .ok (.getfield 19, 3) := by decide +kernel
theorem dX5_apart_4 : decode cX5_apart 4 = .ok (.iload_n 1, 1) := by decide +kernel
theorem dX5_apart_5 : decode cX5_apart 5 = .ok (.invokevirtual 98, 3) := by decide +kernel
theorem dX5_apart_8 : decode cX5_apart 8 = .ok (.ifCond .eq 14, 3) := by decide +kernel
theorem dX5_apart_11 : decode cX5_apart 11 = .ok (.aload_n 0, 1) := by decide +kernel
theorem dX5_apart_12 : decode cX5_apart 12 = .ok (.getfield 19, 3) := by decide +kernel
theorem dX5_apart_15 : decode cX5_apart 15 = .ok (.iload_n 2, 1) := by decide +kernel
theorem dX5_apart_16 : decode cX5_apart 16 = .ok (.invokevirtual 98, 3) := by decide +kernel
theorem dX5_apart_19 : decode cX5_apart 19 = .ok (.ifCond .ne 5, 3) := by decide +kernel
theorem dX5_apart_22 : decode cX5_apart 22 = .ok (.iconst (-1), 1) := by decide +kernel
theorem dX5_apart_23 : decode cX5_apart 23 = .ok (.ireturn, 1) := by decide +kernel
theorem dX5_apart_24 : decode cX5_apart 24 = .ok (.iload_n 3, 1) := by decide +kernel
theorem dX5_apart_25 : decode cX5_apart 25 = .ok (.iload 4, 2) := by decide +kernel
theorem dX5_apart_27 : decode cX5_apart 27 = .ok (.invokestatic 118, 3) := by decide +kernel
theorem dX5_apart_30 : decode cX5_apart 30 = .ok (.ifCond .ne 6, 3) := by decide +kernel
theorem dX5_apart_33 : decode cX5_apart 33 = .ok (.bipush (-2), 2) := by decide +kernel
theorem dX5_apart_35 : decode cX5_apart 35 = .ok (.ireturn, 1) := by decide +kernel
theorem dX5_apart_36 : decode cX5_apart 36 = .ok (.aload_n 0, 1) := by decide +kernel
theorem dX5_apart_37 : decode cX5_apart 37 = .ok (.getfield 37, 3) := by decide +kernel
theorem dX5_apart_40 : decode cX5_apart 40 = .ok (.iload_n 1, 1) := by decide +kernel
theorem dX5_apart_41 : decode cX5_apart 41 = .ok (.iload_n 3, 1) := by decide +kernel
theorem dX5_apart_42 : decode cX5_apart 42 = .ok (.iload 4, 2) := by decide +kernel
theorem dX5_apart_44 : decode cX5_apart 44 = .ok (.invokevirtual 162, 3) := by decide +kernel
theorem dX5_apart_47 : decode cX5_apart 47 = .ok (.aload_n 0, 1) := by decide +kernel
theorem dX5_apart_48 : decode cX5_apart 48 = .ok (.getfield 37, 3) := by decide +kernel
theorem dX5_apart_51 : decode cX5_apart 51 = .ok (.iload_n 2, 1) := by decide +kernel
theorem dX5_apart_52 : decode cX5_apart 52 = .ok (.iload_n 3, 1) := by decide +kernel
theorem dX5_apart_53 : decode cX5_apart 53 = .ok (.iload 4, 2) := by decide +kernel
theorem dX5_apart_55 : decode cX5_apart 55 = .ok (.invokevirtual 162, 3) := by decide +kernel
theorem dX5_apart_58 : decode cX5_apart 58 = .ok (.aload_n 0, 1) := by decide +kernel
theorem dX5_apart_59 : decode cX5_apart 59 = .ok (.getfield 37, 3) := by decide +kernel
theorem dX5_apart_62 : decode cX5_apart 62 = .ok (.iload_n 1, 1) := by decide +kernel
theorem dX5_apart_63 : decode cX5_apart 63 = .ok (.iload_n 2, 1) := by decide +kernel
theorem dX5_apart_64 : decode cX5_apart 64 = .ok (.invokevirtual 171, 3) := by decide +kernel
theorem dX5_apart_67 : decode cX5_apart 67 = .ok (.ireturn, 1) := by decide +kernel
theorem dX5_tree_0 : decode cX5_tree 0 = .ok (.iload_n 1, 1) := by decide +kernel
theorem dX5_tree_1 : decode cX5_tree 1 = .ok (.iload_n 2, 1) := by decide +kernel
theorem dX5_tree_2 : decode cX5_tree 2 = .ok (.invokestatic 118, 3) := by decide +kernel
theorem dX5_tree_5 : decode cX5_tree 5 = .ok (.ifCond .ne 6, 3) := by decide +kernel
theorem dX5_tree_8 : decode cX5_tree 8 = .ok (.bipush (-2), 2) := by decide +kernel
theorem dX5_tree_10 : decode cX5_tree 10 = .ok (.ireturn, 1) := by decide +kernel
theorem dX5_tree_11 : decode cX5_tree 11 = .ok (.aload_n 0, 1) := by decide +kernel
theorem dX5_tree_12 : decode cX5_tree 12 = .ok (.getfield 37, 3) := by decide +kernel
theorem dX5_tree_15 : decode cX5_tree 15 = .ok (.iload_n 1, 1) := by decide +kernel
theorem dX5_tree_16 : decode cX5_tree 16 = .ok (.iload_n 2, 1) := by decide +kernel
theorem dX5_tree_17 : decode cX5_tree 17 = .ok (.invokevirtual 174, 3) := by decide +kernel
theorem dX5_tree_20 : decode cX5_tree 20 = .ok (.aload_n 0, 1) := by decide +kernel
theorem dX5_tree_21 : decode cX5_tree 21 = .ok (.getfield 37, 3) := by decide +kernel
theorem dX5_tree_24 : decode cX5_tree 24 = .ok (.getfield 178, 3) := by decide +kernel
theorem dX5_tree_27 : decode cX5_tree 27 = .ok (.ireturn, 1) := by decide +kernel
theorem dX5_row_0 : decode cX5_row 0 = .ok (.iload_n 2, 1) := by decide +kernel
theorem dX5_row_1 : decode cX5_row 1 = .ok (.iload_n 3, 1) := by decide +kernel
theorem dX5_row_2 : decode cX5_row 2 = .ok (.invokestatic 118, 3) := by decide +kernel
theorem dX5_row_5 : decode cX5_row 5 = .ok (.ifCond .ne 6, 3) := by decide +kernel
theorem dX5_row_8 : decode cX5_row 8 = .ok (.bipush (-2), 2) := by decide +kernel
theorem dX5_row_10 : decode cX5_row 10 = .ok (.ireturn, 1) := by decide +kernel
theorem dX5_row_11 : decode cX5_row 11 = .ok (.aload_n 0, 1) := by decide +kernel
theorem dX5_row_12 : decode cX5_row 12 = .ok (.getfield 37, 3) := by decide +kernel
theorem dX5_row_15 : decode cX5_row 15 = .ok (.iload_n 2, 1) := by decide +kernel
theorem dX5_row_16 : decode cX5_row 16 = .ok (.iload_n 3, 1) := by decide +kernel
theorem dX5_row_17 : decode cX5_row 17 = .ok (.invokevirtual 174, 3) := by decide +kernel
theorem dX5_row_20 : decode cX5_row 20 = .ok (.iload_n 1, 1) := by decide +kernel
theorem dX5_row_21 : decode cX5_row 21 = .ok (.iconst 0, 1) := by decide +kernel
theorem dX5_row_22 : decode cX5_row 22 = .ok (.aload_n 0, 1) := by decide +kernel
theorem dX5_row_23 : decode cX5_row 23 = .ok (.getfield 37, 3) := by decide +kernel
theorem dX5_row_26 : decode cX5_row 26 = .ok (.getfield 181, 3) := by decide +kernel
theorem dX5_row_29 : decode cX5_row 29 = .ok (.iconst 1, 1) := by decide +kernel
theorem dX5_row_30 : decode cX5_row 30 = .ok (.isub, 1) := by decide +kernel
theorem dX5_row_31 : decode cX5_row 31 = .ok (.invokestatic 49, 3) := by decide +kernel
theorem dX5_row_34 : decode cX5_row 34 = .ok (.ifCond .eq 15, 3) := by decide +kernel
theorem dX5_row_37 : decode cX5_row 37 = .ok (.aload_n 0, 1) := by decide +kernel
theorem dX5_row_38 : decode cX5_row 38 = .ok (.getfield 37, 3) := by decide +kernel
theorem dX5_row_41 : decode cX5_row 41 = .ok (.getfield 184, 3) := by decide +kernel
theorem dX5_row_44 : decode cX5_row 44 = .ok (.iload_n 1, 1) := by decide +kernel
theorem dX5_row_45 : decode cX5_row 45 = .ok (.iaload, 1) := by decide +kernel
theorem dX5_row_46 : decode cX5_row 46 = .ok (.goto 5, 3) := by decide +kernel
theorem dX5_row_49 : decode cX5_row 49 = .ok (.bipush (-9), 2) := by decide +kernel
theorem dX5_row_51 : decode cX5_row 51 = .ok (.ireturn, 1) := by decide +kernel
theorem dX5_count_0 : decode cX5_count 0 = .ok (.iload_n 1, 1) := by decide +kernel
theorem dX5_count_1 : decode cX5_count 1 = .ok (.tableswitch 63 0 3 #[31, 39, 47, 55], 31) := by decide +kernel
theorem dX5_count_32 : decode cX5_count 32 = .ok (.aload_n 0, 1) := by decide +kernel
theorem dX5_count_33 : decode cX5_count 33 = .ok (.getfield 10, 3) := by decide +kernel
theorem dX5_count_36 : decode cX5_count 36 = .ok (.getfield 53, 3) := by decide +kernel
theorem dX5_count_39 : decode cX5_count 39 = .ok (.ireturn, 1) := by decide +kernel
theorem dX5_count_40 : decode cX5_count 40 = .ok (.aload_n 0, 1) := by decide +kernel
theorem dX5_count_41 : decode cX5_count 41 = .ok (.getfield 19, 3) := by decide +kernel
theorem dX5_count_44 : decode cX5_count 44 = .ok (.getfield 93, 3) := by decide +kernel
theorem dX5_count_47 : decode cX5_count 47 = .ok (.ireturn, 1) := by decide +kernel
theorem dX5_count_48 : decode cX5_count 48 = .ok (.aload_n 0, 1) := by decide +kernel
theorem dX5_count_49 : decode cX5_count 49 = .ok (.getfield 19, 3) := by decide +kernel
theorem dX5_count_52 : decode cX5_count 52 = .ok (.invokevirtual 187, 3) := by decide +kernel
theorem dX5_count_55 : decode cX5_count 55 = .ok (.ireturn, 1) := by decide +kernel
theorem dX5_count_56 : decode cX5_count 56 = .ok (.aload_n 0, 1) := by decide +kernel
theorem dX5_count_57 : decode cX5_count 57 = .ok (.getfield 10, 3) := by decide +kernel
theorem dX5_count_60 : decode cX5_count 60 = .ok (.invokevirtual 190, 3) := by decide +kernel
theorem dX5_count_63 : decode cX5_count 63 = .ok (.ireturn, 1) := by decide +kernel
theorem dX5_count_64 : decode cX5_count 64 = .ok (.bipush (-2), 2) := by decide +kernel
theorem dX5_count_66 : decode cX5_count 66 = .ok (.ireturn, 1) := by decide +kernel
theorem dX5_isWithin_0 : decode cX5_isWithin 0 = .ok (.iload_n 0, 1) := by decide +kernel
theorem dX5_isWithin_1 : decode cX5_isWithin 1 = .ok (.iload_n 1, 1) := by decide +kernel
theorem dX5_isWithin_2 : decode cX5_isWithin 2 = .ok (.if_icmp .lt 12, 3) := by decide +kernel
theorem dX5_isWithin_5 : decode cX5_isWithin 5 = .ok (.iload_n 0, 1) := by decide +kernel
theorem dX5_isWithin_6 : decode cX5_isWithin 6 = .ok (.iload_n 2, 1) := by decide +kernel
theorem dX5_isWithin_7 : decode cX5_isWithin 7 = .ok (.if_icmp .gt 7, 3) := by decide +kernel
theorem dX5_isWithin_10 : decode cX5_isWithin 10 = .ok (.iconst 1, 1) := by decide +kernel
theorem dX5_isWithin_11 : decode cX5_isWithin 11 = .ok (.goto 4, 3) := by decide +kernel
theorem dX5_isWithin_14 : decode cX5_isWithin 14 = .ok (.iconst 0, 1) := by decide +kernel
theorem dX5_isWithin_15 : decode cX5_isWithin 15 = .ok (.ireturn, 1) := by decide +kernel
theorem dX5_isLong_0 : decode cX5_isLong 0 = .ok (.iload_n 0, 1) := by decide +kernel
theorem dX5_isLong_1 : decode cX5_isLong 1 = .ok (.iconst 0, 1) := by decide +kernel
theorem dX5_isLong_2 : decode cX5_isLong 2 = .ok (.sipush 21599, 3) := by decide +kernel
theorem dX5_isLong_5 : decode cX5_isLong 5 = .ok (.invokestatic 49, 3) := by decide +kernel
theorem dX5_isLong_8 : decode cX5_isLong 8 = .ok (.ireturn, 1) := by decide +kernel
theorem dX5_isPlace_0 : decode cX5_isPlace 0 = .ok (.iload_n 0, 1) := by decide +kernel
theorem dX5_isPlace_1 : decode cX5_isPlace 1 = .ok (.invokestatic 87, 3) := by decide +kernel
theorem dX5_isPlace_4 : decode cX5_isPlace 4 = .ok (.ifCond .eq 20, 3) := by decide +kernel
theorem dX5_isPlace_7 : decode cX5_isPlace 7 = .ok (.iload_n 1, 1) := by decide +kernel
theorem dX5_isPlace_8 : decode cX5_isPlace 8 = .ok (.sipush (-5400), 3) := by decide +kernel
theorem dX5_isPlace_11 : decode cX5_isPlace 11 = .ok (.sipush 5400, 3) := by decide +kernel
theorem dX5_isPlace_14 : decode cX5_isPlace 14 = .ok (.invokestatic 49, 3) := by decide +kernel
theorem dX5_isPlace_17 : decode cX5_isPlace 17 = .ok (.ifCond .eq 7, 3) := by decide +kernel
theorem dX5_isPlace_20 : decode cX5_isPlace 20 = .ok (.iconst 1, 1) := by decide +kernel
theorem dX5_isPlace_21 : decode cX5_isPlace 21 = .ok (.goto 4, 3) := by decide +kernel
theorem dX5_isPlace_24 : decode cX5_isPlace 24 = .ok (.iconst 0, 1) := by decide +kernel
theorem dX5_isPlace_25 : decode cX5_isPlace 25 = .ok (.ireturn, 1) := by decide +kernel
theorem dX5_isYear_0 : decode cX5_isYear 0 = .ok (.iload_n 0, 1) := by decide +kernel
theorem dX5_isYear_1 : decode cX5_isYear 1 = .ok (.sipush (-3000), 3) := by decide +kernel
theorem dX5_isYear_4 : decode cX5_isYear 4 = .ok (.sipush 3000, 3) := by decide +kernel
theorem dX5_isYear_7 : decode cX5_isYear 7 = .ok (.invokestatic 49, 3) := by decide +kernel
theorem dX5_isYear_10 : decode cX5_isYear 10 = .ok (.ireturn, 1) := by decide +kernel
theorem dX5_isShift_0 : decode cX5_isShift 0 = .ok (.iload_n 0, 1) := by decide +kernel
theorem dX5_isShift_1 : decode cX5_isShift 1 = .ok (.sipush (-600), 3) := by decide +kernel
theorem dX5_isShift_4 : decode cX5_isShift 4 = .ok (.sipush 600, 3) := by decide +kernel
theorem dX5_isShift_7 : decode cX5_isShift 7 = .ok (.invokestatic 49, 3) := by decide +kernel
theorem dX5_isShift_10 : decode cX5_isShift 10 = .ok (.ireturn, 1) := by decide +kernel
theorem dX5_isMoment_0 : decode cX5_isMoment 0 = .ok (.iload_n 0, 1) := by decide +kernel
theorem dX5_isMoment_1 : decode cX5_isMoment 1 = .ok (.invokestatic 65, 3) := by decide +kernel
theorem dX5_isMoment_4 : decode cX5_isMoment 4 = .ok (.ifCond .eq 14, 3) := by decide +kernel
theorem dX5_isMoment_7 : decode cX5_isMoment 7 = .ok (.iload_n 1, 1) := by decide +kernel
theorem dX5_isMoment_8 : decode cX5_isMoment 8 = .ok (.invokestatic 193, 3) := by decide +kernel
theorem dX5_isMoment_11 : decode cX5_isMoment 11 = .ok (.ifCond .eq 7, 3) := by decide +kernel
theorem dX5_isMoment_14 : decode cX5_isMoment 14 = .ok (.iconst 1, 1) := by decide +kernel
theorem dX5_isMoment_15 : decode cX5_isMoment 15 = .ok (.goto 4, 3) := by decide +kernel
theorem dX5_isMoment_18 : decode cX5_isMoment 18 = .ok (.iconst 0, 1) := by decide +kernel
theorem dX5_isMoment_19 : decode cX5_isMoment 19 = .ok (.ireturn, 1) := by decide +kernel
theorem dX5_areYears_0 : decode cX5_areYears 0 = .ok (.iload_n 0, 1) := by decide +kernel
theorem dX5_areYears_1 : decode cX5_areYears 1 = .ok (.invokestatic 193, 3) := by decide +kernel
theorem dX5_areYears_4 : decode cX5_areYears 4 = .ok (.ifCond .eq 17, 3) := by decide +kernel
theorem dX5_areYears_7 : decode cX5_areYears 7 = .ok (.iload_n 1, 1) := by decide +kernel
theorem dX5_areYears_8 : decode cX5_areYears 8 = .ok (.invokestatic 65, 3) := by decide +kernel
theorem dX5_areYears_11 : decode cX5_areYears 11 = .ok (.ifCond .eq 10, 3) := by decide +kernel
theorem dX5_areYears_14 : decode cX5_areYears 14 = .ok (.iload_n 2, 1) := by decide +kernel
theorem dX5_areYears_15 : decode cX5_areYears 15 = .ok (.invokestatic 65, 3) := by decide +kernel
theorem dX5_areYears_18 : decode cX5_areYears 18 = .ok (.ifCond .ne 5, 3) := by decide +kernel
theorem dX5_areYears_21 : decode cX5_areYears 21 = .ok (.iconst 0, 1) := by decide +kernel
theorem dX5_areYears_22 : decode cX5_areYears 22 = .ok (.ireturn, 1) := by decide +kernel
theorem dX5_areYears_23 : decode cX5_areYears 23 = .ok (.iload_n 2, 1) := by decide +kernel
theorem dX5_areYears_24 : decode cX5_areYears 24 = .ok (.iload_n 1, 1) := by decide +kernel
theorem dX5_areYears_25 : decode cX5_areYears 25 = .ok (.if_icmp .lt 17, 3) := by decide +kernel
theorem dX5_areYears_28 : decode cX5_areYears 28 = .ok (.iload_n 1, 1) := by decide +kernel
theorem dX5_areYears_29 : decode cX5_areYears 29 = .ok (.iload_n 2, 1) := by decide +kernel
theorem dX5_areYears_30 : decode cX5_areYears 30 = .ok (.invokestatic 196, 3) := by decide +kernel
theorem dX5_areYears_33 : decode cX5_areYears 33 = .ok (.bipush 41, 2) := by decide +kernel
theorem dX5_areYears_35 : decode cX5_areYears 35 = .ok (.if_icmp .gt 7, 3) := by decide +kernel
theorem dX5_areYears_38 : decode cX5_areYears 38 = .ok (.iconst 1, 1) := by decide +kernel
theorem dX5_areYears_39 : decode cX5_areYears 39 = .ok (.goto 4, 3) := by decide +kernel
theorem dX5_areYears_42 : decode cX5_areYears 42 = .ok (.iconst 0, 1) := by decide +kernel
theorem dX5_areYears_43 : decode cX5_areYears 43 = .ok (.ireturn, 1) := by decide +kernel
theorem dX5_yearsBetween_0 : decode cX5_yearsBetween 0 = .ok (.iload_n 1, 1) := by decide +kernel
theorem dX5_yearsBetween_1 : decode cX5_yearsBetween 1 = .ok (.iload_n 0, 1) := by decide +kernel
theorem dX5_yearsBetween_2 : decode cX5_yearsBetween 2 = .ok (.isub, 1) := by decide +kernel
theorem dX5_yearsBetween_3 : decode cX5_yearsBetween 3 = .ok (.bipush 10, 2) := by decide +kernel
theorem dX5_yearsBetween_5 : decode cX5_yearsBetween 5 = .ok (.idiv, 1) := by decide +kernel
theorem dX5_yearsBetween_6 : decode cX5_yearsBetween 6 = .ok (.iconst 1, 1) := by decide +kernel
theorem dX5_yearsBetween_7 : decode cX5_yearsBetween 7 = .ok (.iadd, 1) := by decide +kernel
theorem dX5_yearsBetween_8 : decode cX5_yearsBetween 8 = .ok (.ireturn, 1) := by decide +kernel
theorem dX5_weighYears_0 : decode cX5_weighYears 0 = .ok (.iload_n 3, 1) := by decide +kernel
theorem dX5_weighYears_1 : decode cX5_weighYears 1 = .ok (.iload 4, 2) := by decide +kernel
theorem dX5_weighYears_3 : decode cX5_weighYears 3 = .ok (.invokestatic 196, 3) := by decide +kernel
theorem dX5_weighYears_6 : decode cX5_weighYears 6 = .ok (.bipush 41, 2) := by decide +kernel
theorem dX5_weighYears_8 : decode cX5_weighYears 8 = .ok (.invokestatic 151, 3) := by decide +kernel
theorem dX5_weighYears_11 : decode cX5_weighYears 11 = .ok (.istore 5, 2) := by decide +kernel
theorem dX5_weighYears_13 : decode cX5_weighYears 13 = .ok (.iconst 0, 1) := by decide +kernel
theorem dX5_weighYears_14 : decode cX5_weighYears 14 = .ok (.istore 6, 2) := by decide +kernel
theorem dX5_weighYears_16 : decode cX5_weighYears 16 = .ok (.iload 6, 2) := by decide +kernel
theorem dX5_weighYears_18 : decode cX5_weighYears 18 = .ok (.iload 5, 2) := by decide +kernel
theorem dX5_weighYears_20 : decode cX5_weighYears 20 = .ok (.if_icmp .ge 39, 3) := by decide +kernel
theorem dX5_weighYears_23 : decode cX5_weighYears 23 = .ok (.aload_n 0, 1) := by decide +kernel
theorem dX5_weighYears_24 : decode cX5_weighYears 24 = .ok (.getfield 28, 3) := by decide +kernel
theorem dX5_weighYears_27 : decode cX5_weighYears 27 = .ok (.iload_n 1, 1) := by decide +kernel
theorem dX5_weighYears_28 : decode cX5_weighYears 28 = .ok (.iload_n 3, 1) := by decide +kernel
theorem dX5_weighYears_29 : decode cX5_weighYears 29 = .ok (.bipush 10, 2) := by decide +kernel
theorem dX5_weighYears_31 : decode cX5_weighYears 31 = .ok (.iload 6, 2) := by decide +kernel
theorem dX5_weighYears_33 : decode cX5_weighYears 33 = .ok (.imul, 1) := by decide +kernel
theorem dX5_weighYears_34 : decode cX5_weighYears 34 = .ok (.iadd, 1) := by decide +kernel
theorem dX5_weighYears_35 : decode cX5_weighYears 35 = .ok (.iload_n 2, 1) := by decide +kernel
theorem dX5_weighYears_36 : decode cX5_weighYears 36 = .ok (.invokevirtual 135, 3) := by decide +kernel
theorem dX5_weighYears_39 : decode cX5_weighYears 39 = .ok (.aload_n 0, 1) := by decide +kernel
theorem dX5_weighYears_40 : decode cX5_weighYears 40 = .ok (.getfield 41, 3) := by decide +kernel
theorem dX5_weighYears_43 : decode cX5_weighYears 43 = .ok (.iload 6, 2) := by decide +kernel
theorem dX5_weighYears_45 : decode cX5_weighYears 45 = .ok (.aload_n 0, 1) := by decide +kernel
theorem dX5_weighYears_46 : decode cX5_weighYears 46 = .ok (.getfield 28, 3) := by decide +kernel
theorem dX5_weighYears_49 : decode cX5_weighYears 49 = .ok (.getfield 139, 3) := by decide +kernel
