theorem dX6_append_0 : decode cX6_append 0 = .ok (.bipush 24, 2) := by decide +kernel
theorem dX6_append_2 : decode cX6_append 2 = .ok (.istore_n 2, 1) := by decide +kernel
theorem dX6_append_3 : decode cX6_append 3 = .ok (.iload_n 2, 1) := by decide +kernel
theorem dX6_append_4 : decode cX6_append 4 = .ok (.ifCond .lt 42, 3) := by decide +kernel
theorem dX6_append_7 : decode cX6_append 7 = .ok (.aload_n 0, 1) := by decide +kernel
theorem dX6_append_8 : decode cX6_append 8 = .ok (.getfield 15, 3) := by decide +kernel
theorem dX6_append_11 : decode cX6_append 11 = .ok (.sipush 800, 3) := by decide +kernel
theorem dX6_append_14 : decode cX6_append 14 = .ok (.if_icmp .ge 32, 3) := by decide +kernel
theorem dX6_append_17 : decode cX6_append 17 = .ok (.aload_n 0, 1) := by decide +kernel
theorem dX6_append_18 : decode cX6_append 18 = .ok (.getfield 9, 3) := by decide +kernel
theorem dX6_append_21 : decode cX6_append 21 = .ok (.aload_n 0, 1) := by decide +kernel
theorem dX6_append_22 : decode cX6_append 22 = .ok (.getfield 15, 3) := by decide +kernel
theorem dX6_append_25 : decode cX6_append 25 = .ok (.iload_n 1, 1) := by decide +kernel
theorem dX6_append_26 : decode cX6_append 26 = .ok (.iload_n 2, 1) := by decide +kernel
theorem dX6_append_27 : decode cX6_append 27 = .ok (.ishr, 1) := by decide +kernel
theorem dX6_append_28 : decode cX6_append 28 = .ok (.i2b, 1) := by decide +kernel
theorem dX6_append_29 : decode cX6_append 29 = .ok (.bastore, 1) := by decide +kernel
theorem dX6_append_30 : decode cX6_append 30 = .ok (.aload_n 0, 1) := by decide +kernel
theorem dX6_append_31 : decode cX6_append 31 = .ok (.dup, 1) := by decide +kernel
theorem dX6_append_32 : decode cX6_append 32 = .ok (.getfield 15, 3) := by decide +kernel
theorem dX6_append_35 : decode cX6_append 35 = .ok (.iconst 1, 1) := by decide +kernel
theorem dX6_append_36 : decode cX6_append 36 = .ok (.iadd, 1) := by decide +kernel
theorem dX6_append_37 : decode cX6_append 37 = .ok (.putfield 15, 3) := by decide +kernel
theorem dX6_append_40 : decode cX6_append 40 = .ok (.iinc 2 (-8), 3) := by decide +kernel
theorem dX6_append_43 : decode cX6_append 43 = .ok (.goto (-40), 3) := by decide +kernel
theorem dX6_append_46 : decode cX6_append 46 = .ok (.return_, 1) := by decide +kernel
theorem dX6_readInto_0 : decode cX6_readInto 0 = .ok (.aload_n 1, 1) := by decide +kernel
theorem dX6_readInto_1 : decode cX6_readInto 1 = .ok (.invokevirtual 37, 3) := by decide +kernel
theorem dX6_readInto_4 : decode cX6_readInto 4 = .ok (.aload_n 0, 1) := by decide +kernel
theorem dX6_readInto_5 : decode cX6_readInto 5 = .ok (.iconst 0, 1) := by decide +kernel
theorem dX6_readInto_6 : decode cX6_readInto 6 = .ok (.putfield 19, 3) := by decide +kernel
theorem dX6_readInto_9 : decode cX6_readInto 9 = .ok (.aload_n 0, 1) := by decide +kernel
theorem dX6_readInto_10 : decode cX6_readInto 10 = .ok (.iconst (-1), 1) := by decide +kernel
theorem dX6_readInto_11 : decode cX6_readInto 11 = .ok (.putfield 22, 3) := by decide +kernel
theorem dX6_readInto_14 : decode cX6_readInto 14 = .ok (.aload_n 0, 1) := by decide +kernel
theorem dX6_readInto_15 : decode cX6_readInto 15 = .ok (.iconst 0, 1) := by decide +kernel
theorem dX6_readInto_16 : decode cX6_readInto 16 = .ok (.putfield 31, 3) := by decide +kernel
theorem dX6_readInto_19 : decode cX6_readInto 19 = .ok (.aload_n 0, 1) := by decide +kernel
theorem dX6_readInto_20 : decode cX6_readInto 20 = .ok (.invokevirtual 42, 3) := by decide +kernel
theorem dX6_readInto_23 : decode cX6_readInto 23 = .ok (.iconst 0, 1) := by decide +kernel
theorem dX6_readInto_24 : decode cX6_readInto 24 = .ok (.istore_n 2, 1) := by decide +kernel
theorem dX6_readInto_25 : decode cX6_readInto 25 = .ok (.iload_n 2, 1) := by decide +kernel
theorem dX6_readInto_26 : decode cX6_readInto 26 = .ok (.sipush 800, 3) := by decide +kernel
theorem dX6_readInto_29 : decode cX6_readInto 29 = .ok (.if_icmp .gt 42, 3) := by decide +kernel
theorem dX6_readInto_32 : decode cX6_readInto 32 = .ok (.aload_n 0, 1) := by decide +kernel
theorem dX6_readInto_33 : decode cX6_readInto 33 = .ok (.getfield 19, 3) := by decide +kernel
theorem dX6_readInto_36 : decode cX6_readInto 36 = .ok (.ifCond .ne 35, 3) := by decide +kernel
theorem dX6_readInto_39 : decode cX6_readInto 39 = .ok (.aload_n 0, 1) := by decide +kernel
theorem dX6_readInto_40 : decode cX6_readInto 40 = .ok (.getfield 25, 3) := by decide +kernel
theorem dX6_readInto_43 : decode cX6_readInto 43 = .ok (.ifCond .eq 28, 3) := by decide +kernel
theorem dX6_readInto_46 : decode cX6_readInto 46 = .ok (.aload_n 0, 1) := by decide +kernel
theorem dX6_readInto_47 : decode cX6_readInto 47 = .ok (.aload_n 1, 1) := by decide +kernel
theorem dX6_readInto_48 : decode cX6_readInto 48 = .ok (.invokevirtual 45, 3) := by decide +kernel
theorem dX6_readInto_51 : decode cX6_readInto 51 = .ok (.aload_n 0, 1) := by decide +kernel
theorem dX6_readInto_52 : decode cX6_readInto 52 = .ok (.invokevirtual 49, 3) := by decide +kernel
theorem dX6_readInto_55 : decode cX6_readInto 55 = .ok (.aload_n 1, 1) := by decide +kernel
theorem dX6_readInto_56 : decode cX6_readInto 56 = .ok (.dup, 1) := by decide +kernel
theorem dX6_readInto_57 : decode cX6_readInto 57 = .ok (.getfield 52, 3) := by decide +kernel
theorem dX6_readInto_60 : decode cX6_readInto 60 = .ok (.iconst 1, 1) := by decide +kernel
theorem dX6_readInto_61 : decode cX6_readInto 61 = .ok (.iadd, 1) := by decide +kernel
theorem dX6_readInto_62 : decode cX6_readInto 62 = .ok (.putfield 52, 3) := by decide +kernel
theorem dX6_readInto_65 : decode cX6_readInto 65 = .ok (.iinc 2 1, 3) := by decide +kernel
theorem dX6_readInto_68 : decode cX6_readInto 68 = .ok (.goto (-43), 3) := by decide +kernel
theorem dX6_readInto_71 : decode cX6_readInto 71 = .ok (.return_, 1) := by decide +kernel
theorem dX6_readLine_0 : decode cX6_readLine 0 = .ok (.aload_n 0, 1) := by decide +kernel
theorem dX6_readLine_1 : decode cX6_readLine 1 = .ok (.ldc 55, 2) := by decide +kernel
theorem dX6_readLine_3 : decode cX6_readLine 3 = .ok (.invokevirtual 57, 3) := by decide +kernel
theorem dX6_readLine_6 : decode cX6_readLine 6 = .ok (.ifCond .eq 18, 3) := by decide +kernel
theorem dX6_readLine_9 : decode cX6_readLine 9 = .ok (.aload_n 1, 1) := by decide +kernel
theorem dX6_readLine_10 : decode cX6_readLine 10 = .ok (.getfield 52, 3) := by decide +kernel
theorem dX6_readLine_13 : decode cX6_readLine 13 = .ok (.ifCond .ne 11, 3) := by decide +kernel
theorem dX6_readLine_16 : decode cX6_readLine 16 = .ok (.aload_n 0, 1) := by decide +kernel
theorem dX6_readLine_17 : decode cX6_readLine 17 = .ok (.aload_n 1, 1) := by decide +kernel
theorem dX6_readLine_18 : decode cX6_readLine 18 = .ok (.invokevirtual 61, 3) := by decide +kernel
theorem dX6_readLine_21 : decode cX6_readLine 21 = .ok (.goto 108, 3) := by decide +kernel
theorem dX6_readLine_24 : decode cX6_readLine 24 = .ok (.aload_n 1, 1) := by decide +kernel
theorem dX6_readLine_25 : decode cX6_readLine 25 = .ok (.getfield 52, 3) := by decide +kernel
theorem dX6_readLine_28 : decode cX6_readLine 28 = .ok (.ifCond .ne 11, 3) := by decide +kernel
theorem dX6_readLine_31 : decode cX6_readLine 31 = .ok (.aload_n 0, 1) := by decide +kernel
theorem dX6_readLine_32 : decode cX6_readLine 32 = .ok (.iconst 1, 1) := by decide +kernel
theorem dX6_readLine_33 : decode cX6_readLine 33 = .ok (.invokevirtual 64, 3) := by decide +kernel
theorem dX6_readLine_36 : decode cX6_readLine 36 = .ok (.goto 93, 3) := by decide +kernel
theorem dX6_readLine_39 : decode cX6_readLine 39 = .ok (.aload_n 0, 1) := by decide +kernel
theorem dX6_readLine_40 : decode cX6_readLine 40 = .ok (.ldc 68, 2) := by decide +kernel
theorem dX6_readLine_42 : decode cX6_readLine 42 = .ok (.invokevirtual 57, 3) := by decide +kernel
theorem dX6_readLine_45 : decode cX6_readLine 45 = .ok (.ifCond .eq 11, 3) := by decide +kernel
theorem dX6_readLine_48 : decode cX6_readLine 48 = .ok (.aload_n 0, 1) := by decide +kernel
theorem dX6_readLine_49 : decode cX6_readLine 49 = .ok (.aload_n 1, 1) := by decide +kernel
theorem dX6_readLine_50 : decode cX6_readLine 50 = .ok (.invokevirtual 70, 3) := by decide +kernel
theorem dX6_readLine_53 : decode cX6_readLine 53 = .ok (.goto 76, 3) := by decide +kernel
theorem dX6_readLine_56 : decode cX6_readLine 56 = .ok (.aload_n 0, 1) := by decide +kernel
theorem dX6_readLine_57 : decode cX6_readLine 57 = .ok (.ldc 73, 2) := by decide +kernel
theorem dX6_readLine_59 : decode cX6_readLine 59 = .ok (.invokevirtual 57, 3) := by decide +kernel
theorem dX6_readLine_62 : decode cX6_readLine 62 = .ok (.ifCond .eq 11, 3) := by decide +kernel
theorem dX6_readLine_65 : decode cX6_readLine 65 = .ok (.aload_n 0, 1) := by decide +kernel
theorem dX6_readLine_66 : decode cX6_readLine 66 = .ok (.aload_n 1, 1) := by decide +kernel
theorem dX6_readLine_67 : decode cX6_readLine 67 = .ok (.invokevirtual 75, 3) := by decide +kernel
theorem dX6_readLine_70 : decode cX6_readLine 70 = .ok (.goto 59, 3) := by decide +kernel
theorem dX6_readLine_73 : decode cX6_readLine 73 = .ok (.aload_n 0, 1) := by decide +kernel
theorem dX6_readLine_74 : decode cX6_readLine 74 = .ok (.ldc 78, 2) := by decide +kernel
theorem dX6_readLine_76 : decode cX6_readLine 76 = .ok (.invokevirtual 57, 3) := by decide +kernel
theorem dX6_readLine_79 : decode cX6_readLine 79 = .ok (.ifCond .eq 11, 3) := by decide +kernel
theorem dX6_readLine_82 : decode cX6_readLine 82 = .ok (.aload_n 0, 1) := by decide +kernel
theorem dX6_readLine_83 : decode cX6_readLine 83 = .ok (.aload_n 1, 1) := by decide +kernel
theorem dX6_readLine_84 : decode cX6_readLine 84 = .ok (.invokevirtual 80, 3) := by decide +kernel
theorem dX6_readLine_87 : decode cX6_readLine 87 = .ok (.goto 42, 3) := by decide +kernel
theorem dX6_readLine_90 : decode cX6_readLine 90 = .ok (.aload_n 0, 1) := by decide +kernel
theorem dX6_readLine_91 : decode cX6_readLine 91 = .ok (.ldc 83, 2) := by decide +kernel
theorem dX6_readLine_93 : decode cX6_readLine 93 = .ok (.invokevirtual 57, 3) := by decide +kernel
theorem dX6_readLine_96 : decode cX6_readLine 96 = .ok (.ifCond .eq 11, 3) := by decide +kernel
theorem dX6_readLine_99 : decode cX6_readLine 99 = .ok (.aload_n 0, 1) := by decide +kernel
theorem dX6_readLine_100 : decode cX6_readLine 100 = .ok (.aload_n 1, 1) := by decide +kernel
theorem dX6_readLine_101 : decode cX6_readLine 101 = .ok (.invokevirtual 85, 3) := by decide +kernel
theorem dX6_readLine_104 : decode cX6_readLine 104 = .ok (.goto 25, 3) := by decide +kernel
theorem dX6_readLine_107 : decode cX6_readLine 107 = .ok (.aload_n 0, 1) := by decide +kernel
theorem dX6_readLine_108 : decode cX6_readLine 108 = .ok (.ldc 88, 2) := by decide +kernel
theorem dX6_readLine_110 : decode cX6_readLine 110 = .ok (.invokevirtual 57, 3) := by decide +kernel
theorem dX6_readLine_113 : decode cX6_readLine 113 = .ok (.ifCond .eq 11, 3) := by decide +kernel
theorem dX6_readLine_116 : decode cX6_readLine 116 = .ok (.aload_n 0, 1) := by decide +kernel
theorem dX6_readLine_117 : decode cX6_readLine 117 = .ok (.aload_n 1, 1) := by decide +kernel
theorem dX6_readLine_118 : decode cX6_readLine 118 = .ok (.invokevirtual 90, 3) := by decide +kernel
theorem dX6_readLine_121 : decode cX6_readLine 121 = .ok (.goto 8, 3) := by decide +kernel
theorem dX6_readLine_124 : decode cX6_readLine 124 = .ok (.aload_n 0, 1) := by decide +kernel
theorem dX6_readLine_125 : decode cX6_readLine 125 = .ok (.iconst 1, 1) := by decide +kernel
theorem dX6_readLine_126 : decode cX6_readLine 126 = .ok (.invokevirtual 64, 3) := by decide +kernel
theorem dX6_readLine_129 : decode cX6_readLine 129 = .ok (.return_, 1) := by decide +kernel
theorem dX6_readHeath_0 : decode cX6_readHeath 0 = .ok (.aload_n 0, 1) := by decide +kernel
theorem dX6_readHeath_1 : decode cX6_readHeath 1 = .ok (.invokevirtual 42, 3) := by decide +kernel
theorem dX6_readHeath_4 : decode cX6_readHeath 4 = .ok (.aload_n 0, 1) := by decide +kernel
theorem dX6_readHeath_5 : decode cX6_readHeath 5 = .ok (.ldc 93, 2) := by decide +kernel
theorem dX6_readHeath_7 : decode cX6_readHeath 7 = .ok (.invokevirtual 95, 3) := by decide +kernel
theorem dX6_readHeath_10 : decode cX6_readHeath 10 = .ok (.aload_n 1, 1) := by decide +kernel
theorem dX6_readHeath_11 : decode cX6_readHeath 11 = .ok (.aload_n 0, 1) := by decide +kernel
theorem dX6_readHeath_12 : decode cX6_readHeath 12 = .ok (.iconst 1, 1) := by decide +kernel
theorem dX6_readHeath_13 : decode cX6_readHeath 13 = .ok (.bipush 16, 2) := by decide +kernel
theorem dX6_readHeath_15 : decode cX6_readHeath 15 = .ok (.invokevirtual 99, 3) := by decide +kernel
theorem dX6_readHeath_18 : decode cX6_readHeath 18 = .ok (.putfield 103, 3) := by decide +kernel
theorem dX6_readHeath_21 : decode cX6_readHeath 21 = .ok (.aload_n 0, 1) := by decide +kernel
theorem dX6_readHeath_22 : decode cX6_readHeath 22 = .ok (.ldc 105, 2) := by decide +kernel
theorem dX6_readHeath_24 : decode cX6_readHeath 24 = .ok (.invokevirtual 95, 3) := by decide +kernel
theorem dX6_readHeath_27 : decode cX6_readHeath 27 = .ok (.aload_n 1, 1) := by decide +kernel
theorem dX6_readHeath_28 : decode cX6_readHeath 28 = .ok (.aload_n 0, 1) := by decide +kernel
theorem dX6_readHeath_29 : decode cX6_readHeath 29 = .ok (.iconst 0, 1) := by decide +kernel
theorem dX6_readHeath_30 : decode cX6_readHeath 30 = .ok (.iconst 3, 1) := by decide +kernel
theorem dX6_readHeath_31 : decode cX6_readHeath 31 = .ok (.invokevirtual 99, 3) := by decide +kernel
theorem dX6_readHeath_34 : decode cX6_readHeath 34 = .ok (.putfield 107, 3) := by decide +kernel
theorem dX6_readHeath_37 : decode cX6_readHeath 37 = .ok (.aload_n 0, 1) := by decide +kernel
theorem dX6_readHeath_38 : decode cX6_readHeath 38 = .ok (.ldc 109, 2) := by decide +kernel
theorem dX6_readHeath_40 : decode cX6_readHeath 40 = .ok (.invokevirtual 95, 3) := by decide +kernel
theorem dX6_readHeath_43 : decode cX6_readHeath 43 = .ok (.aload_n 1, 1) := by decide +kernel
theorem dX6_readHeath_44 : decode cX6_readHeath 44 = .ok (.aload_n 0, 1) := by decide +kernel
theorem dX6_readHeath_45 : decode cX6_readHeath 45 = .ok (.iconst 0, 1) := by decide +kernel
theorem dX6_readHeath_46 : decode cX6_readHeath 46 = .ok (.bipush 10, 2) := by decide +kernel
theorem dX6_readHeath_48 : decode cX6_readHeath 48 = .ok (.invokevirtual 99, 3) := by decide +kernel
theorem dX6_readHeath_51 : decode cX6_readHeath 51 = .ok (.putfield 111, 3) := by decide +kernel
theorem dX6_readHeath_54 : decode cX6_readHeath 54 = .ok (.return_, 1) := by decide +kernel
theorem dX6_readInn_0 : decode cX6_readInn 0 = .ok (.aload_n 0, 1) := by decide +kernel
theorem dX6_readInn_1 : decode cX6_readInn 1 = .ok (.aload_n 1, 1) := by decide +kernel
theorem dX6_readInn_2 : decode cX6_readInn 2 = .ok (.getfield 113, 3) := by decide +kernel
theorem dX6_readInn_5 : decode cX6_readInn 5 = .ok (.iconst 4, 1) := by decide +kernel
theorem dX6_readInn_6 : decode cX6_readInn 6 = .ok (.invokevirtual 116, 3) := by decide +kernel
theorem dX6_readInn_9 : decode cX6_readInn 9 = .ok (.aload_n 0, 1) := by decide +kernel
theorem dX6_readInn_10 : decode cX6_readInn 10 = .ok (.ldc 120, 2) := by decide +kernel
theorem dX6_readInn_12 : decode cX6_readInn 12 = .ok (.invokevirtual 95, 3) := by decide +kernel
theorem dX6_readInn_15 : decode cX6_readInn 15 = .ok (.aload_n 0, 1) := by decide +kernel
theorem dX6_readInn_16 : decode cX6_readInn 16 = .ok (.iconst 0, 1) := by decide +kernel
theorem dX6_readInn_17 : decode cX6_readInn 17 = .ok (.bipush 9, 2) := by decide +kernel
theorem dX6_readInn_19 : decode cX6_readInn 19 = .ok (.invokevirtual 99, 3) := by decide +kernel
theorem dX6_readInn_22 : decode cX6_readInn 22 = .ok (.istore_n 2, 1) := by decide +kernel
theorem dX6_readInn_23 : decode cX6_readInn 23 = .ok (.aload_n 0, 1) := by decide +kernel
theorem dX6_readInn_24 : decode cX6_readInn 24 = .ok (.getfield 19, 3) := by decide +kernel
theorem dX6_readInn_27 : decode cX6_readInn 27 = .ok (.ifCond .ne 23, 3) := by decide +kernel
theorem dX6_readInn_30 : decode cX6_readInn 30 = .ok (.aload_n 1, 1) := by decide +kernel
theorem dX6_readInn_31 : decode cX6_readInn 31 = .ok (.getfield 122, 3) := by decide +kernel
theorem dX6_readInn_34 : decode cX6_readInn 34 = .ok (.aload_n 1, 1) := by decide +kernel
theorem dX6_readInn_35 : decode cX6_readInn 35 = .ok (.getfield 113, 3) := by decide +kernel
theorem dX6_readInn_38 : decode cX6_readInn 38 = .ok (.iload_n 2, 1) := by decide +kernel
theorem dX6_readInn_39 : decode cX6_readInn 39 = .ok (.iastore, 1) := by decide +kernel
theorem dX6_readInn_40 : decode cX6_readInn 40 = .ok (.aload_n 1, 1) := by decide +kernel
theorem dX6_readInn_41 : decode cX6_readInn 41 = .ok (.dup, 1) := by decide +kernel
theorem dX6_readInn_42 : decode cX6_readInn 42 = .ok (.getfield 113, 3) := by decide +kernel
theorem dX6_readInn_45 : decode cX6_readInn 45 = .ok (.iconst 1, 1) := by decide +kernel
theorem dX6_readInn_46 : decode cX6_readInn 46 = .ok (.iadd, 1) := by decide +kernel
theorem dX6_readInn_47 : decode cX6_readInn 47 = .ok (.putfield 113, 3) := by decide +kernel
theorem dX6_readInn_50 : decode cX6_readInn 50 = .ok (.return_, 1) := by decide +kernel
theorem dX6_readPost_0 : decode cX6_readPost 0 = .ok (.aload_n 0, 1) := by decide +kernel
theorem dX6_readPost_1 : decode cX6_readPost 1 = .ok (.aload_n 1, 1) := by decide +kernel
theorem dX6_readPost_2 : decode cX6_readPost 2 = .ok (.getfield 126, 3) := by decide +kernel
theorem dX6_readPost_5 : decode cX6_readPost 5 = .ok (.bipush 7, 2) := by decide +kernel
theorem dX6_readPost_7 : decode cX6_readPost 7 = .ok (.invokevirtual 116, 3) := by decide +kernel
theorem dX6_readPost_10 : decode cX6_readPost 10 = .ok (.aload_n 0, 1) := by decide +kernel
theorem dX6_readPost_11 : decode cX6_readPost 11 = .ok (.getfield 19, 3) := by decide +kernel
theorem dX6_readPost_14 : decode cX6_readPost 14 = .ok (.ifCond .ne 13, 3) := by decide +kernel
theorem dX6_readPost_17 : decode cX6_readPost 17 = .ok (.aload_n 1, 1) := by decide +kernel
theorem dX6_readPost_18 : decode cX6_readPost 18 = .ok (.dup, 1) := by decide +kernel
theorem dX6_readPost_19 : decode cX6_readPost 19 = .ok (.getfield 126, 3) := by decide +kernel
theorem dX6_readPost_22 : decode cX6_readPost 22 = .ok (.iconst 1, 1) := by decide +kernel
theorem dX6_readPost_23 : decode cX6_readPost 23 = .ok (.iadd, 1) := by decide +kernel
theorem dX6_readPost_24 : decode cX6_readPost 24 = .ok (.putfield 126, 3) := by decide +kernel
theorem dX6_readPost_27 : decode cX6_readPost 27 = .ok (.return_, 1) := by decide +kernel
theorem dX6_readRoad_0 : decode cX6_readRoad 0 = .ok (.aload_n 0, 1) := by decide +kernel
theorem dX6_readRoad_1 : decode cX6_readRoad 1 = .ok (.aload_n 1, 1) := by decide +kernel
theorem dX6_readRoad_2 : decode cX6_readRoad 2 = .ok (.getfield 129, 3) := by decide +kernel
theorem dX6_readRoad_5 : decode cX6_readRoad 5 = .ok (.bipush 16, 2) := by decide +kernel
theorem dX6_readRoad_7 : decode cX6_readRoad 7 = .ok (.invokevirtual 116, 3) := by decide +kernel
theorem dX6_readRoad_10 : decode cX6_readRoad 10 = .ok (.aload_n 0, 1) := by decide +kernel
theorem dX6_readRoad_11 : decode cX6_readRoad 11 = .ok (.iconst 0, 1) := by decide +kernel
theorem dX6_readRoad_12 : decode cX6_readRoad 12 = .ok (.aload_n 1, 1) := by decide +kernel
theorem dX6_readRoad_13 : decode cX6_readRoad 13 = .ok (.getfield 126, 3) := by decide +kernel
theorem dX6_readRoad_16 : decode cX6_readRoad 16 = .ok (.iconst 1, 1) := by decide +kernel
theorem dX6_readRoad_17 : decode cX6_readRoad 17 = .ok (.isub, 1) := by decide +kernel
theorem dX6_readRoad_18 : decode cX6_readRoad 18 = .ok (.invokevirtual 132, 3) := by decide +kernel
theorem dX6_readRoad_21 : decode cX6_readRoad 21 = .ok (.istore_n 2, 1) := by decide +kernel
theorem dX6_readRoad_22 : decode cX6_readRoad 22 = .ok (.aload_n 0, 1) := by decide +kernel
theorem dX6_readRoad_23 : decode cX6_readRoad 23 = .ok (.getfield 19, 3) := by decide +kernel
theorem dX6_readRoad_26 : decode cX6_readRoad 26 = .ok (.ifCond .ne 18, 3) := by decide +kernel
theorem dX6_readRoad_29 : decode cX6_readRoad 29 = .ok (.aload_n 1, 1) := by decide +kernel
theorem dX6_readRoad_30 : decode cX6_readRoad 30 = .ok (.getfield 135, 3) := by decide +kernel
theorem dX6_readRoad_33 : decode cX6_readRoad 33 = .ok (.iload_n 2, 1) := by decide +kernel
theorem dX6_readRoad_34 : decode cX6_readRoad 34 = .ok (.iaload, 1) := by decide +kernel
theorem dX6_readRoad_35 : decode cX6_readRoad 35 = .ok (.iconst 4, 1) := by decide +kernel
theorem dX6_readRoad_36 : decode cX6_readRoad 36 = .ok (.if_icmp .ne 8, 3) := by decide +kernel
theorem dX6_readRoad_39 : decode cX6_readRoad 39 = .ok (.aload_n 0, 1) := by decide +kernel
theorem dX6_readRoad_40 : decode cX6_readRoad 40 = .ok (.iconst 3, 1) := by decide +kernel
theorem dX6_readRoad_41 : decode cX6_readRoad 41 = .ok (.invokevirtual 64, 3) := by decide +kernel
theorem dX6_readRoad_44 : decode cX6_readRoad 44 = .ok (.aload_n 0, 1) := by decide +kernel
theorem dX6_readRoad_45 : decode cX6_readRoad 45 = .ok (.invokevirtual 42, 3) := by decide +kernel
theorem dX6_readRoad_48 : decode cX6_readRoad 48 = .ok (.aload_n 0, 1) := by decide +kernel
theorem dX6_readRoad_49 : decode cX6_readRoad 49 = .ok (.ldc 138, 2) := by decide +kernel
theorem dX6_readRoad_51 : decode cX6_readRoad 51 = .ok (.invokevirtual 57, 3) := by decide +kernel
theorem dX6_readRoad_54 : decode cX6_readRoad 54 = .ok (.ifCond .eq 25, 3) := by decide +kernel
theorem dX6_readRoad_57 : decode cX6_readRoad 57 = .ok (.aload_n 0, 1) := by decide +kernel
theorem dX6_readRoad_58 : decode cX6_readRoad 58 = .ok (.invokevirtual 42, 3) := by decide +kernel
theorem dX6_readRoad_61 : decode cX6_readRoad 61 = .ok (.bipush 10, 2) := by decide +kernel
theorem dX6_readRoad_63 : decode cX6_readRoad 63 = .ok (.aload_n 0, 1) := by decide +kernel
theorem dX6_readRoad_64 : decode cX6_readRoad 64 = .ok (.iconst 0, 1) := by decide +kernel
theorem dX6_readRoad_65 : decode cX6_readRoad 65 = .ok (.aload_n 1, 1) := by decide +kernel
theorem dX6_readRoad_66 : decode cX6_readRoad 66 = .ok (.getfield 113, 3) := by decide +kernel
theorem dX6_readRoad_69 : decode cX6_readRoad 69 = .ok (.iconst 1, 1) := by decide +kernel
theorem dX6_readRoad_70 : decode cX6_readRoad 70 = .ok (.isub, 1) := by decide +kernel
theorem dX6_readRoad_71 : decode cX6_readRoad 71 = .ok (.invokevirtual 99, 3) := by decide +kernel
theorem dX6_readRoad_74 : decode cX6_readRoad 74 = .ok (.iadd, 1) := by decide +kernel
theorem dX6_readRoad_75 : decode cX6_readRoad 75 = .ok (.istore_n 3, 1) := by decide +kernel
theorem dX6_readRoad_76 : decode cX6_readRoad 76 = .ok (.goto 35, 3) := by decide +kernel
theorem dX6_readRoad_79 : decode cX6_readRoad 79 = .ok (.aload_n 0, 1) := by decide +kernel
theorem dX6_readRoad_80 : decode cX6_readRoad 80 = .ok (.ldc 140, 2) := by decide +kernel
theorem dX6_readRoad_82 : decode cX6_readRoad 82 = .ok (.invokevirtual 95, 3) := by decide +kernel
theorem dX6_readRoad_85 : decode cX6_readRoad 85 = .ok (.aload_n 0, 1) := by decide +kernel
theorem dX6_readRoad_86 : decode cX6_readRoad 86 = .ok (.iconst 0, 1) := by decide +kernel
theorem dX6_readRoad_87 : decode cX6_readRoad 87 = .ok (.aload_n 1, 1) := by decide +kernel
theorem dX6_readRoad_88 : decode cX6_readRoad 88 = .ok (.getfield 126, 3) := by decide +kernel
theorem dX6_readRoad_91 : decode cX6_readRoad 91 = .ok (.iconst 1, 1) := by decide +kernel
theorem dX6_readRoad_92 : decode cX6_readRoad 92 = .ok (.isub, 1) := by decide +kernel
theorem dX6_readRoad_93 : decode cX6_readRoad 93 = .ok (.invokevirtual 132, 3) := by decide +kernel
theorem dX6_readRoad_96 : decode cX6_readRoad 96 = .ok (.istore_n 3, 1) := by decide +kernel
theorem dX6_readRoad_97 : decode cX6_readRoad 97 = .ok (.iload_n 3, 1) := by decide +kernel
theorem dX6_readRoad_98 : decode cX6_readRoad 98 = .ok (.iload_n 2, 1) := by decide +kernel
theorem dX6_readRoad_99 : decode cX6_readRoad 99 = .ok (.if_icmp .ne 8, 3) := by decide +kernel
theorem dX6_readRoad_102 : decode cX6_readRoad 102 = .ok (.aload_n 0, 1) := by decide +kernel
theorem dX6_readRoad_103 : decode cX6_readRoad 103 = .ok (.iconst 2, 1) := by decide +kernel
theorem dX6_readRoad_104 : decode cX6_readRoad 104 = .ok (.invokevirtual 64, 3) := by decide +kernel
theorem dX6_readRoad_107 : decode cX6_readRoad 107 = .ok (.aload_n 0, 1) := by decide +kernel
theorem dX6_readRoad_108 : decode cX6_readRoad 108 = .ok (.invokevirtual 42, 3) := by decide +kernel
theorem dX6_readRoad_111 : decode cX6_readRoad 111 = .ok (.aload_n 0, 1) := by decide +kernel
theorem dX6_readRoad_112 : decode cX6_readRoad 112 = .ok (.getfield 19, 3) := by decide +kernel
theorem dX6_readRoad_115 : decode cX6_readRoad 115 = .ok (.ifCond .ne 9, 3) := by decide +kernel
theorem dX6_readRoad_118 : decode cX6_readRoad 118 = .ok (.aload_n 1, 1) := by decide +kernel
theorem dX6_readRoad_119 : decode cX6_readRoad 119 = .ok (.iload_n 2, 1) := by decide +kernel
theorem dX6_readRoad_120 : decode cX6_readRoad 120 = .ok (.iload_n 3, 1) := by decide +kernel
theorem dX6_readRoad_121 : decode cX6_readRoad 121 = .ok (.invokevirtual 142, 3) := by decide +kernel
theorem dX6_readRoad_124 : decode cX6_readRoad 124 = .ok (.return_, 1) := by decide +kernel
theorem dX6_readArm_0 : decode cX6_readArm 0 = .ok (.aload_n 0, 1) := by decide +kernel
theorem dX6_readArm_1 : decode cX6_readArm 1 = .ok (.aload_n 1, 1) := by decide +kernel
theorem dX6_readArm_2 : decode cX6_readArm 2 = .ok (.getfield 145, 3) := by decide +kernel
theorem dX6_readArm_5 : decode cX6_readArm 5 = .ok (.bipush 8, 2) := by decide +kernel
theorem dX6_readArm_7 : decode cX6_readArm 7 = .ok (.invokevirtual 116, 3) := by decide +kernel
theorem dX6_readArm_10 : decode cX6_readArm 10 = .ok (.aload_n 0, 1) := by decide +kernel
theorem dX6_readArm_11 : decode cX6_readArm 11 = .ok (.iconst 0, 1) := by decide +kernel
theorem dX6_readArm_12 : decode cX6_readArm 12 = .ok (.aload_n 1, 1) := by decide +kernel
theorem dX6_readArm_13 : decode cX6_readArm 13 = .ok (.getfield 126, 3) := by decide +kernel
theorem dX6_readArm_16 : decode cX6_readArm 16 = .ok (.iconst 1, 1) := by decide +kernel
theorem dX6_readArm_17 : decode cX6_readArm 17 = .ok (.isub, 1) := by decide +kernel
theorem dX6_readArm_18 : decode cX6_readArm 18 = .ok (.invokevirtual 99, 3) := by decide +kernel
theorem dX6_readArm_21 : decode cX6_readArm 21 = .ok (.istore_n 2, 1) := by decide +kernel
theorem dX6_readArm_22 : decode cX6_readArm 22 = .ok (.aload_n 0, 1) := by decide +kernel
theorem dX6_readArm_23 : decode cX6_readArm 23 = .ok (.iconst 0, 1) := by decide +kernel
theorem dX6_readArm_24 : decode cX6_readArm 24 = .ok (.aload_n 0, 1) := by decide +kernel
theorem dX6_readArm_25 : decode cX6_readArm 25 = .ok (.getfield 19, 3) := by decide +kernel
theorem dX6_readArm_28 : decode cX6_readArm 28 = .ok (.ifCond .ne 14, 3) := by decide +kernel
theorem dX6_readArm_31 : decode cX6_readArm 31 = .ok (.aload_n 1, 1) := by decide +kernel
theorem dX6_readArm_32 : decode cX6_readArm 32 = .ok (.getfield 135, 3) := by decide +kernel
theorem dX6_readArm_35 : decode cX6_readArm 35 = .ok (.iload_n 2, 1) := by decide +kernel
theorem dX6_readArm_36 : decode cX6_readArm 36 = .ok (.iaload, 1) := by decide +kernel
theorem dX6_readArm_37 : decode cX6_readArm 37 = .ok (.iconst 1, 1) := by decide +kernel
theorem dX6_readArm_38 : decode cX6_readArm 38 = .ok (.isub, 1) := by decide +kernel
theorem dX6_readArm_39 : decode cX6_readArm 39 = .ok (.goto 4, 3) := by decide +kernel
theorem dX6_readArm_42 : decode cX6_readArm 42 = .ok (.iconst 0, 1) := by decide +kernel
theorem dX6_readArm_43 : decode cX6_readArm 43 = .ok (.invokevirtual 99, 3) := by decide +kernel
theorem dX6_readArm_46 : decode cX6_readArm 46 = .ok (.istore_n 3, 1) := by decide +kernel
theorem dX6_readArm_47 : decode cX6_readArm 47 = .ok (.aload_n 0, 1) := by decide +kernel
theorem dX6_readArm_48 : decode cX6_readArm 48 = .ok (.getfield 19, 3) := by decide +kernel
theorem dX6_readArm_51 : decode cX6_readArm 51 = .ok (.ifCond .ne 20, 3) := by decide +kernel
theorem dX6_readArm_54 : decode cX6_readArm 54 = .ok (.aload_n 1, 1) := by decide +kernel
theorem dX6_readArm_55 : decode cX6_readArm 55 = .ok (.getfield 148, 3) := by decide +kernel
theorem dX6_readArm_58 : decode cX6_readArm 58 = .ok (.iload_n 2, 1) := by decide +kernel
theorem dX6_readArm_59 : decode cX6_readArm 59 = .ok (.iload_n 3, 1) := by decide +kernel
theorem dX6_readArm_60 : decode cX6_readArm 60 = .ok (.iastore, 1) := by decide +kernel
theorem dX6_readArm_61 : decode cX6_readArm 61 = .ok (.aload_n 1, 1) := by decide +kernel
theorem dX6_readArm_62 : decode cX6_readArm 62 = .ok (.dup, 1) := by decide +kernel
theorem dX6_readArm_63 : decode cX6_readArm 63 = .ok (.getfield 145, 3) := by decide +kernel
theorem dX6_readArm_66 : decode cX6_readArm 66 = .ok (.iconst 1, 1) := by decide +kernel
theorem dX6_readArm_67 : decode cX6_readArm 67 = .ok (.iadd, 1) := by decide +kernel
theorem dX6_readArm_68 : decode cX6_readArm 68 = .ok (.putfield 145, 3) := by decide +kernel
theorem dX6_readArm_71 : decode cX6_readArm 71 = .ok (.return_, 1) := by decide +kernel
theorem dX6_readWalker_0 : decode cX6_readWalker 0 = .ok (.aload_n 0, 1) := by decide +kernel
theorem dX6_readWalker_1 : decode cX6_readWalker 1 = .ok (.aload_n 1, 1) := by decide +kernel
theorem dX6_readWalker_2 : decode cX6_readWalker 2 = .ok (.getfield 151, 3) := by decide +kernel
theorem dX6_readWalker_5 : decode cX6_readWalker 5 = .ok (.bipush 8, 2) := by decide +kernel
theorem dX6_readWalker_7 : decode cX6_readWalker 7 = .ok (.invokevirtual 116, 3) := by decide +kernel
theorem dX6_readWalker_10 : decode cX6_readWalker 10 = .ok (.aload_n 0, 1) := by decide +kernel
theorem dX6_readWalker_11 : decode cX6_readWalker 11 = .ok (.iconst 0, 1) := by decide +kernel
theorem dX6_readWalker_12 : decode cX6_readWalker 12 = .ok (.aload_n 1, 1) := by decide +kernel
theorem dX6_readWalker_13 : decode cX6_readWalker 13 = .ok (.getfield 126, 3) := by decide +kernel
theorem dX6_readWalker_16 : decode cX6_readWalker 16 = .ok (.iconst 1, 1) := by decide +kernel
theorem dX6_readWalker_17 : decode cX6_readWalker 17 = .ok (.isub, 1) := by decide +kernel
theorem dX6_readWalker_18 : decode cX6_readWalker 18 = .ok (.invokevirtual 99, 3) := by decide +kernel
theorem dX6_readWalker_21 : decode cX6_readWalker 21 = .ok (.istore_n 2, 1) := by decide +kernel
theorem dX6_readWalker_22 : decode cX6_readWalker 22 = .ok (.aload_n 0, 1) := by decide +kernel
theorem dX6_readWalker_23 : decode cX6_readWalker 23 = .ok (.ldc 154, 2) := by decide +kernel
theorem dX6_readWalker_25 : decode cX6_readWalker 25 = .ok (.invokevirtual 95, 3) := by decide +kernel
theorem dX6_readWalker_28 : decode cX6_readWalker 28 = .ok (.aload_n 0, 1) := by decide +kernel
theorem dX6_readWalker_29 : decode cX6_readWalker 29 = .ok (.iconst 0, 1) := by decide +kernel
theorem dX6_readWalker_30 : decode cX6_readWalker 30 = .ok (.bipush 15, 2) := by decide +kernel
theorem dX6_readWalker_32 : decode cX6_readWalker 32 = .ok (.invokevirtual 99, 3) := by decide +kernel
theorem dX6_readWalker_35 : decode cX6_readWalker 35 = .ok (.istore_n 3, 1) := by decide +kernel
theorem dX6_readWalker_36 : decode cX6_readWalker 36 = .ok (.aload_n 0, 1) := by decide +kernel
theorem dX6_readWalker_37 : decode cX6_readWalker 37 = .ok (.getfield 19, 3) := by decide +kernel
theorem dX6_readWalker_40 : decode cX6_readWalker 40 = .ok (.ifCond .ne 33, 3) := by decide +kernel
theorem dX6_readWalker_43 : decode cX6_readWalker 43 = .ok (.aload_n 1, 1) := by decide +kernel
theorem dX6_readWalker_44 : decode cX6_readWalker 44 = .ok (.getfield 156, 3) := by decide +kernel
theorem dX6_readWalker_47 : decode cX6_readWalker 47 = .ok (.aload_n 1, 1) := by decide +kernel
theorem dX6_readWalker_48 : decode cX6_readWalker 48 = .ok (.getfield 151, 3) := by decide +kernel
theorem dX6_readWalker_51 : decode cX6_readWalker 51 = .ok (.iload_n 2, 1) := by decide +kernel
theorem dX6_readWalker_52 : decode cX6_readWalker 52 = .ok (.iastore, 1) := by decide +kernel
theorem dX6_readWalker_53 : decode cX6_readWalker 53 = .ok (.aload_n 1, 1) := by decide +kernel
theorem dX6_readWalker_54 : decode cX6_readWalker 54 = .ok (.getfield 159, 3) := by decide +kernel
theorem dX6_readWalker_57 : decode cX6_readWalker 57 = .ok (.aload_n 1, 1) := by decide +kernel
theorem dX6_readWalker_58 : decode cX6_readWalker 58 = .ok (.getfield 151, 3) := by decide +kernel
theorem dX6_readWalker_61 : decode cX6_readWalker 61 = .ok (.iload_n 3, 1) := by decide +kernel
theorem dX6_readWalker_62 : decode cX6_readWalker 62 = .ok (.iastore, 1) := by decide +kernel
theorem dX6_readWalker_63 : decode cX6_readWalker 63 = .ok (.aload_n 1, 1) := by decide +kernel
theorem dX6_readWalker_64 : decode cX6_readWalker 64 = .ok (.dup, 1) := by decide +kernel
theorem dX6_readWalker_65 : decode cX6_readWalker 65 = .ok (.getfield 151, 3) := by decide +kernel
theorem dX6_readWalker_68 : decode cX6_readWalker 68 = .ok (.iconst 1, 1) := by decide +kernel
theorem dX6_readWalker_69 : decode cX6_readWalker 69 = .ok (.iadd, 1) := by decide +kernel
theorem dX6_readWalker_70 : decode cX6_readWalker 70 = .ok (.putfield 151, 3) := by decide +kernel
theorem dX6_readWalker_73 : decode cX6_readWalker 73 = .ok (.return_, 1) := by decide +kernel
theorem dX6_fail_0 : decode cX6_fail 0 = .ok (.aload_n 0, 1) := by decide +kernel
theorem dX6_fail_1 : decode cX6_fail 1 = .ok (.getfield 19, 3) := by decide +kernel
theorem dX6_fail_4 : decode cX6_fail 4 = .ok (.ifCond .ne 16, 3) := by decide +kernel
theorem dX6_fail_7 : decode cX6_fail 7 = .ok (.aload_n 0, 1) := by decide +kernel
theorem dX6_fail_8 : decode cX6_fail 8 = .ok (.iload_n 1, 1) := by decide +kernel
theorem dX6_fail_9 : decode cX6_fail 9 = .ok (.putfield 19, 3) := by decide +kernel
theorem dX6_fail_12 : decode cX6_fail 12 = .ok (.aload_n 0, 1) := by decide +kernel
theorem dX6_fail_13 : decode cX6_fail 13 = .ok (.aload_n 0, 1) := by decide +kernel
theorem dX6_fail_14 : decode cX6_fail 14 = .ok (.getfield 28, 3) := by decide +kernel
theorem dX6_fail_17 : decode cX6_fail 17 = .ok (.putfield 22, 3) := by decide +kernel
theorem dX6_fail_20 : decode cX6_fail 20 = .ok (.return_, 1) := by decide +kernel
theorem dX6_takeSign_0 : decode cX6_takeSign 0 = .ok (.aload_n 0, 1) := by decide +kernel
theorem dX6_takeSign_1 : decode cX6_takeSign 1 = .ok (.getfield 25, 3) := by decide +kernel
theorem dX6_takeSign_4 : decode cX6_takeSign 4 = .ok (.iconst 3, 1) := by decide +kernel
theorem dX6_takeSign_5 : decode cX6_takeSign 5 = .ok (.if_icmp .eq 8, 3) := by decide +kernel
theorem dX6_takeSign_8 : decode cX6_takeSign 8 = .ok (.aload_n 0, 1) := by decide +kernel
theorem dX6_takeSign_9 : decode cX6_takeSign 9 = .ok (.iconst 1, 1) := by decide +kernel
theorem dX6_takeSign_10 : decode cX6_takeSign 10 = .ok (.invokevirtual 64, 3) := by decide +kernel
theorem dX6_takeSign_13 : decode cX6_takeSign 13 = .ok (.aload_n 0, 1) := by decide +kernel
theorem dX6_takeSign_14 : decode cX6_takeSign 14 = .ok (.invokevirtual 42, 3) := by decide +kernel
theorem dX6_takeSign_17 : decode cX6_takeSign 17 = .ok (.return_, 1) := by decide +kernel
theorem dX6_takeWord_0 : decode cX6_takeWord 0 = .ok (.aload_n 0, 1) := by decide +kernel
theorem dX6_takeWord_1 : decode cX6_takeWord 1 = .ok (.aload_n 1, 1) := by decide +kernel
theorem dX6_takeWord_2 : decode cX6_takeWord 2 = .ok (.invokevirtual 57, 3) := by decide +kernel
theorem dX6_takeWord_5 : decode cX6_takeWord 5 = .ok (.ifCond .ne 8, 3) := by decide +kernel
theorem dX6_takeWord_8 : decode cX6_takeWord 8 = .ok (.aload_n 0, 1) := by decide +kernel
theorem dX6_takeWord_9 : decode cX6_takeWord 9 = .ok (.iconst 1, 1) := by decide +kernel
theorem dX6_takeWord_10 : decode cX6_takeWord 10 = .ok (.invokevirtual 64, 3) := by decide +kernel
theorem dX6_takeWord_13 : decode cX6_takeWord 13 = .ok (.aload_n 0, 1) := by decide +kernel
theorem dX6_takeWord_14 : decode cX6_takeWord 14 = .ok (.invokevirtual 42, 3) := by decide +kernel
theorem dX6_takeWord_17 : decode cX6_takeWord 17 = .ok (.return_, 1) := by decide +kernel
theorem dX6_takeWordOfFew_0 : decode cX6_takeWordOfFew 0 = .ok (.iload_n 1, 1) := by decide +kernel
theorem dX6_takeWordOfFew_1 : decode cX6_takeWordOfFew 1 = .ok (.iload_n 2, 1) := by decide +kernel
theorem dX6_takeWordOfFew_2 : decode cX6_takeWordOfFew 2 = .ok (.if_icmp .lt 8, 3) := by decide +kernel
theorem dX6_takeWordOfFew_5 : decode cX6_takeWordOfFew 5 = .ok (.aload_n 0, 1) := by decide +kernel
theorem dX6_takeWordOfFew_6 : decode cX6_takeWordOfFew 6 = .ok (.iconst 3, 1) := by decide +kernel
theorem dX6_takeWordOfFew_7 : decode cX6_takeWordOfFew 7 = .ok (.invokevirtual 64, 3) := by decide +kernel
theorem dX6_takeWordOfFew_10 : decode cX6_takeWordOfFew 10 = .ok (.aload_n 0, 1) := by decide +kernel
theorem dX6_takeWordOfFew_11 : decode cX6_takeWordOfFew 11 = .ok (.invokevirtual 42, 3) := by decide +kernel
theorem dX6_takeWordOfFew_14 : decode cX6_takeWordOfFew 14 = .ok (.return_, 1) := by decide +kernel
theorem dX6_takeNumber_0 : decode cX6_takeNumber 0 = .ok (.aload_n 0, 1) := by decide +kernel
theorem dX6_takeNumber_1 : decode cX6_takeNumber 1 = .ok (.iload_n 1, 1) := by decide +kernel
theorem dX6_takeNumber_2 : decode cX6_takeNumber 2 = .ok (.iload_n 2, 1) := by decide +kernel
theorem dX6_takeNumber_3 : decode cX6_takeNumber 3 = .ok (.invokevirtual 132, 3) := by decide +kernel
theorem dX6_takeNumber_6 : decode cX6_takeNumber 6 = .ok (.istore_n 3, 1) := by decide +kernel
theorem dX6_takeNumber_7 : decode cX6_takeNumber 7 = .ok (.aload_n 0, 1) := by decide +kernel
theorem dX6_takeNumber_8 : decode cX6_takeNumber 8 = .ok (.invokevirtual 42, 3) := by decide +kernel
theorem dX6_takeNumber_11 : decode cX6_takeNumber 11 = .ok (.iload_n 3, 1) := by decide +kernel
theorem dX6_takeNumber_12 : decode cX6_takeNumber 12 = .ok (.ireturn, 1) := by decide +kernel
theorem dX6_numberHere_0 : decode cX6_numberHere 0 = .ok (.aload_n 0, 1) := by decide +kernel
theorem dX6_numberHere_1 : decode cX6_numberHere 1 = .ok (.getfield 25, 3) := by decide +kernel
theorem dX6_numberHere_4 : decode cX6_numberHere 4 = .ok (.iconst 2, 1) := by decide +kernel
theorem dX6_numberHere_5 : decode cX6_numberHere 5 = .ok (.if_icmp .eq 11, 3) := by decide +kernel
theorem dX6_numberHere_8 : decode cX6_numberHere 8 = .ok (.aload_n 0, 1) := by decide +kernel
theorem dX6_numberHere_9 : decode cX6_numberHere 9 = .ok (.iconst 1, 1) := by decide +kernel
theorem dX6_numberHere_10 : decode cX6_numberHere 10 = .ok (.invokevirtual 64, 3) := by decide +kernel
theorem dX6_numberHere_13 : decode cX6_numberHere 13 = .ok (.goto 24, 3) := by decide +kernel
theorem dX6_numberHere_16 : decode cX6_numberHere 16 = .ok (.aload_n 0, 1) := by decide +kernel
theorem dX6_numberHere_17 : decode cX6_numberHere 17 = .ok (.getfield 34, 3) := by decide +kernel
theorem dX6_numberHere_20 : decode cX6_numberHere 20 = .ok (.iload_n 1, 1) := by decide +kernel
theorem dX6_numberHere_21 : decode cX6_numberHere 21 = .ok (.if_icmp .lt 11, 3) := by decide +kernel
theorem dX6_numberHere_24 : decode cX6_numberHere 24 = .ok (.aload_n 0, 1) := by decide +kernel
theorem dX6_numberHere_25 : decode cX6_numberHere 25 = .ok (.getfield 34, 3) := by decide +kernel
theorem dX6_numberHere_28 : decode cX6_numberHere 28 = .ok (.iload_n 2, 1) := by decide +kernel
theorem dX6_numberHere_29 : decode cX6_numberHere 29 = .ok (.if_icmp .le 8, 3) := by decide +kernel
theorem dX6_numberHere_32 : decode cX6_numberHere 32 = .ok (.aload_n 0, 1) := by decide +kernel
theorem dX6_numberHere_33 : decode cX6_numberHere 33 = .ok (.iconst 2, 1) := by decide +kernel
theorem dX6_numberHere_34 : decode cX6_numberHere 34 = .ok (.invokevirtual 64, 3) := by decide +kernel
theorem dX6_numberHere_37 : decode cX6_numberHere 37 = .ok (.aload_n 0, 1) := by decide +kernel
theorem dX6_numberHere_38 : decode cX6_numberHere 38 = .ok (.getfield 19, 3) := by decide +kernel
theorem dX6_numberHere_41 : decode cX6_numberHere 41 = .ok (.ifCond .ne 10, 3) := by decide +kernel
theorem dX6_numberHere_44 : decode cX6_numberHere 44 = .ok (.aload_n 0, 1) := by decide +kernel
theorem dX6_numberHere_45 : decode cX6_numberHere 45 = .ok (.getfield 34, 3) := by decide +kernel
theorem dX6_numberHere_48 : decode cX6_numberHere 48 = .ok (.goto 4, 3) := by decide +kernel
theorem dX6_numberHere_51 : decode cX6_numberHere 51 = .ok (.iconst 0, 1) := by decide +kernel
theorem dX6_numberHere_52 : decode cX6_numberHere 52 = .ok (.ireturn, 1) := by decide +kernel
theorem dX6_isWord_0 : decode cX6_isWord 0 = .ok (.aload_n 0, 1) := by decide +kernel
theorem dX6_isWord_1 : decode cX6_isWord 1 = .ok (.getfield 25, 3) := by decide +kernel
theorem dX6_isWord_4 : decode cX6_isWord 4 = .ok (.iconst 1, 1) := by decide +kernel
theorem dX6_isWord_5 : decode cX6_isWord 5 = .ok (.if_icmp .ne 19, 3) := by decide +kernel
theorem dX6_isWord_8 : decode cX6_isWord 8 = .ok (.aload_n 0, 1) := by decide +kernel
theorem dX6_isWord_9 : decode cX6_isWord 9 = .ok (.getfield 31, 3) := by decide +kernel
theorem dX6_isWord_12 : decode cX6_isWord 12 = .ok (.aload_n 0, 1) := by decide +kernel
theorem dX6_isWord_13 : decode cX6_isWord 13 = .ok (.getfield 28, 3) := by decide +kernel
theorem dX6_isWord_16 : decode cX6_isWord 16 = .ok (.isub, 1) := by decide +kernel
theorem dX6_isWord_17 : decode cX6_isWord 17 = .ok (.aload_n 1, 1) := by decide +kernel
theorem dX6_isWord_18 : decode cX6_isWord 18 = .ok (.invokevirtual 162, 3) := by decide +kernel
theorem dX6_isWord_21 : decode cX6_isWord 21 = .ok (.if_icmp .eq 5, 3) := by decide +kernel
theorem dX6_isWord_24 : decode cX6_isWord 24 = .ok (.iconst 0, 1) := by decide +kernel
theorem dX6_isWord_25 : decode cX6_isWord 25 = .ok (.ireturn, 1) := by decide +kernel
theorem dX6_isWord_26 : decode cX6_isWord 26 = .ok (.iconst 0, 1) := by decide +kernel
theorem dX6_isWord_27 : decode cX6_isWord 27 = .ok (.istore_n 2, 1) := by decide +kernel
theorem dX6_isWord_28 : decode cX6_isWord 28 = .ok (.iload_n 2, 1) := by decide +kernel
theorem dX6_isWord_29 : decode cX6_isWord 29 = .ok (.aload_n 1, 1) := by decide +kernel
theorem dX6_isWord_30 : decode cX6_isWord 30 = .ok (.invokevirtual 162, 3) := by decide +kernel
theorem dX6_isWord_33 : decode cX6_isWord 33 = .ok (.if_icmp .ge 30, 3) := by decide +kernel
theorem dX6_isWord_36 : decode cX6_isWord 36 = .ok (.aload_n 0, 1) := by decide +kernel
theorem dX6_isWord_37 : decode cX6_isWord 37 = .ok (.getfield 9, 3) := by decide +kernel
theorem dX6_isWord_40 : decode cX6_isWord 40 = .ok (.aload_n 0, 1) := by decide +kernel
theorem dX6_isWord_41 : decode cX6_isWord 41 = .ok (.getfield 28, 3) := by decide +kernel
theorem dX6_isWord_44 : decode cX6_isWord 44 = .ok (.iload_n 2, 1) := by decide +kernel
theorem dX6_isWord_45 : decode cX6_isWord 45 = .ok (.iadd, 1) := by decide +kernel
theorem dX6_isWord_46 : decode cX6_isWord 46 = .ok (.baload, 1) := by decide +kernel
theorem dX6_isWord_47 : decode cX6_isWord 47 = .ok (.aload_n 1, 1) := by decide +kernel
theorem dX6_isWord_48 : decode cX6_isWord 48 = .ok (.iload_n 2, 1) := by decide +kernel
theorem dX6_isWord_49 : decode cX6_isWord 49 = .ok (.invokevirtual 168, 3) := by decide +kernel
theorem dX6_isWord_52 : decode cX6_isWord 52 = .ok (.if_icmp .eq 5, 3) := by decide +kernel
theorem dX6_isWord_55 : decode cX6_isWord 55 = .ok (.iconst 0, 1) := by decide +kernel
theorem dX6_isWord_56 : decode cX6_isWord 56 = .ok (.ireturn, 1) := by decide +kernel
theorem dX6_isWord_57 : decode cX6_isWord 57 = .ok (.iinc 2 1, 3) := by decide +kernel
theorem dX6_isWord_60 : decode cX6_isWord 60 = .ok (.goto (-32), 3) := by decide +kernel
theorem dX6_isWord_63 : decode cX6_isWord 63 = .ok (.iconst 1, 1) := by decide +kernel
theorem dX6_isWord_64 : decode cX6_isWord 64 = .ok (.ireturn, 1) := by decide +kernel
theorem dX6_take_0 : decode cX6_take 0 = .ok (.aload_n 0, 1) := by decide +kernel
theorem dX6_take_1 : decode cX6_take 1 = .ok (.getfield 19, 3) := by decide +kernel
theorem dX6_take_4 : decode cX6_take 4 = .ok (.ifCond .eq 4, 3) := by decide +kernel
theorem dX6_take_7 : decode cX6_take 7 = .ok (.return_, 1) := by decide +kernel
theorem dX6_take_8 : decode cX6_take 8 = .ok (.aload_n 0, 1) := by decide +kernel
theorem dX6_take_9 : decode cX6_take 9 = .ok (.getfield 31, 3) := by decide +kernel
theorem dX6_take_12 : decode cX6_take 12 = .ok (.aload_n 0, 1) := by decide +kernel
theorem dX6_take_13 : decode cX6_take 13 = .ok (.getfield 15, 3) := by decide +kernel
theorem dX6_take_16 : decode cX6_take 16 = .ok (.if_icmp .ge 31, 3) := by decide +kernel
theorem dX6_take_19 : decode cX6_take 19 = .ok (.aload_n 0, 1) := by decide +kernel
theorem dX6_take_20 : decode cX6_take 20 = .ok (.getfield 9, 3) := by decide +kernel
theorem dX6_take_23 : decode cX6_take 23 = .ok (.aload_n 0, 1) := by decide +kernel
theorem dX6_take_24 : decode cX6_take 24 = .ok (.getfield 31, 3) := by decide +kernel
theorem dX6_take_27 : decode cX6_take 27 = .ok (.baload, 1) := by decide +kernel
theorem dX6_take_28 : decode cX6_take 28 = .ok (.invokestatic 172, 3) := by decide +kernel
theorem dX6_take_31 : decode cX6_take 31 = .ok (.ifCond .eq 16, 3) := by decide +kernel
theorem dX6_take_34 : decode cX6_take 34 = .ok (.aload_n 0, 1) := by decide +kernel
theorem dX6_take_35 : decode cX6_take 35 = .ok (.dup, 1) := by decide +kernel
theorem dX6_take_36 : decode cX6_take 36 = .ok (.getfield 31, 3) := by decide +kernel
theorem dX6_take_39 : decode cX6_take 39 = .ok (.iconst 1, 1) := by decide +kernel
theorem dX6_take_40 : decode cX6_take 40 = .ok (.iadd, 1) := by decide +kernel
theorem dX6_take_41 : decode cX6_take 41 = .ok (.putfield 31, 3) := by decide +kernel
theorem dX6_take_44 : decode cX6_take 44 = .ok (.goto (-36), 3) := by decide +kernel
theorem dX6_take_47 : decode cX6_take 47 = .ok (.aload_n 0, 1) := by decide +kernel
theorem dX6_take_48 : decode cX6_take 48 = .ok (.aload_n 0, 1) := by decide +kernel
theorem dX6_take_49 : decode cX6_take 49 = .ok (.getfield 31, 3) := by decide +kernel
theorem dX6_take_52 : decode cX6_take 52 = .ok (.putfield 28, 3) := by decide +kernel
theorem dX6_take_55 : decode cX6_take 55 = .ok (.aload_n 0, 1) := by decide +kernel
theorem dX6_take_56 : decode cX6_take 56 = .ok (.iconst 0, 1) := by decide +kernel
theorem dX6_take_57 : decode cX6_take 57 = .ok (.putfield 34, 3) := by decide +kernel
theorem dX6_take_60 : decode cX6_take 60 = .ok (.aload_n 0, 1) := by decide +kernel
theorem dX6_take_61 : decode cX6_take 61 = .ok (.getfield 31, 3) := by decide +kernel
theorem dX6_take_64 : decode cX6_take 64 = .ok (.aload_n 0, 1) := by decide +kernel
theorem dX6_take_65 : decode cX6_take 65 = .ok (.getfield 15, 3) := by decide +kernel
theorem dX6_take_68 : decode cX6_take 68 = .ok (.if_icmp .lt 11, 3) := by decide +kernel
theorem dX6_take_71 : decode cX6_take 71 = .ok (.aload_n 0, 1) := by decide +kernel
theorem dX6_take_72 : decode cX6_take 72 = .ok (.iconst 0, 1) := by decide +kernel
theorem dX6_take_73 : decode cX6_take 73 = .ok (.putfield 25, 3) := by decide +kernel
theorem dX6_take_76 : decode cX6_take 76 = .ok (.goto 183, 3) := by decide +kernel
theorem dX6_take_79 : decode cX6_take 79 = .ok (.aload_n 0, 1) := by decide +kernel
theorem dX6_take_80 : decode cX6_take 80 = .ok (.getfield 9, 3) := by decide +kernel
theorem dX6_take_83 : decode cX6_take 83 = .ok (.aload_n 0, 1) := by decide +kernel
theorem dX6_take_84 : decode cX6_take 84 = .ok (.getfield 31, 3) := by decide +kernel
theorem dX6_take_87 : decode cX6_take 87 = .ok (.baload, 1) := by decide +kernel
theorem dX6_take_88 : decode cX6_take 88 = .ok (.invokestatic 176, 3) := by decide +kernel
theorem dX6_take_91 : decode cX6_take 91 = .ok (.ifCond .eq 47, 3) := by decide +kernel
theorem dX6_take_94 : decode cX6_take 94 = .ok (.aload_n 0, 1) := by decide +kernel
theorem dX6_take_95 : decode cX6_take 95 = .ok (.iconst 1, 1) := by decide +kernel
theorem dX6_take_96 : decode cX6_take 96 = .ok (.putfield 25, 3) := by decide +kernel
theorem dX6_take_99 : decode cX6_take 99 = .ok (.aload_n 0, 1) := by decide +kernel
theorem dX6_take_100 : decode cX6_take 100 = .ok (.getfield 31, 3) := by decide +kernel
theorem dX6_take_103 : decode cX6_take 103 = .ok (.aload_n 0, 1) := by decide +kernel
theorem dX6_take_104 : decode cX6_take 104 = .ok (.getfield 15, 3) := by decide +kernel
theorem dX6_take_107 : decode cX6_take 107 = .ok (.if_icmp .ge 152, 3) := by decide +kernel
theorem dX6_take_110 : decode cX6_take 110 = .ok (.aload_n 0, 1) := by decide +kernel
theorem dX6_take_111 : decode cX6_take 111 = .ok (.getfield 9, 3) := by decide +kernel
theorem dX6_take_114 : decode cX6_take 114 = .ok (.aload_n 0, 1) := by decide +kernel
theorem dX6_take_115 : decode cX6_take 115 = .ok (.getfield 31, 3) := by decide +kernel
theorem dX6_take_118 : decode cX6_take 118 = .ok (.baload, 1) := by decide +kernel
theorem dX6_take_119 : decode cX6_take 119 = .ok (.invokestatic 176, 3) := by decide +kernel
theorem dX6_take_122 : decode cX6_take 122 = .ok (.ifCond .eq 137, 3) := by decide +kernel
theorem dX6_take_125 : decode cX6_take 125 = .ok (.aload_n 0, 1) := by decide +kernel
theorem dX6_take_126 : decode cX6_take 126 = .ok (.dup, 1) := by decide +kernel
theorem dX6_take_127 : decode cX6_take 127 = .ok (.getfield 31, 3) := by decide +kernel
theorem dX6_take_130 : decode cX6_take 130 = .ok (.iconst 1, 1) := by decide +kernel
theorem dX6_take_131 : decode cX6_take 131 = .ok (.iadd, 1) := by decide +kernel
theorem dX6_take_132 : decode cX6_take 132 = .ok (.putfield 31, 3) := by decide +kernel
theorem dX6_take_135 : decode cX6_take 135 = .ok (.goto (-36), 3) := by decide +kernel
theorem dX6_take_138 : decode cX6_take 138 = .ok (.aload_n 0, 1) := by decide +kernel
theorem dX6_take_139 : decode cX6_take 139 = .ok (.getfield 9, 3) := by decide +kernel
theorem dX6_take_142 : decode cX6_take 142 = .ok (.aload_n 0, 1) := by decide +kernel
theorem dX6_take_143 : decode cX6_take 143 = .ok (.getfield 31, 3) := by decide +kernel
theorem dX6_take_146 : decode cX6_take 146 = .ok (.baload, 1) := by decide +kernel
theorem dX6_take_147 : decode cX6_take 147 = .ok (.invokestatic 179, 3) := by decide +kernel
theorem dX6_take_150 : decode cX6_take 150 = .ok (.ifCond .eq 76, 3) := by decide +kernel
theorem dX6_take_153 : decode cX6_take 153 = .ok (.aload_n 0, 1) := by decide +kernel
theorem dX6_take_154 : decode cX6_take 154 = .ok (.iconst 2, 1) := by decide +kernel
theorem dX6_take_155 : decode cX6_take 155 = .ok (.putfield 25, 3) := by decide +kernel
theorem dX6_take_158 : decode cX6_take 158 = .ok (.aload_n 0, 1) := by decide +kernel
theorem dX6_take_159 : decode cX6_take 159 = .ok (.getfield 31, 3) := by decide +kernel
theorem dX6_take_162 : decode cX6_take 162 = .ok (.aload_n 0, 1) := by decide +kernel
theorem dX6_take_163 : decode cX6_take 163 = .ok (.getfield 15, 3) := by decide +kernel
theorem dX6_take_166 : decode cX6_take 166 = .ok (.if_icmp .ge 93, 3) := by decide +kernel
theorem dX6_take_169 : decode cX6_take 169 = .ok (.aload_n 0, 1) := by decide +kernel
theorem dX6_take_170 : decode cX6_take 170 = .ok (.getfield 9, 3) := by decide +kernel
theorem dX6_take_173 : decode cX6_take 173 = .ok (.aload_n 0, 1) := by decide +kernel
theorem dX6_take_174 : decode cX6_take 174 = .ok (.getfield 31, 3) := by decide +kernel
theorem dX6_take_177 : decode cX6_take 177 = .ok (.baload, 1) := by decide +kernel
theorem dX6_take_178 : decode cX6_take 178 = .ok (.invokestatic 179, 3) := by decide +kernel
theorem dX6_take_181 : decode cX6_take 181 = .ok (.ifCond .eq 78, 3) := by decide +kernel
theorem dX6_take_184 : decode cX6_take 184 = .ok (.aload_n 0, 1) := by decide +kernel
theorem dX6_take_185 : decode cX6_take 185 = .ok (.ldc 182, 2) := by decide +kernel
theorem dX6_take_187 : decode cX6_take 187 = .ok (.aload_n 0, 1) := by decide +kernel
theorem dX6_take_188 : decode cX6_take 188 = .ok (.getfield 34, 3) := by decide +kernel
theorem dX6_take_191 : decode cX6_take 191 = .ok (.bipush 10, 2) := by decide +kernel
theorem dX6_take_193 : decode cX6_take 193 = .ok (.imul, 1) := by decide +kernel
theorem dX6_take_194 : decode cX6_take 194 = .ok (.aload_n 0, 1) := by decide +kernel
theorem dX6_take_195 : decode cX6_take 195 = .ok (.getfield 9, 3) := by decide +kernel
theorem dX6_take_198 : decode cX6_take 198 = .ok (.aload_n 0, 1) := by decide +kernel
theorem dX6_take_199 : decode cX6_take 199 = .ok (.getfield 31, 3) := by decide +kernel
theorem dX6_take_202 : decode cX6_take 202 = .ok (.baload, 1) := by decide +kernel
theorem dX6_take_203 : decode cX6_take 203 = .ok (.iadd, 1) := by decide +kernel
theorem dX6_take_204 : decode cX6_take 204 = .ok (.bipush 48, 2) := by decide +kernel
theorem dX6_take_206 : decode cX6_take 206 = .ok (.isub, 1) := by decide +kernel
theorem dX6_take_207 : decode cX6_take 207 = .ok (.invokestatic 183, 3) := by decide +kernel
theorem dX6_take_210 : decode cX6_take 210 = .ok (.putfield 34, 3) := by decide +kernel
theorem dX6_take_213 : decode cX6_take 213 = .ok (.aload_n 0, 1) := by decide +kernel
theorem dX6_take_214 : decode cX6_take 214 = .ok (.dup, 1) := by decide +kernel
theorem dX6_take_215 : decode cX6_take 215 = .ok (.getfield 31, 3) := by decide +kernel
theorem dX6_take_218 : decode cX6_take 218 = .ok (.iconst 1, 1) := by decide +kernel
theorem dX6_take_219 : decode cX6_take 219 = .ok (.iadd, 1) := by decide +kernel
theorem dX6_take_220 : decode cX6_take 220 = .ok (.putfield 31, 3) := by decide +kernel
theorem dX6_take_223 : decode cX6_take 223 = .ok (.goto (-65), 3) := by decide +kernel
theorem dX6_take_226 : decode cX6_take 226 = .ok (.aload_n 0, 1) := by decide +kernel
theorem dX6_take_227 : decode cX6_take 227 = .ok (.aload_n 0, 1) := by decide +kernel
theorem dX6_take_228 : decode cX6_take 228 = .ok (.getfield 9, 3) := by decide +kernel
theorem dX6_take_231 : decode cX6_take 231 = .ok (.aload_n 0, 1) := by decide +kernel
theorem dX6_take_232 : decode cX6_take 232 = .ok (.getfield 31, 3) := by decide +kernel
theorem dX6_take_235 : decode cX6_take 235 = .ok (.baload, 1) := by decide +kernel
theorem dX6_take_236 : decode cX6_take 236 = .ok (.bipush 59, 2) := by decide +kernel
theorem dX6_take_238 : decode cX6_take 238 = .ok (.if_icmp .ne 7, 3) := by decide +kernel
theorem dX6_take_241 : decode cX6_take 241 = .ok (.iconst 3, 1) := by decide +kernel
theorem dX6_take_242 : decode cX6_take 242 = .ok (.goto 4, 3) := by decide +kernel
theorem dX6_take_245 : decode cX6_take 245 = .ok (.iconst 4, 1) := by decide +kernel
theorem dX6_take_246 : decode cX6_take 246 = .ok (.putfield 25, 3) := by decide +kernel
theorem dX6_take_249 : decode cX6_take 249 = .ok (.aload_n 0, 1) := by decide +kernel
theorem dX6_take_250 : decode cX6_take 250 = .ok (.dup, 1) := by decide +kernel
theorem dX6_take_251 : decode cX6_take 251 = .ok (.getfield 31, 3) := by decide +kernel
theorem dX6_take_254 : decode cX6_take 254 = .ok (.iconst 1, 1) := by decide +kernel
theorem dX6_take_255 : decode cX6_take 255 = .ok (.iadd, 1) := by decide +kernel
theorem dX6_take_256 : decode cX6_take 256 = .ok (.putfield 31, 3) := by decide +kernel
theorem dX6_take_259 : decode cX6_take 259 = .ok (.return_, 1) := by decide +kernel
theorem dX6_isBlank_0 : decode cX6_isBlank 0 = .ok (.iload_n 0, 1) := by decide +kernel
theorem dX6_isBlank_1 : decode cX6_isBlank 1 = .ok (.bipush 32, 2) := by decide +kernel
theorem dX6_isBlank_3 : decode cX6_isBlank 3 = .ok (.if_icmp .eq 9, 3) := by decide +kernel
theorem dX6_isBlank_6 : decode cX6_isBlank 6 = .ok (.iload_n 0, 1) := by decide +kernel
theorem dX6_isBlank_7 : decode cX6_isBlank 7 = .ok (.bipush 10, 2) := by decide +kernel
theorem dX6_isBlank_9 : decode cX6_isBlank 9 = .ok (.if_icmp .ne 7, 3) := by decide +kernel
theorem dX6_isBlank_12 : decode cX6_isBlank 12 = .ok (.iconst 1, 1) := by decide +kernel
theorem dX6_isBlank_13 : decode cX6_isBlank 13 = .ok (.goto 4, 3) := by decide +kernel
theorem dX6_isBlank_16 : decode cX6_isBlank 16 = .ok (.iconst 0, 1) := by decide +kernel
theorem dX6_isBlank_17 : decode cX6_isBlank 17 = .ok (.ireturn, 1) := by decide +kernel
theorem dX6_isLetter_0 : decode cX6_isLetter 0 = .ok (.iload_n 0, 1) := by decide +kernel
theorem dX6_isLetter_1 : decode cX6_isLetter 1 = .ok (.bipush 97, 2) := by decide +kernel
theorem dX6_isLetter_3 : decode cX6_isLetter 3 = .ok (.if_icmp .lt 13, 3) := by decide +kernel
theorem dX6_isLetter_6 : decode cX6_isLetter 6 = .ok (.iload_n 0, 1) := by decide +kernel
theorem dX6_isLetter_7 : decode cX6_isLetter 7 = .ok (.bipush 122, 2) := by decide +kernel
theorem dX6_isLetter_9 : decode cX6_isLetter 9 = .ok (.if_icmp .gt 7, 3) := by decide +kernel
theorem dX6_isLetter_12 : decode cX6_isLetter 12 = .ok (.iconst 1, 1) := by decide +kernel
theorem dX6_isLetter_13 : decode cX6_isLetter 13 = .ok (.goto 4, 3) := by decide +kernel
theorem dX6_isLetter_16 : decode cX6_isLetter 16 = .ok (.iconst 0, 1) := by decide +kernel
theorem dX6_isLetter_17 : decode cX6_isLetter 17 = .ok (.ireturn, 1) := by decide +kernel
theorem dX6_isDigit_0 : decode cX6_isDigit 0 = .ok (.iload_n 0, 1) := by decide +kernel
theorem dX6_isDigit_1 : decode cX6_isDigit 1 = .ok (.bipush 48, 2) := by decide +kernel
theorem dX6_isDigit_3 : decode cX6_isDigit 3 = .ok (.if_icmp .lt 13, 3) := by decide +kernel
theorem dX6_isDigit_6 : decode cX6_isDigit 6 = .ok (.iload_n 0, 1) := by decide +kernel
theorem dX6_isDigit_7 : decode cX6_isDigit 7 = .ok (.bipush 57, 2) := by decide +kernel
theorem dX6_isDigit_9 : decode cX6_isDigit 9 = .ok (.if_icmp .gt 7, 3) := by decide +kernel
theorem dX6_isDigit_12 : decode cX6_isDigit 12 = .ok (.iconst 1, 1) := by decide +kernel
theorem dX6_isDigit_13 : decode cX6_isDigit 13 = .ok (.goto 4, 3) := by decide +kernel
theorem dX6_isDigit_16 : decode cX6_isDigit 16 = .ok (.iconst 0, 1) := by decide +kernel
theorem dX6_isDigit_17 : decode cX6_isDigit 17 = .ok (.ireturn, 1) := by decide +kernel
theorem dJ0_length_8abf5_0 : decode cJ0_length_8abf5 0 = .ok (.aload_n 0, 1) := by decide +kernel
theorem dJ0_length_8abf5_1 : decode cJ0_length_8abf5 1 = .ok (.getfield 9, 3) := by decide +kernel
theorem dJ0_length_8abf5_4 : decode cJ0_length_8abf5 4 = .ok (.arraylength, 1) := by decide +kernel
theorem dJ0_length_8abf5_5 : decode cJ0_length_8abf5 5 = .ok (.aload_n 0, 1) := by decide +kernel
theorem dJ0_length_8abf5_6 : decode cJ0_length_8abf5 6 = .ok (.invokevirtual 335, 3) := by decide +kernel
theorem dJ0_length_8abf5_9 : decode cJ0_length_8abf5 9 = .ok (.ishr, 1) := by decide +kernel
theorem dJ0_length_8abf5_10 : decode cJ0_length_8abf5 10 = .ok (.ireturn, 1) := by decide +kernel
theorem dJ0_charAt_5068e_0 : decode cJ0_charAt_5068e 0 = .ok (.aload_n 0, 1) := by decide +kernel
theorem dJ0_charAt_5068e_1 : decode cJ0_charAt_5068e 1 = .ok (.invokevirtual 492, 3) := by decide +kernel
theorem dJ0_charAt_5068e_4 : decode cJ0_charAt_5068e 4 = .ok (.ifCond .eq 12, 3) := by decide +kernel
theorem dJ0_charAt_5068e_7 : decode cJ0_charAt_5068e 7 = .ok (.aload_n 0, 1) := by decide +kernel
theorem dJ0_charAt_5068e_8 : decode cJ0_charAt_5068e 8 = .ok (.getfield 9, 3) := by decide +kernel
theorem dJ0_charAt_5068e_11 : decode cJ0_charAt_5068e 11 = .ok (.iload_n 1, 1) := by decide +kernel
theorem dJ0_charAt_5068e_12 : decode cJ0_charAt_5068e 12 = .ok (.invokestatic 495, 3) := by decide +kernel
theorem dJ0_charAt_5068e_15 : decode cJ0_charAt_5068e 15 = .ok (.ireturn, 1) := by decide +kernel
theorem dJ0_coder_7d493_0 : decode cJ0_coder_7d493 0 = .ok (.getstatic 38, 3) := by decide +kernel
theorem dJ0_coder_7d493_3 : decode cJ0_coder_7d493 3 = .ok (.ifCond .eq 10, 3) := by decide +kernel
theorem dJ0_coder_7d493_6 : decode cJ0_coder_7d493 6 = .ok (.aload_n 0, 1) := by decide +kernel
theorem dJ0_coder_7d493_7 : decode cJ0_coder_7d493 7 = .ok (.getfield 15, 3) := by decide +kernel
theorem dJ0_coder_7d493_10 : decode cJ0_coder_7d493 10 = .ok (.goto 4, 3) := by decide +kernel
theorem dJ0_coder_7d493_14 : decode cJ0_coder_7d493 14 = .ok (.ireturn, 1) := by decide +kernel
theorem dJ0_isLatin1_aae02_0 : decode cJ0_isLatin1_aae02 0 = .ok (.getstatic 38, 3) := by decide +kernel
theorem dJ0_isLatin1_aae02_3 : decode cJ0_isLatin1_aae02 3 = .ok (.ifCond .eq 14, 3) := by decide +kernel
theorem dJ0_isLatin1_aae02_6 : decode cJ0_isLatin1_aae02 6 = .ok (.aload_n 0, 1) := by decide +kernel
theorem dJ0_isLatin1_aae02_7 : decode cJ0_isLatin1_aae02 7 = .ok (.getfield 15, 3) := by decide +kernel
theorem dJ0_isLatin1_aae02_10 : decode cJ0_isLatin1_aae02 10 = .ok (.ifCond .ne 7, 3) := by decide +kernel
theorem dJ0_isLatin1_aae02_13 : decode cJ0_isLatin1_aae02 13 = .ok (.iconst 1, 1) := by decide +kernel
theorem dJ0_isLatin1_aae02_14 : decode cJ0_isLatin1_aae02 14 = .ok (.goto 4, 3) := by decide +kernel
theorem dJ0_isLatin1_aae02_18 : decode cJ0_isLatin1_aae02 18 = .ok (.ireturn, 1) := by decide +kernel
theorem dJ0_checkIndex_df160_0 : decode cJ0_checkIndex_df160 0 = .ok (.iload_n 0, 1) := by decide +kernel
theorem dJ0_checkIndex_df160_1 : decode cJ0_checkIndex_df160 1 = .ok (.iload_n 1, 1) := by decide +kernel
theorem dJ0_checkIndex_df160_2 : decode cJ0_checkIndex_df160 2 = .ok (.getstatic 1053, 3) := by decide +kernel
theorem dJ0_checkIndex_df160_5 : decode cJ0_checkIndex_df160 5 = .ok (.invokestatic 1059, 3) := by decide +kernel
theorem dJ0_checkIndex_df160_8 : decode cJ0_checkIndex_df160 8 = .ok (.pop, 1) := by decide +kernel
theorem dJ0_checkIndex_df160_9 : decode cJ0_checkIndex_df160 9 = .ok (.return_, 1) := by decide +kernel
theorem dJ1_charAt_3b067_0 : decode cJ1_charAt_3b067 0 = .ok (.iload_n 1, 1) := by decide +kernel
theorem dJ1_charAt_3b067_1 : decode cJ1_charAt_3b067 1 = .ok (.aload_n 0, 1) := by decide +kernel
theorem dJ1_charAt_3b067_2 : decode cJ1_charAt_3b067 2 = .ok (.arraylength, 1) := by decide +kernel
theorem dJ1_charAt_3b067_3 : decode cJ1_charAt_3b067 3 = .ok (.invokestatic 9, 3) := by decide +kernel
theorem dJ1_charAt_3b067_6 : decode cJ1_charAt_3b067 6 = .ok (.aload_n 0, 1) := by decide +kernel
theorem dJ1_charAt_3b067_7 : decode cJ1_charAt_3b067 7 = .ok (.iload_n 1, 1) := by decide +kernel
theorem dJ1_charAt_3b067_8 : decode cJ1_charAt_3b067 8 = .ok (.baload, 1) := by decide +kernel
theorem dJ1_charAt_3b067_9 : decode cJ1_charAt_3b067 9 = .ok (.sipush 255, 3) := by decide +kernel
theorem dJ1_charAt_3b067_12 : decode cJ1_charAt_3b067 12 = .ok (.iand, 1) := by decide +kernel
theorem dJ1_charAt_3b067_13 : decode cJ1_charAt_3b067 13 = .ok (.i2c, 1) := by decide +kernel
theorem dJ1_charAt_3b067_14 : decode cJ1_charAt_3b067 14 = .ok (.ireturn, 1) := by decide +kernel
theorem dJ3_checkIndex_8e157_0 : decode cJ3_checkIndex_8e157 0 = .ok (.iload_n 0, 1) := by decide +kernel
theorem dJ3_checkIndex_8e157_1 : decode cJ3_checkIndex_8e157 1 = .ok (.ifCond .lt 8, 3) := by decide +kernel
theorem dJ3_checkIndex_8e157_4 : decode cJ3_checkIndex_8e157 4 = .ok (.iload_n 0, 1) := by decide +kernel
theorem dJ3_checkIndex_8e157_5 : decode cJ3_checkIndex_8e157 5 = .ok (.iload_n 1, 1) := by decide +kernel
theorem dJ3_checkIndex_8e157_6 : decode cJ3_checkIndex_8e157 6 = .ok (.if_icmp .lt 10, 3) := by decide +kernel
theorem dJ3_checkIndex_8e157_16 : decode cJ3_checkIndex_8e157 16 = .ok (.iload_n 0, 1) := by decide +kernel
theorem dJ3_checkIndex_8e157_17 : decode cJ3_checkIndex_8e157 17 = .ok (.ireturn, 1) := by decide +kernel
theorem wd351 : Cond.fieldLink RJ0 38 RJ0 "COMPACT_STRINGS" "Z" ∈ tblG := gw2 127 (by decide +kernel) (by decide +kernel)
theorem wd352 : Cond.fieldLink RJ0 15 RJ0 "coder" "B" ∈ tblG := gw9 120 (by decide +kernel) (by decide +kernel)
theorem wd353 : Cond.fieldLink RJ0 9 RJ0 "value" "[B" ∈ tblG := gw9 119 (by decide +kernel) (by decide +kernel)
theorem wd354 : Cond.methodLink RJ0 335 yJ0_coder_7d493 ∈ tblG := gw2 123 (by decide +kernel) (by decide +kernel)
theorem wd355 : Cond.instanceMethod yJ0_coder_7d493 ∈ tblG := gw2 124 (by decide +kernel) (by decide +kernel)
theorem wd356 : Cond.selects RJ0 yJ0_coder_7d493 yJ0_coder_7d493 ∈ tblG := gw2 125 (by decide +kernel) (by decide +kernel)
theorem wd357 : Cond.initialized RJ0 ∈ tblG := gw1 11 (by decide +kernel) (by decide +kernel)
theorem wd358 : Cond.code yJ0_coder_7d493 cJ0_coder_7d493 1 (some .byte) ∈ tblG := gw2 126 (by decide +kernel) (by decide +kernel)
theorem pl_J0_coder_7d493 : Plain yJ0_coder_7d493 0 := ⟨by decide, by decide, by decide +kernel⟩
theorem wd359 : Cond.fieldLink RJ0 1053 RJ3 "SIOOBE_FORMATTER" "Ljava/util/function/BiFunction;" ∈ tblG := gw2 143 (by decide +kernel) (by decide +kernel)
theorem wd360 : Cond.methodLink RJ0 1059 yJ3_checkIndex_8e157 ∈ tblG := gw2 145 (by decide +kernel) (by decide +kernel)
theorem wd361 : Cond.static yJ3_checkIndex_8e157 ∈ tblG := gw2 146 (by decide +kernel) (by decide +kernel)
theorem wd362 : Cond.initialized RJ3 ∈ tblG := gw1 13 (by decide +kernel) (by decide +kernel)
theorem wd363 : Cond.code yJ3_checkIndex_8e157 cJ3_checkIndex_8e157 3 (some .int) ∈ tblG := gw2 147 (by decide +kernel) (by decide +kernel)
theorem pl_J3_checkIndex_8e157 : Plain yJ3_checkIndex_8e157 3 := ⟨by decide, by decide, by decide +kernel⟩
theorem lk_J0_1059 : LkS RJ0 1059 yJ3_checkIndex_8e157 cJ3_checkIndex_8e157 3 (some .int) 3 := ⟨wd360, wd361, wd362, wd363, pl_J3_checkIndex_8e157⟩
theorem wd364 : Cond.methodLink RJ1 9 yJ0_checkIndex_df160 ∈ tblG := gw2 140 (by decide +kernel) (by decide +kernel)
theorem wd365 : Cond.static yJ0_checkIndex_df160 ∈ tblG := gw2 141 (by decide +kernel) (by decide +kernel)
theorem wd366 : Cond.code yJ0_checkIndex_df160 cJ0_checkIndex_df160 2 none ∈ tblG := gw2 142 (by decide +kernel) (by decide +kernel)
theorem pl_J0_checkIndex_df160 : Plain yJ0_checkIndex_df160 2 := ⟨by decide, by decide, by decide +kernel⟩
theorem lk_J1_9 : LkS RJ1 9 yJ0_checkIndex_df160 cJ0_checkIndex_df160 2 none 2 := ⟨wd364, wd365, wd357, wd366, pl_J0_checkIndex_df160⟩
theorem wd367 : Cond.methodLink RJ0 492 yJ0_isLatin1_aae02 ∈ tblG := gw2 133 (by decide +kernel) (by decide +kernel)
theorem wd368 : Cond.instanceMethod yJ0_isLatin1_aae02 ∈ tblG := gw2 134 (by decide +kernel) (by decide +kernel)
theorem wd369 : Cond.selects RJ0 yJ0_isLatin1_aae02 yJ0_isLatin1_aae02 ∈ tblG := gw2 135 (by decide +kernel) (by decide +kernel)
theorem wd370 : Cond.code yJ0_isLatin1_aae02 cJ0_isLatin1_aae02 1 (some .boolean) ∈ tblG := gw2 136 (by decide +kernel) (by decide +kernel)
theorem pl_J0_isLatin1_aae02 : Plain yJ0_isLatin1_aae02 0 := ⟨by decide, by decide, by decide +kernel⟩
theorem wd371 : Cond.methodLink RJ0 495 yJ1_charAt_3b067 ∈ tblG := gw2 137 (by decide +kernel) (by decide +kernel)
theorem wd372 : Cond.static yJ1_charAt_3b067 ∈ tblG := gw2 138 (by decide +kernel) (by decide +kernel)
theorem wd373 : Cond.initialized RJ1 ∈ tblG := gw1 12 (by decide +kernel) (by decide +kernel)
theorem wd374 : Cond.code yJ1_charAt_3b067 cJ1_charAt_3b067 2 (some .char) ∈ tblG := gw2 139 (by decide +kernel) (by decide +kernel)
theorem pl_J1_charAt_3b067 : Plain yJ1_charAt_3b067 2 := ⟨by decide, by decide, by decide +kernel⟩
theorem lk_J0_495 : LkS RJ0 495 yJ1_charAt_3b067 cJ1_charAt_3b067 2 (some .char) 2 := ⟨wd371, wd372, wd373, wd374, pl_J1_charAt_3b067⟩
theorem wd375 : Cond.fieldLink RX6 15 RX6 "size" "I" ∈ tblG := gw1 33 (by decide +kernel) (by decide +kernel)
theorem fk_X6_15 : FLk RX6 15 6 1 (.int) false := ⟨RX6, TX6, 8, tyX6, clX6, by decide, rfl, rfl, rfl, Or.inl wd375⟩
theorem wd376 : Cond.fieldLink RX6 9 RX6 "bytes" "[B" ∈ tblG := gw1 32 (by decide +kernel) (by decide +kernel)
theorem fk_X6_9 : FLk RX6 9 6 0 (.array .byte) true := ⟨RX6, TX6, 8, tyX6, clX6, by decide, rfl, rfl, rfl, Or.inl wd376⟩
theorem wd377 : Cond.fieldLink RX6 19 RX6 "fault" "I" ∈ tblG := gw1 35 (by decide +kernel) (by decide +kernel)
theorem fk_X6_19 : FLk RX6 19 6 2 (.int) false := ⟨RX6, TX6, 8, tyX6, clX6, by decide, rfl, rfl, rfl, Or.inl wd377⟩
theorem wd378 : Cond.fieldLink RX6 28 RX6 "start" "I" ∈ tblG := gw1 40 (by decide +kernel) (by decide +kernel)
theorem fk_X6_28 : FLk RX6 28 6 5 (.int) false := ⟨RX6, TX6, 8, tyX6, clX6, by decide, rfl, rfl, rfl, Or.inl wd378⟩
theorem wd379 : Cond.fieldLink RX6 22 RX6 "faultPlace" "I" ∈ tblG := gw1 37 (by decide +kernel) (by decide +kernel)
theorem fk_X6_22 : FLk RX6 22 6 3 (.int) false := ⟨RX6, TX6, 8, tyX6, clX6, by decide, rfl, rfl, rfl, Or.inl wd379⟩
theorem wd380 : Cond.fieldLink RX6 31 RX6 "next" "I" ∈ tblG := gw1 41 (by decide +kernel) (by decide +kernel)
theorem fk_X6_31 : FLk RX6 31 6 6 (.int) false := ⟨RX6, TX6, 8, tyX6, clX6, by decide, rfl, rfl, rfl, Or.inl wd380⟩
theorem wd381 : Cond.fieldLink RX6 34 RX6 "value" "I" ∈ tblG := gw1 42 (by decide +kernel) (by decide +kernel)
theorem fk_X6_34 : FLk RX6 34 6 7 (.int) false := ⟨RX6, TX6, 8, tyX6, clX6, by decide, rfl, rfl, rfl, Or.inl wd381⟩
theorem wd382 : Cond.methodLink RX6 176 yX6_isLetter ∈ tblG := gw2 100 (by decide +kernel) (by decide +kernel)
theorem wd383 : Cond.static yX6_isLetter ∈ tblG := gw2 101 (by decide +kernel) (by decide +kernel)
theorem wd384 : Cond.initialized RX6 ∈ tblG := gw1 2 (by decide +kernel) (by decide +kernel)
theorem wd385 : Cond.code yX6_isLetter cX6_isLetter 1 (some .boolean) ∈ tblG := gw2 102 (by decide +kernel) (by decide +kernel)
theorem pl_X6_isLetter : Plain yX6_isLetter 1 := ⟨by decide, by decide, by decide +kernel⟩
theorem lk_X6_176 : LkS RX6 176 yX6_isLetter cX6_isLetter 1 (some .boolean) 1 := ⟨wd382, wd383, wd384, wd385, pl_X6_isLetter⟩
theorem wd386 : Cond.methodLink RX6 179 yX6_isDigit ∈ tblG := gw2 103 (by decide +kernel) (by decide +kernel)
theorem wd387 : Cond.static yX6_isDigit ∈ tblG := gw2 104 (by decide +kernel) (by decide +kernel)
theorem wd388 : Cond.code yX6_isDigit cX6_isDigit 1 (some .boolean) ∈ tblG := gw2 105 (by decide +kernel) (by decide +kernel)
theorem pl_X6_isDigit : Plain yX6_isDigit 1 := ⟨by decide, by decide, by decide +kernel⟩
theorem lk_X6_179 : LkS RX6 179 yX6_isDigit cX6_isDigit 1 (some .boolean) 1 := ⟨wd386, wd387, wd384, wd388, pl_X6_isDigit⟩
theorem wd389 : Cond.fieldLink RX6 25 RX6 "kind" "I" ∈ tblG := gw1 39 (by decide +kernel) (by decide +kernel)
theorem fk_X6_25 : FLk RX6 25 6 4 (.int) false := ⟨RX6, TX6, 8, tyX6, clX6, by decide, rfl, rfl, rfl, Or.inl wd389⟩
theorem wd390 : Cond.constant RX6 182 (1000000) ∈ tblG := gw2 106 (by decide +kernel) (by decide +kernel)
theorem wd391 : Cond.methodLink RX6 183 yJ9_min_7cf53 ∈ tblG := gw2 107 (by decide +kernel) (by decide +kernel)
theorem wd392 : Cond.static yJ9_min_7cf53 ∈ tblG := gw2 108 (by decide +kernel) (by decide +kernel)
theorem wd393 : Cond.code yJ9_min_7cf53 cJ9_min_7cf53 2 (some .int) ∈ tblG := gw2 109 (by decide +kernel) (by decide +kernel)
theorem wd394 : Cond.methodLink RX6 172 yX6_isBlank ∈ tblG := gw2 97 (by decide +kernel) (by decide +kernel)
theorem wd395 : Cond.static yX6_isBlank ∈ tblG := gw2 98 (by decide +kernel) (by decide +kernel)
theorem wd396 : Cond.code yX6_isBlank cX6_isBlank 1 (some .boolean) ∈ tblG := gw2 99 (by decide +kernel) (by decide +kernel)
theorem pl_X6_isBlank : Plain yX6_isBlank 1 := ⟨by decide, by decide, by decide +kernel⟩
theorem lk_X6_172 : LkS RX6 172 yX6_isBlank cX6_isBlank 1 (some .boolean) 1 := ⟨wd394, wd395, wd384, wd396, pl_X6_isBlank⟩
theorem wd397 : Cond.methodLink RX6 64 yX6_fail ∈ tblG := gw2 176 (by decide +kernel) (by decide +kernel)
theorem wd398 : Cond.instanceMethod yX6_fail ∈ tblG := gw2 178 (by decide +kernel) (by decide +kernel)
theorem wd399 : Cond.selects RX6 yX6_fail yX6_fail ∈ tblG := gw0 5 (by decide +kernel) (by decide +kernel)
theorem wd400 : Cond.code yX6_fail cX6_fail 2 none ∈ tblG := gw2 179 (by decide +kernel) (by decide +kernel)
theorem pl_X6_fail : Plain yX6_fail 1 := ⟨by decide, by decide, by decide +kernel⟩
theorem lk_X6_64 : LkV RX6 64 6 yX6_fail cX6_fail 2 none 1 := ⟨⟨TX6, 8, rfl⟩, wd397, wd398, wd399, wd384, wd400, pl_X6_fail⟩
theorem wd401 : Cond.methodLink RX6 132 yX6_numberHere ∈ tblG := gw2 184 (by decide +kernel) (by decide +kernel)
theorem wd402 : Cond.instanceMethod yX6_numberHere ∈ tblG := gw2 186 (by decide +kernel) (by decide +kernel)
theorem wd403 : Cond.selects RX6 yX6_numberHere yX6_numberHere ∈ tblG := gw0 7 (by decide +kernel) (by decide +kernel)
theorem wd404 : Cond.code yX6_numberHere cX6_numberHere 3 (some .int) ∈ tblG := gw2 187 (by decide +kernel) (by decide +kernel)
theorem pl_X6_numberHere : Plain yX6_numberHere 2 := ⟨by decide, by decide, by decide +kernel⟩
theorem lk_X6_132 : LkV RX6 132 6 yX6_numberHere cX6_numberHere 3 (some .int) 2 := ⟨⟨TX6, 8, rfl⟩, wd401, wd402, wd403, wd384, wd404, pl_X6_numberHere⟩
theorem wd405 : Cond.methodLink RX6 42 yX6_take ∈ tblG := gw2 93 (by decide +kernel) (by decide +kernel)
theorem wd406 : Cond.instanceMethod yX6_take ∈ tblG := gw2 95 (by decide +kernel) (by decide +kernel)
theorem wd407 : Cond.selects RX6 yX6_take yX6_take ∈ tblG := gw0 0 (by decide +kernel) (by decide +kernel)
theorem wd408 : Cond.code yX6_take cX6_take 1 none ∈ tblG := gw2 96 (by decide +kernel) (by decide +kernel)
theorem pl_X6_take : Plain yX6_take 0 := ⟨by decide, by decide, by decide +kernel⟩
theorem lk_X6_42 : LkV RX6 42 6 yX6_take cX6_take 1 none 0 := ⟨⟨TX6, 8, rfl⟩, wd405, wd406, wd407, wd384, wd408, pl_X6_take⟩
theorem wd409 : Cond.methodLink RX6 162 yJ0_length_8abf5 ∈ tblG := gw2 119 (by decide +kernel) (by decide +kernel)
theorem wd410 : Cond.instanceMethod yJ0_length_8abf5 ∈ tblG := gw2 120 (by decide +kernel) (by decide +kernel)
theorem wd411 : Cond.selects RJ0 yJ0_length_8abf5 yJ0_length_8abf5 ∈ tblG := gw2 121 (by decide +kernel) (by decide +kernel)
theorem wd412 : Cond.code yJ0_length_8abf5 cJ0_length_8abf5 1 (some .int) ∈ tblG := gw2 122 (by decide +kernel) (by decide +kernel)
theorem pl_J0_length_8abf5 : Plain yJ0_length_8abf5 0 := ⟨by decide, by decide, by decide +kernel⟩
theorem wd413 : Cond.methodLink RX6 168 yJ0_charAt_5068e ∈ tblG := gw2 129 (by decide +kernel) (by decide +kernel)
theorem wd414 : Cond.instanceMethod yJ0_charAt_5068e ∈ tblG := gw2 130 (by decide +kernel) (by decide +kernel)
theorem wd415 : Cond.selects RJ0 yJ0_charAt_5068e yJ0_charAt_5068e ∈ tblG := gw2 131 (by decide +kernel) (by decide +kernel)
theorem wd416 : Cond.code yJ0_charAt_5068e cJ0_charAt_5068e 2 (some .char) ∈ tblG := gw2 132 (by decide +kernel) (by decide +kernel)
theorem pl_J0_charAt_5068e : Plain yJ0_charAt_5068e 1 := ⟨by decide, by decide, by decide +kernel⟩
theorem wd417 : Cond.methodLink RX6 57 yX6_isWord ∈ tblG := gw2 115 (by decide +kernel) (by decide +kernel)
theorem wd418 : Cond.instanceMethod yX6_isWord ∈ tblG := gw2 117 (by decide +kernel) (by decide +kernel)
theorem wd419 : Cond.selects RX6 yX6_isWord yX6_isWord ∈ tblG := gw0 2 (by decide +kernel) (by decide +kernel)
theorem wd420 : Cond.code yX6_isWord cX6_isWord 3 (some .boolean) ∈ tblG := gw2 118 (by decide +kernel) (by decide +kernel)
theorem pl_X6_isWord : Plain yX6_isWord 1 := ⟨by decide, by decide, by decide +kernel⟩
theorem lk_X6_57 : LkV RX6 57 6 yX6_isWord cX6_isWord 3 (some .boolean) 1 := ⟨⟨TX6, 8, rfl⟩, wd417, wd418, wd419, wd384, wd420, pl_X6_isWord⟩
theorem wd421 : Cond.methodLink RX6 95 yX6_takeWord ∈ tblG := gw2 172 (by decide +kernel) (by decide +kernel)
theorem wd422 : Cond.instanceMethod yX6_takeWord ∈ tblG := gw2 174 (by decide +kernel) (by decide +kernel)
theorem wd423 : Cond.selects RX6 yX6_takeWord yX6_takeWord ∈ tblG := gw0 4 (by decide +kernel) (by decide +kernel)
theorem wd424 : Cond.code yX6_takeWord cX6_takeWord 2 none ∈ tblG := gw2 175 (by decide +kernel) (by decide +kernel)
theorem pl_X6_takeWord : Plain yX6_takeWord 1 := ⟨by decide, by decide, by decide +kernel⟩
theorem lk_X6_95 : LkV RX6 95 6 yX6_takeWord cX6_takeWord 2 none 1 := ⟨⟨TX6, 8, rfl⟩, wd421, wd422, wd423, wd384, wd424, pl_X6_takeWord⟩
theorem wd425 : Cond.methodLink RX6 99 yX6_takeNumber ∈ tblG := gw2 180 (by decide +kernel) (by decide +kernel)
theorem wd426 : Cond.instanceMethod yX6_takeNumber ∈ tblG := gw2 182 (by decide +kernel) (by decide +kernel)
theorem wd427 : Cond.selects RX6 yX6_takeNumber yX6_takeNumber ∈ tblG := gw0 6 (by decide +kernel) (by decide +kernel)
theorem wd428 : Cond.code yX6_takeNumber cX6_takeNumber 4 (some .int) ∈ tblG := gw2 183 (by decide +kernel) (by decide +kernel)
theorem pl_X6_takeNumber : Plain yX6_takeNumber 2 := ⟨by decide, by decide, by decide +kernel⟩
theorem lk_X6_99 : LkV RX6 99 6 yX6_takeNumber cX6_takeNumber 4 (some .int) 2 := ⟨⟨TX6, 8, rfl⟩, wd425, wd426, wd427, wd384, wd428, pl_X6_takeNumber⟩
theorem fk_X6_103 : FLk RX6 103 2 1 (.int) false := ⟨RX2, TX2, 16, tyX2, clX2, by decide, rfl, rfl, rfl, Or.inr ⟨"ObligingPosts", List.mem_of_getElem? (i := 51) (by decide +kernel)⟩⟩
theorem fk_X6_107 : FLk RX6 107 2 2 (.int) false := ⟨RX2, TX2, 16, tyX2, clX2, by decide, rfl, rfl, rfl, Or.inr ⟨"ObligingPosts", List.mem_of_getElem? (i := 52) (by decide +kernel)⟩⟩
theorem fk_X6_111 : FLk RX6 111 2 3 (.int) false := ⟨RX2, TX2, 16, tyX2, clX2, by decide, rfl, rfl, rfl, Or.inr ⟨"ObligingPosts", List.mem_of_getElem? (i := 53) (by decide +kernel)⟩⟩
theorem fk_X6_113 : FLk RX6 113 2 4 (.int) false := ⟨RX2, TX2, 16, tyX2, clX2, by decide, rfl, rfl, rfl, Or.inr ⟨"ObligingPosts", List.mem_of_getElem? (i := 54) (by decide +kernel)⟩⟩
theorem wd429 : Cond.methodLink RX6 116 yX6_takeWordOfFew ∈ tblG := gw2 195 (by decide +kernel) (by decide +kernel)
theorem wd430 : Cond.instanceMethod yX6_takeWordOfFew ∈ tblG := gw2 197 (by decide +kernel) (by decide +kernel)
theorem wd431 : Cond.selects RX6 yX6_takeWordOfFew yX6_takeWordOfFew ∈ tblG := gw0 9 (by decide +kernel) (by decide +kernel)
theorem wd432 : Cond.code yX6_takeWordOfFew cX6_takeWordOfFew 3 none ∈ tblG := gw2 198 (by decide +kernel) (by decide +kernel)
theorem pl_X6_takeWordOfFew : Plain yX6_takeWordOfFew 2 := ⟨by decide, by decide, by decide +kernel⟩
theorem lk_X6_116 : LkV RX6 116 6 yX6_takeWordOfFew cX6_takeWordOfFew 3 none 2 := ⟨⟨TX6, 8, rfl⟩, wd429, wd430, wd431, wd384, wd432, pl_X6_takeWordOfFew⟩
theorem fk_X6_122 : FLk RX6 122 2 9 (.array .int) true := ⟨RX2, TX2, 16, tyX2, clX2, by decide, rfl, rfl, rfl, Or.inr ⟨"ObligingPosts", List.mem_of_getElem? (i := 55) (by decide +kernel)⟩⟩
theorem fk_X6_126 : FLk RX6 126 2 5 (.int) false := ⟨RX2, TX2, 16, tyX2, clX2, by decide, rfl, rfl, rfl, Or.inr ⟨"ObligingPosts", List.mem_of_getElem? (i := 56) (by decide +kernel)⟩⟩
theorem fk_X6_151 : FLk RX6 151 2 8 (.int) false := ⟨RX2, TX2, 16, tyX2, clX2, by decide, rfl, rfl, rfl, Or.inr ⟨"ObligingPosts", List.mem_of_getElem? (i := 61) (by decide +kernel)⟩⟩
theorem fk_X6_156 : FLk RX6 156 2 13 (.array .int) true := ⟨RX2, TX2, 16, tyX2, clX2, by decide, rfl, rfl, rfl, Or.inr ⟨"ObligingPosts", List.mem_of_getElem? (i := 62) (by decide +kernel)⟩⟩
theorem fk_X6_159 : FLk RX6 159 2 14 (.array .int) true := ⟨RX2, TX2, 16, tyX2, clX2, by decide, rfl, rfl, rfl, Or.inr ⟨"ObligingPosts", List.mem_of_getElem? (i := 63) (by decide +kernel)⟩⟩
theorem fk_X6_129 : FLk RX6 129 2 6 (.int) false := ⟨RX2, TX2, 16, tyX2, clX2, by decide, rfl, rfl, rfl, Or.inr ⟨"ObligingPosts", List.mem_of_getElem? (i := 57) (by decide +kernel)⟩⟩
theorem wd433 : Cond.methodLink RX6 142 yX2_addRoad ∈ tblG := gw2 212 (by decide +kernel) (by decide +kernel)
theorem wd434 : Cond.instanceMethod yX2_addRoad ∈ tblG := gw2 213 (by decide +kernel) (by decide +kernel)
theorem wd435 : Cond.selects RX2 yX2_addRoad yX2_addRoad ∈ tblG := gw2 214 (by decide +kernel) (by decide +kernel)
theorem wd436 : Cond.code yX2_addRoad cX2_addRoad 3 none ∈ tblG := gw2 215 (by decide +kernel) (by decide +kernel)
theorem pl_X2_addRoad : Plain yX2_addRoad 2 := ⟨by decide, by decide, by decide +kernel⟩
theorem lk_X6_142 : LkV RX6 142 2 yX2_addRoad cX2_addRoad 3 none 2 := ⟨⟨TX2, 16, rfl⟩, wd433, wd434, wd435, wd7, wd436, pl_X2_addRoad⟩
theorem fk_X6_135 : FLk RX6 135 2 10 (.array .int) true := ⟨RX2, TX2, 16, tyX2, clX2, by decide, rfl, rfl, rfl, Or.inr ⟨"ObligingPosts", List.mem_of_getElem? (i := 58) (by decide +kernel)⟩⟩
theorem fk_X6_145 : FLk RX6 145 2 7 (.int) false := ⟨RX2, TX2, 16, tyX2, clX2, by decide, rfl, rfl, rfl, Or.inr ⟨"ObligingPosts", List.mem_of_getElem? (i := 59) (by decide +kernel)⟩⟩
theorem fk_X6_148 : FLk RX6 148 2 12 (.array .int) true := ⟨RX2, TX2, 16, tyX2, clX2, by decide, rfl, rfl, rfl, Or.inr ⟨"ObligingPosts", List.mem_of_getElem? (i := 60) (by decide +kernel)⟩⟩
theorem fk_X6_52 : FLk RX6 52 2 0 (.int) false := ⟨RX2, TX2, 16, tyX2, clX2, by decide, rfl, rfl, rfl, Or.inr ⟨"ObligingPosts", List.mem_of_getElem? (i := 50) (by decide +kernel)⟩⟩
theorem wd437 : Cond.methodLink RX6 90 yX6_readWalker ∈ tblG := gw2 222 (by decide +kernel) (by decide +kernel)
theorem wd438 : Cond.instanceMethod yX6_readWalker ∈ tblG := gw2 224 (by decide +kernel) (by decide +kernel)
theorem wd439 : Cond.selects RX6 yX6_readWalker yX6_readWalker ∈ tblG := gw0 13 (by decide +kernel) (by decide +kernel)
theorem wd440 : Cond.code yX6_readWalker cX6_readWalker 4 none ∈ tblG := gw2 225 (by decide +kernel) (by decide +kernel)
theorem pl_X6_readWalker : Plain yX6_readWalker 1 := ⟨by decide, by decide, by decide +kernel⟩
theorem lk_X6_90 : LkV RX6 90 6 yX6_readWalker cX6_readWalker 4 none 1 := ⟨⟨TX6, 8, rfl⟩, wd437, wd438, wd439, wd384, wd440, pl_X6_readWalker⟩
theorem wd441 : Cond.methodLink RX6 85 yX6_readArm ∈ tblG := gw2 217 (by decide +kernel) (by decide +kernel)
theorem wd442 : Cond.instanceMethod yX6_readArm ∈ tblG := gw2 219 (by decide +kernel) (by decide +kernel)
theorem wd443 : Cond.selects RX6 yX6_readArm yX6_readArm ∈ tblG := gw0 12 (by decide +kernel) (by decide +kernel)
theorem wd444 : Cond.code yX6_readArm cX6_readArm 4 none ∈ tblG := gw2 220 (by decide +kernel) (by decide +kernel)
theorem pl_X6_readArm : Plain yX6_readArm 1 := ⟨by decide, by decide, by decide +kernel⟩
theorem lk_X6_85 : LkV RX6 85 6 yX6_readArm cX6_readArm 4 none 1 := ⟨⟨TX6, 8, rfl⟩, wd441, wd442, wd443, wd384, wd444, pl_X6_readArm⟩
theorem wd445 : Cond.methodLink RX6 80 yX6_readRoad ∈ tblG := gw2 206 (by decide +kernel) (by decide +kernel)
theorem wd446 : Cond.instanceMethod yX6_readRoad ∈ tblG := gw2 208 (by decide +kernel) (by decide +kernel)
theorem wd447 : Cond.selects RX6 yX6_readRoad yX6_readRoad ∈ tblG := gw0 11 (by decide +kernel) (by decide +kernel)
theorem wd448 : Cond.code yX6_readRoad cX6_readRoad 4 none ∈ tblG := gw2 209 (by decide +kernel) (by decide +kernel)
theorem pl_X6_readRoad : Plain yX6_readRoad 1 := ⟨by decide, by decide, by decide +kernel⟩
theorem lk_X6_80 : LkV RX6 80 6 yX6_readRoad cX6_readRoad 4 none 1 := ⟨⟨TX6, 8, rfl⟩, wd445, wd446, wd447, wd384, wd448, pl_X6_readRoad⟩
theorem wd449 : Cond.methodLink RX6 75 yX6_readPost ∈ tblG := gw2 201 (by decide +kernel) (by decide +kernel)
theorem wd450 : Cond.instanceMethod yX6_readPost ∈ tblG := gw2 203 (by decide +kernel) (by decide +kernel)
theorem wd451 : Cond.selects RX6 yX6_readPost yX6_readPost ∈ tblG := gw0 10 (by decide +kernel) (by decide +kernel)
theorem wd452 : Cond.code yX6_readPost cX6_readPost 2 none ∈ tblG := gw2 204 (by decide +kernel) (by decide +kernel)
theorem pl_X6_readPost : Plain yX6_readPost 1 := ⟨by decide, by decide, by decide +kernel⟩
theorem lk_X6_75 : LkV RX6 75 6 yX6_readPost cX6_readPost 2 none 1 := ⟨⟨TX6, 8, rfl⟩, wd449, wd450, wd451, wd384, wd452, pl_X6_readPost⟩
theorem wd453 : Cond.methodLink RX6 70 yX6_readInn ∈ tblG := gw2 191 (by decide +kernel) (by decide +kernel)
theorem wd454 : Cond.instanceMethod yX6_readInn ∈ tblG := gw2 193 (by decide +kernel) (by decide +kernel)
theorem wd455 : Cond.selects RX6 yX6_readInn yX6_readInn ∈ tblG := gw0 8 (by decide +kernel) (by decide +kernel)
theorem wd456 : Cond.code yX6_readInn cX6_readInn 3 none ∈ tblG := gw2 194 (by decide +kernel) (by decide +kernel)
theorem pl_X6_readInn : Plain yX6_readInn 1 := ⟨by decide, by decide, by decide +kernel⟩
theorem lk_X6_70 : LkV RX6 70 6 yX6_readInn cX6_readInn 3 none 1 := ⟨⟨TX6, 8, rfl⟩, wd453, wd454, wd455, wd384, wd456, pl_X6_readInn⟩
theorem wd457 : Cond.methodLink RX6 61 yX6_readHeath ∈ tblG := gw2 167 (by decide +kernel) (by decide +kernel)
theorem wd458 : Cond.instanceMethod yX6_readHeath ∈ tblG := gw2 169 (by decide +kernel) (by decide +kernel)
theorem wd459 : Cond.selects RX6 yX6_readHeath yX6_readHeath ∈ tblG := gw0 3 (by decide +kernel) (by decide +kernel)
theorem wd460 : Cond.code yX6_readHeath cX6_readHeath 2 none ∈ tblG := gw2 170 (by decide +kernel) (by decide +kernel)
theorem pl_X6_readHeath : Plain yX6_readHeath 1 := ⟨by decide, by decide, by decide +kernel⟩
theorem lk_X6_61 : LkV RX6 61 6 yX6_readHeath cX6_readHeath 2 none 1 := ⟨⟨TX6, 8, rfl⟩, wd457, wd458, wd459, wd384, wd460, pl_X6_readHeath⟩
theorem wd461 : Cond.methodLink RX6 37 yX2_clear ∈ tblG := gw2 81 (by decide +kernel) (by decide +kernel)
theorem wd462 : Cond.instanceMethod yX2_clear ∈ tblG := gw2 82 (by decide +kernel) (by decide +kernel)
theorem wd463 : Cond.selects RX2 yX2_clear yX2_clear ∈ tblG := gw2 83 (by decide +kernel) (by decide +kernel)
theorem wd464 : Cond.code yX2_clear cX2_clear 1 none ∈ tblG := gw2 84 (by decide +kernel) (by decide +kernel)
theorem pl_X2_clear : Plain yX2_clear 0 := ⟨by decide, by decide, by decide +kernel⟩
theorem lk_X6_37 : LkV RX6 37 2 yX2_clear cX2_clear 1 none 0 := ⟨⟨TX2, 16, rfl⟩, wd461, wd462, wd463, wd7, wd464, pl_X2_clear⟩
theorem wd465 : Cond.methodLink RX6 45 yX6_readLine ∈ tblG := gw2 110 (by decide +kernel) (by decide +kernel)
theorem wd466 : Cond.instanceMethod yX6_readLine ∈ tblG := gw2 112 (by decide +kernel) (by decide +kernel)
theorem wd467 : Cond.selects RX6 yX6_readLine yX6_readLine ∈ tblG := gw0 1 (by decide +kernel) (by decide +kernel)
theorem wd468 : Cond.code yX6_readLine cX6_readLine 2 none ∈ tblG := gw2 113 (by decide +kernel) (by decide +kernel)
theorem pl_X6_readLine : Plain yX6_readLine 1 := ⟨by decide, by decide, by decide +kernel⟩
theorem lk_X6_45 : LkV RX6 45 6 yX6_readLine cX6_readLine 2 none 1 := ⟨⟨TX6, 8, rfl⟩, wd465, wd466, wd467, wd384, wd468, pl_X6_readLine⟩
theorem wd469 : Cond.methodLink RX6 49 yX6_takeSign ∈ tblG := gw2 227 (by decide +kernel) (by decide +kernel)
theorem wd470 : Cond.instanceMethod yX6_takeSign ∈ tblG := gw2 229 (by decide +kernel) (by decide +kernel)
theorem wd471 : Cond.selects RX6 yX6_takeSign yX6_takeSign ∈ tblG := gw0 14 (by decide +kernel) (by decide +kernel)
theorem wd472 : Cond.code yX6_takeSign cX6_takeSign 1 none ∈ tblG := gw2 230 (by decide +kernel) (by decide +kernel)
theorem pl_X6_takeSign : Plain yX6_takeSign 0 := ⟨by decide, by decide, by decide +kernel⟩
theorem lk_X6_49 : LkV RX6 49 6 yX6_takeSign cX6_takeSign 1 none 0 := ⟨⟨TX6, 8, rfl⟩, wd469, wd470, wd471, wd384, wd472, pl_X6_takeSign⟩
