theorem dX5_put_0 : decode cX5_put 0 = .ok (.aload_n 0, 1) := by decide +kernel
theorem dX5_put_1 : decode cX5_put 1 = .ok (.getfield 9, 3) := by decide +kernel
theorem dX5_put_4 : decode cX5_put 4 = .ok (.iload_n 1, 1) := by decide +kernel
theorem dX5_put_5 : decode cX5_put 5 = .ok (.aload_n 0, 1) := by decide +kernel
theorem dX5_put_6 : decode cX5_put 6 = .ok (.lload_n 2, 1) := by decide +kernel
theorem dX5_put_7 : decode cX5_put 7 = .ok (.invokevirtual 28, 3) := by decide +kernel
theorem dX5_put_10 : decode cX5_put 10 = .ok (.lastore, 1) := by decide +kernel
theorem dX5_put_11 : decode cX5_put 11 = .ok (.return_, 1) := by decide +kernel
theorem dX5_cut_0 : decode cX5_cut 0 = .ok (.aload_n 0, 1) := by decide +kernel
theorem dX5_cut_1 : decode cX5_cut 1 = .ok (.getfield 15, 3) := by decide +kernel
theorem dX5_cut_4 : decode cX5_cut 4 = .ok (.tableswitch 42 0 2 #[28, 33, 38], 28) := by decide +kernel
theorem dX5_cut_32 : decode cX5_cut 32 = .ok (.lload_n 1, 1) := by decide +kernel
theorem dX5_cut_33 : decode cX5_cut 33 = .ok (.l2i, 1) := by decide +kernel
theorem dX5_cut_34 : decode cX5_cut 34 = .ok (.i2b, 1) := by decide +kernel
theorem dX5_cut_35 : decode cX5_cut 35 = .ok (.i2l, 1) := by decide +kernel
theorem dX5_cut_36 : decode cX5_cut 36 = .ok (.lreturn, 1) := by decide +kernel
theorem dX5_cut_37 : decode cX5_cut 37 = .ok (.lload_n 1, 1) := by decide +kernel
theorem dX5_cut_38 : decode cX5_cut 38 = .ok (.l2i, 1) := by decide +kernel
theorem dX5_cut_39 : decode cX5_cut 39 = .ok (.i2s, 1) := by decide +kernel
theorem dX5_cut_40 : decode cX5_cut 40 = .ok (.i2l, 1) := by decide +kernel
theorem dX5_cut_41 : decode cX5_cut 41 = .ok (.lreturn, 1) := by decide +kernel
theorem dX5_cut_42 : decode cX5_cut 42 = .ok (.lload_n 1, 1) := by decide +kernel
theorem dX5_cut_43 : decode cX5_cut 43 = .ok (.l2i, 1) := by decide +kernel
theorem dX5_cut_44 : decode cX5_cut 44 = .ok (.i2l, 1) := by decide +kernel
theorem dX5_cut_45 : decode cX5_cut 45 = .ok (.lreturn, 1) := by decide +kernel
theorem dX5_cut_46 : decode cX5_cut 46 = .ok (.lload_n 1, 1) := by decide +kernel
theorem dX5_cut_47 : decode cX5_cut 47 = .ok (.lreturn, 1) := by decide +kernel
theorem dX5_hasPart_0 : decode cX5_hasPart 0 = .ok (.iload_n 1, 1) := by decide +kernel
theorem dX5_hasPart_1 : decode cX5_hasPart 1 = .ok (.ifCond .lt 25, 3) := by decide +kernel
theorem dX5_hasPart_4 : decode cX5_hasPart 4 = .ok (.iload_n 2, 1) := by decide +kernel
theorem dX5_hasPart_5 : decode cX5_hasPart 5 = .ok (.ifCond .lt 21, 3) := by decide +kernel
theorem dX5_hasPart_8 : decode cX5_hasPart 8 = .ok (.iload_n 1, 1) := by decide +kernel
theorem dX5_hasPart_9 : decode cX5_hasPart 9 = .ok (.i2l, 1) := by decide +kernel
theorem dX5_hasPart_10 : decode cX5_hasPart 10 = .ok (.iload_n 2, 1) := by decide +kernel
theorem dX5_hasPart_11 : decode cX5_hasPart 11 = .ok (.i2l, 1) := by decide +kernel
theorem dX5_hasPart_12 : decode cX5_hasPart 12 = .ok (.ladd, 1) := by decide +kernel
theorem dX5_hasPart_13 : decode cX5_hasPart 13 = .ok (.aload_n 0, 1) := by decide +kernel
theorem dX5_hasPart_14 : decode cX5_hasPart 14 = .ok (.getfield 19, 3) := by decide +kernel
theorem dX5_hasPart_17 : decode cX5_hasPart 17 = .ok (.i2l, 1) := by decide +kernel
theorem dX5_hasPart_18 : decode cX5_hasPart 18 = .ok (.lcmp, 1) := by decide +kernel
theorem dX5_hasPart_19 : decode cX5_hasPart 19 = .ok (.ifCond .gt 7, 3) := by decide +kernel
theorem dX5_hasPart_22 : decode cX5_hasPart 22 = .ok (.iconst 1, 1) := by decide +kernel
theorem dX5_hasPart_23 : decode cX5_hasPart 23 = .ok (.goto 4, 3) := by decide +kernel
theorem dX5_hasPart_26 : decode cX5_hasPart 26 = .ok (.iconst 0, 1) := by decide +kernel
theorem dX5_hasPart_27 : decode cX5_hasPart 27 = .ok (.ireturn, 1) := by decide +kernel
theorem dX7_may_0 : decode cX7_may 0 = .ok (.aload_n 0, 1) := by decide +kernel
theorem dX7_may_1 : decode cX7_may 1 = .ok (.iload_n 1, 1) := by decide +kernel
theorem dX7_may_2 : decode cX7_may 2 = .ok (.aload_n 0, 1) := by decide +kernel
theorem dX7_may_3 : decode cX7_may 3 = .ok (.getfield 19, 3) := by decide +kernel
theorem dX7_may_6 : decode cX7_may 6 = .ok (.iload_n 2, 1) := by decide +kernel
theorem dX7_may_7 : decode cX7_may 7 = .ok (.invokevirtual 106, 3) := by decide +kernel
theorem dX7_may_10 : decode cX7_may 10 = .ok (.invokevirtual 288, 3) := by decide +kernel
theorem dX7_may_13 : decode cX7_may 13 = .ok (.istore_n 3, 1) := by decide +kernel
theorem dX7_may_14 : decode cX7_may 14 = .ok (.iload_n 3, 1) := by decide +kernel
theorem dX7_may_15 : decode cX7_may 15 = .ok (.ifCond .eq 7, 3) := by decide +kernel
theorem dX7_may_18 : decode cX7_may 18 = .ok (.iload_n 3, 1) := by decide +kernel
theorem dX7_may_19 : decode cX7_may 19 = .ok (.goto 14, 3) := by decide +kernel
theorem dX7_may_22 : decode cX7_may 22 = .ok (.aload_n 0, 1) := by decide +kernel
theorem dX7_may_23 : decode cX7_may 23 = .ok (.aload_n 0, 1) := by decide +kernel
theorem dX7_may_24 : decode cX7_may 24 = .ok (.getfield 32, 3) := by decide +kernel
theorem dX7_may_27 : decode cX7_may 27 = .ok (.iload_n 1, 1) := by decide +kernel
theorem dX7_may_28 : decode cX7_may 28 = .ok (.aaload, 1) := by decide +kernel
theorem dX7_may_29 : decode cX7_may 29 = .ok (.iload_n 2, 1) := by decide +kernel
theorem dX7_may_30 : decode cX7_may 30 = .ok (.invokevirtual 292, 3) := by decide +kernel
theorem dX7_may_33 : decode cX7_may 33 = .ok (.ireturn, 1) := by decide +kernel
theorem dX7_ask_0 : decode cX7_ask 0 = .ok (.aload_n 0, 1) := by decide +kernel
theorem dX7_ask_1 : decode cX7_ask 1 = .ok (.iload_n 1, 1) := by decide +kernel
theorem dX7_ask_2 : decode cX7_ask 2 = .ok (.aload_n 0, 1) := by decide +kernel
theorem dX7_ask_3 : decode cX7_ask 3 = .ok (.getfield 19, 3) := by decide +kernel
theorem dX7_ask_6 : decode cX7_ask 6 = .ok (.iload_n 2, 1) := by decide +kernel
theorem dX7_ask_7 : decode cX7_ask 7 = .ok (.invokevirtual 106, 3) := by decide +kernel
theorem dX7_ask_10 : decode cX7_ask 10 = .ok (.invokevirtual 288, 3) := by decide +kernel
theorem dX7_ask_13 : decode cX7_ask 13 = .ok (.istore_n 3, 1) := by decide +kernel
theorem dX7_ask_14 : decode cX7_ask 14 = .ok (.iload_n 3, 1) := by decide +kernel
theorem dX7_ask_15 : decode cX7_ask 15 = .ok (.ifCond .eq 5, 3) := by decide +kernel
theorem dX7_ask_18 : decode cX7_ask 18 = .ok (.iload_n 3, 1) := by decide +kernel
theorem dX7_ask_19 : decode cX7_ask 19 = .ok (.ireturn, 1) := by decide +kernel
theorem dX7_ask_20 : decode cX7_ask 20 = .ok (.aload_n 0, 1) := by decide +kernel
theorem dX7_ask_21 : decode cX7_ask 21 = .ok (.aload_n 0, 1) := by decide +kernel
theorem dX7_ask_22 : decode cX7_ask 22 = .ok (.aload_n 0, 1) := by decide +kernel
theorem dX7_ask_23 : decode cX7_ask 23 = .ok (.getfield 32, 3) := by decide +kernel
theorem dX7_ask_26 : decode cX7_ask 26 = .ok (.iload_n 1, 1) := by decide +kernel
theorem dX7_ask_27 : decode cX7_ask 27 = .ok (.aaload, 1) := by decide +kernel
theorem dX7_ask_28 : decode cX7_ask 28 = .ok (.iload_n 2, 1) := by decide +kernel
theorem dX7_ask_29 : decode cX7_ask 29 = .ok (.invokevirtual 292, 3) := by decide +kernel
theorem dX7_ask_32 : decode cX7_ask 32 = .ok (.invokevirtual 296, 3) := by decide +kernel
theorem dX7_ask_35 : decode cX7_ask 35 = .ok (.ireturn, 1) := by decide +kernel
theorem dX7_leaves_0 : decode cX7_leaves 0 = .ok (.aload_n 0, 1) := by decide +kernel
theorem dX7_leaves_1 : decode cX7_leaves 1 = .ok (.iload_n 1, 1) := by decide +kernel
theorem dX7_leaves_2 : decode cX7_leaves 2 = .ok (.aload_n 0, 1) := by decide +kernel
theorem dX7_leaves_3 : decode cX7_leaves 3 = .ok (.getfield 19, 3) := by decide +kernel
theorem dX7_leaves_6 : decode cX7_leaves 6 = .ok (.iload_n 2, 1) := by decide +kernel
theorem dX7_leaves_7 : decode cX7_leaves 7 = .ok (.invokevirtual 106, 3) := by decide +kernel
theorem dX7_leaves_10 : decode cX7_leaves 10 = .ok (.invokevirtual 288, 3) := by decide +kernel
theorem dX7_leaves_13 : decode cX7_leaves 13 = .ok (.istore_n 3, 1) := by decide +kernel
theorem dX7_leaves_14 : decode cX7_leaves 14 = .ok (.iload_n 3, 1) := by decide +kernel
theorem dX7_leaves_15 : decode cX7_leaves 15 = .ok (.ifCond .eq 5, 3) := by decide +kernel
theorem dX7_leaves_18 : decode cX7_leaves 18 = .ok (.iload_n 3, 1) := by decide +kernel
theorem dX7_leaves_19 : decode cX7_leaves 19 = .ok (.ireturn, 1) := by decide +kernel
theorem dX7_leaves_20 : decode cX7_leaves 20 = .ok (.aload_n 0, 1) := by decide +kernel
theorem dX7_leaves_21 : decode cX7_leaves 21 = .ok (.aload_n 0, 1) := by decide +kernel
theorem dX7_leaves_22 : decode cX7_leaves 22 = .ok (.getfield 32, 3) := by decide +kernel
theorem dX7_leaves_25 : decode cX7_leaves 25 = .ok (.iload_n 1, 1) := by decide +kernel
theorem dX7_leaves_26 : decode cX7_leaves 26 = .ok (.aaload, 1) := by decide +kernel
theorem dX7_leaves_27 : decode cX7_leaves 27 = .ok (.iload_n 2, 1) := by decide +kernel
theorem dX7_leaves_28 : decode cX7_leaves 28 = .ok (.invokevirtual 292, 3) := by decide +kernel
theorem dX7_leaves_31 : decode cX7_leaves 31 = .ok (.istore 4, 2) := by decide +kernel
theorem dX7_leaves_33 : decode cX7_leaves 33 = .ok (.aload_n 0, 1) := by decide +kernel
theorem dX7_leaves_34 : decode cX7_leaves 34 = .ok (.iload 4, 2) := by decide +kernel
theorem dX7_leaves_36 : decode cX7_leaves 36 = .ok (.invokevirtual 296, 3) := by decide +kernel
theorem dX7_leaves_39 : decode cX7_leaves 39 = .ok (.istore 5, 2) := by decide +kernel
theorem dX7_leaves_41 : decode cX7_leaves 41 = .ok (.iload 5, 2) := by decide +kernel
theorem dX7_leaves_43 : decode cX7_leaves 43 = .ok (.iconst (-1), 1) := by decide +kernel
theorem dX7_leaves_44 : decode cX7_leaves 44 = .ok (.if_icmp .ne 9, 3) := by decide +kernel
theorem dX7_leaves_47 : decode cX7_leaves 47 = .ok (.iload 4, 2) := by decide +kernel
theorem dX7_leaves_49 : decode cX7_leaves 49 = .ok (.invokestatic 271, 3) := by decide +kernel
theorem dX7_leaves_52 : decode cX7_leaves 52 = .ok (.ireturn, 1) := by decide +kernel
theorem dX7_leaves_53 : decode cX7_leaves 53 = .ok (.aload_n 0, 1) := by decide +kernel
theorem dX7_leaves_54 : decode cX7_leaves 54 = .ok (.iload 4, 2) := by decide +kernel
theorem dX7_leaves_56 : decode cX7_leaves 56 = .ok (.iload 5, 2) := by decide +kernel
theorem dX7_leaves_58 : decode cX7_leaves 58 = .ok (.bipush 100, 2) := by decide +kernel
theorem dX7_leaves_60 : decode cX7_leaves 60 = .ok (.idiv, 1) := by decide +kernel
theorem dX7_leaves_61 : decode cX7_leaves 61 = .ok (.iload 5, 2) := by decide +kernel
theorem dX7_leaves_63 : decode cX7_leaves 63 = .ok (.bipush 100, 2) := by decide +kernel
theorem dX7_leaves_65 : decode cX7_leaves 65 = .ok (.irem, 1) := by decide +kernel
theorem dX7_leaves_66 : decode cX7_leaves 66 = .ok (.invokevirtual 299, 3) := by decide +kernel
theorem dX7_leaves_69 : decode cX7_leaves 69 = .ok (.ireturn, 1) := by decide +kernel
theorem dX7_laws_0 : decode cX7_laws 0 = .ok (.aload_n 0, 1) := by decide +kernel
theorem dX7_laws_1 : decode cX7_laws 1 = .ok (.iload_n 1, 1) := by decide +kernel
theorem dX7_laws_2 : decode cX7_laws 2 = .ok (.aload_n 0, 1) := by decide +kernel
theorem dX7_laws_3 : decode cX7_laws 3 = .ok (.getfield 19, 3) := by decide +kernel
theorem dX7_laws_6 : decode cX7_laws 6 = .ok (.invokevirtual 198, 3) := by decide +kernel
theorem dX7_laws_9 : decode cX7_laws 9 = .ok (.invokevirtual 288, 3) := by decide +kernel
theorem dX7_laws_12 : decode cX7_laws 12 = .ok (.istore_n 2, 1) := by decide +kernel
theorem dX7_laws_13 : decode cX7_laws 13 = .ok (.iload_n 2, 1) := by decide +kernel
theorem dX7_laws_14 : decode cX7_laws 14 = .ok (.ifCond .eq 5, 3) := by decide +kernel
theorem dX7_laws_17 : decode cX7_laws 17 = .ok (.iload_n 2, 1) := by decide +kernel
theorem dX7_laws_18 : decode cX7_laws 18 = .ok (.ireturn, 1) := by decide +kernel
theorem dX7_laws_19 : decode cX7_laws 19 = .ok (.iconst 0, 1) := by decide +kernel
theorem dX7_laws_20 : decode cX7_laws 20 = .ok (.istore_n 3, 1) := by decide +kernel
theorem dX7_laws_21 : decode cX7_laws 21 = .ok (.iconst 0, 1) := by decide +kernel
theorem dX7_laws_22 : decode cX7_laws 22 = .ok (.istore 4, 2) := by decide +kernel
theorem dX7_laws_24 : decode cX7_laws 24 = .ok (.iload 4, 2) := by decide +kernel
theorem dX7_laws_26 : decode cX7_laws 26 = .ok (.iconst 3, 1) := by decide +kernel
theorem dX7_laws_27 : decode cX7_laws 27 = .ok (.if_icmp .gt 39, 3) := by decide +kernel
theorem dX7_laws_30 : decode cX7_laws 30 = .ok (.aload_n 0, 1) := by decide +kernel
theorem dX7_laws_31 : decode cX7_laws 31 = .ok (.iload 4, 2) := by decide +kernel
theorem dX7_laws_33 : decode cX7_laws 33 = .ok (.invokevirtual 303, 3) := by decide +kernel
theorem dX7_laws_36 : decode cX7_laws 36 = .ok (.aload_n 0, 1) := by decide +kernel
theorem dX7_laws_37 : decode cX7_laws 37 = .ok (.aload_n 0, 1) := by decide +kernel
theorem dX7_laws_38 : decode cX7_laws 38 = .ok (.getfield 32, 3) := by decide +kernel
theorem dX7_laws_41 : decode cX7_laws 41 = .ok (.iload_n 1, 1) := by decide +kernel
theorem dX7_laws_42 : decode cX7_laws 42 = .ok (.aaload, 1) := by decide +kernel
theorem dX7_laws_43 : decode cX7_laws 43 = .ok (.aload_n 0, 1) := by decide +kernel
theorem dX7_laws_44 : decode cX7_laws 44 = .ok (.getfield 45, 3) := by decide +kernel
theorem dX7_laws_47 : decode cX7_laws 47 = .ok (.invokevirtual 306, 3) := by decide +kernel
theorem dX7_laws_50 : decode cX7_laws 50 = .ok (.ifCond .eq 10, 3) := by decide +kernel
theorem dX7_laws_53 : decode cX7_laws 53 = .ok (.iload_n 3, 1) := by decide +kernel
theorem dX7_laws_54 : decode cX7_laws 54 = .ok (.iconst 1, 1) := by decide +kernel
theorem dX7_laws_55 : decode cX7_laws 55 = .ok (.iload 4, 2) := by decide +kernel
theorem dX7_laws_57 : decode cX7_laws 57 = .ok (.ishl, 1) := by decide +kernel
theorem dX7_laws_58 : decode cX7_laws 58 = .ok (.ior, 1) := by decide +kernel
theorem dX7_laws_59 : decode cX7_laws 59 = .ok (.istore_n 3, 1) := by decide +kernel
theorem dX7_laws_60 : decode cX7_laws 60 = .ok (.iinc 4 1, 3) := by decide +kernel
theorem dX7_laws_63 : decode cX7_laws 63 = .ok (.goto (-39), 3) := by decide +kernel
theorem dX7_laws_66 : decode cX7_laws 66 = .ok (.iload_n 3, 1) := by decide +kernel
theorem dX7_laws_67 : decode cX7_laws 67 = .ok (.ireturn, 1) := by decide +kernel
theorem dX7_refusalOfSeen_0 : decode cX7_refusalOfSeen 0 = .ok (.iload_n 1, 1) := by decide +kernel
theorem dX7_refusalOfSeen_1 : decode cX7_refusalOfSeen 1 = .ok (.invokestatic 389, 3) := by decide +kernel
theorem dX7_refusalOfSeen_4 : decode cX7_refusalOfSeen 4 = .ok (.ifCond .eq 7, 3) := by decide +kernel
theorem dX7_refusalOfSeen_7 : decode cX7_refusalOfSeen 7 = .ok (.iload_n 2, 1) := by decide +kernel
theorem dX7_refusalOfSeen_8 : decode cX7_refusalOfSeen 8 = .ok (.ifCond .ne 6, 3) := by decide +kernel
theorem dX7_refusalOfSeen_11 : decode cX7_refusalOfSeen 11 = .ok (.bipush (-2), 2) := by decide +kernel
theorem dX7_refusalOfSeen_13 : decode cX7_refusalOfSeen 13 = .ok (.ireturn, 1) := by decide +kernel
theorem dX7_refusalOfSeen_14 : decode cX7_refusalOfSeen 14 = .ok (.aload_n 0, 1) := by decide +kernel
theorem dX7_refusalOfSeen_15 : decode cX7_refusalOfSeen 15 = .ok (.getfield 32, 3) := by decide +kernel
theorem dX7_refusalOfSeen_18 : decode cX7_refusalOfSeen 18 = .ok (.iload_n 1, 1) := by decide +kernel
theorem dX7_refusalOfSeen_19 : decode cX7_refusalOfSeen 19 = .ok (.aaload, 1) := by decide +kernel
theorem dX7_refusalOfSeen_20 : decode cX7_refusalOfSeen 20 = .ok (.ifnonnull 6, 3) := by decide +kernel
theorem dX7_refusalOfSeen_23 : decode cX7_refusalOfSeen 23 = .ok (.bipush (-6), 2) := by decide +kernel
theorem dX7_refusalOfSeen_25 : decode cX7_refusalOfSeen 25 = .ok (.ireturn, 1) := by decide +kernel
theorem dX7_refusalOfSeen_26 : decode cX7_refusalOfSeen 26 = .ok (.aload_n 0, 1) := by decide +kernel
theorem dX7_refusalOfSeen_27 : decode cX7_refusalOfSeen 27 = .ok (.aload_n 0, 1) := by decide +kernel
theorem dX7_refusalOfSeen_28 : decode cX7_refusalOfSeen 28 = .ok (.getfield 32, 3) := by decide +kernel
theorem dX7_refusalOfSeen_31 : decode cX7_refusalOfSeen 31 = .ok (.iload_n 1, 1) := by decide +kernel
theorem dX7_refusalOfSeen_32 : decode cX7_refusalOfSeen 32 = .ok (.aaload, 1) := by decide +kernel
theorem dX7_refusalOfSeen_33 : decode cX7_refusalOfSeen 33 = .ok (.invokevirtual 433, 3) := by decide +kernel
theorem dX7_refusalOfSeen_36 : decode cX7_refusalOfSeen 36 = .ok (.ifCond .eq 7, 3) := by decide +kernel
theorem dX7_refusalOfSeen_39 : decode cX7_refusalOfSeen 39 = .ok (.iconst 0, 1) := by decide +kernel
theorem dX7_refusalOfSeen_40 : decode cX7_refusalOfSeen 40 = .ok (.goto 5, 3) := by decide +kernel
theorem dX7_refusalOfSeen_43 : decode cX7_refusalOfSeen 43 = .ok (.bipush (-2), 2) := by decide +kernel
theorem dX7_refusalOfSeen_45 : decode cX7_refusalOfSeen 45 = .ok (.ireturn, 1) := by decide +kernel
theorem dX7_tellsPlaces_0 : decode cX7_tellsPlaces 0 = .ok (.aload_n 1, 1) := by decide +kernel
theorem dX7_tellsPlaces_1 : decode cX7_tellsPlaces 1 = .ok (.getfield 395, 3) := by decide +kernel
theorem dX7_tellsPlaces_4 : decode cX7_tellsPlaces 4 = .ok (.iconst 3, 1) := by decide +kernel
theorem dX7_tellsPlaces_5 : decode cX7_tellsPlaces 5 = .ok (.irem, 1) := by decide +kernel
theorem dX7_tellsPlaces_6 : decode cX7_tellsPlaces 6 = .ok (.ifCond .eq 5, 3) := by decide +kernel
theorem dX7_tellsPlaces_9 : decode cX7_tellsPlaces 9 = .ok (.iconst 0, 1) := by decide +kernel
theorem dX7_tellsPlaces_10 : decode cX7_tellsPlaces 10 = .ok (.ireturn, 1) := by decide +kernel
theorem dX7_tellsPlaces_11 : decode cX7_tellsPlaces 11 = .ok (.iconst 0, 1) := by decide +kernel
theorem dX7_tellsPlaces_12 : decode cX7_tellsPlaces 12 = .ok (.istore_n 2, 1) := by decide +kernel
theorem dX7_tellsPlaces_13 : decode cX7_tellsPlaces 13 = .ok (.iload_n 2, 1) := by decide +kernel
theorem dX7_tellsPlaces_14 : decode cX7_tellsPlaces 14 = .ok (.iconst 2, 1) := by decide +kernel
theorem dX7_tellsPlaces_15 : decode cX7_tellsPlaces 15 = .ok (.iadd, 1) := by decide +kernel
theorem dX7_tellsPlaces_16 : decode cX7_tellsPlaces 16 = .ok (.aload_n 1, 1) := by decide +kernel
theorem dX7_tellsPlaces_17 : decode cX7_tellsPlaces 17 = .ok (.getfield 395, 3) := by decide +kernel
theorem dX7_tellsPlaces_20 : decode cX7_tellsPlaces 20 = .ok (.if_icmp .ge 122, 3) := by decide +kernel
theorem dX7_tellsPlaces_23 : decode cX7_tellsPlaces 23 = .ok (.aload_n 1, 1) := by decide +kernel
theorem dX7_tellsPlaces_24 : decode cX7_tellsPlaces 24 = .ok (.getfield 406, 3) := by decide +kernel
theorem dX7_tellsPlaces_27 : decode cX7_tellsPlaces 27 = .ok (.iload_n 2, 1) := by decide +kernel
theorem dX7_tellsPlaces_28 : decode cX7_tellsPlaces 28 = .ok (.laload, 1) := by decide +kernel
theorem dX7_tellsPlaces_29 : decode cX7_tellsPlaces 29 = .ok (.lstore_n 3, 1) := by decide +kernel
theorem dX7_tellsPlaces_30 : decode cX7_tellsPlaces 30 = .ok (.aload_n 1, 1) := by decide +kernel
theorem dX7_tellsPlaces_31 : decode cX7_tellsPlaces 31 = .ok (.getfield 406, 3) := by decide +kernel
theorem dX7_tellsPlaces_34 : decode cX7_tellsPlaces 34 = .ok (.iload_n 2, 1) := by decide +kernel
theorem dX7_tellsPlaces_35 : decode cX7_tellsPlaces 35 = .ok (.iconst 1, 1) := by decide +kernel
theorem dX7_tellsPlaces_36 : decode cX7_tellsPlaces 36 = .ok (.iadd, 1) := by decide +kernel
theorem dX7_tellsPlaces_37 : decode cX7_tellsPlaces 37 = .ok (.laload, 1) := by decide +kernel
theorem dX7_tellsPlaces_38 : decode cX7_tellsPlaces 38 = .ok (.lstore 5, 2) := by decide +kernel
theorem dX7_tellsPlaces_40 : decode cX7_tellsPlaces 40 = .ok (.aload_n 1, 1) := by decide +kernel
theorem dX7_tellsPlaces_41 : decode cX7_tellsPlaces 41 = .ok (.getfield 406, 3) := by decide +kernel
theorem dX7_tellsPlaces_44 : decode cX7_tellsPlaces 44 = .ok (.iload_n 2, 1) := by decide +kernel
theorem dX7_tellsPlaces_45 : decode cX7_tellsPlaces 45 = .ok (.iconst 2, 1) := by decide +kernel
theorem dX7_tellsPlaces_46 : decode cX7_tellsPlaces 46 = .ok (.iadd, 1) := by decide +kernel
theorem dX7_tellsPlaces_47 : decode cX7_tellsPlaces 47 = .ok (.laload, 1) := by decide +kernel
theorem dX7_tellsPlaces_48 : decode cX7_tellsPlaces 48 = .ok (.lstore 7, 2) := by decide +kernel
theorem dX7_tellsPlaces_50 : decode cX7_tellsPlaces 50 = .ok (.lload_n 3, 1) := by decide +kernel
theorem dX7_tellsPlaces_51 : decode cX7_tellsPlaces 51 = .ok (.lconst 0, 1) := by decide +kernel
theorem dX7_tellsPlaces_52 : decode cX7_tellsPlaces 52 = .ok (.lcmp, 1) := by decide +kernel
theorem dX7_tellsPlaces_53 : decode cX7_tellsPlaces 53 = .ok (.ifCond .lt 37, 3) := by decide +kernel
theorem dX7_tellsPlaces_56 : decode cX7_tellsPlaces 56 = .ok (.lload_n 3, 1) := by decide +kernel
theorem dX7_tellsPlaces_57 : decode cX7_tellsPlaces 57 = .ok (.aload_n 0, 1) := by decide +kernel
theorem dX7_tellsPlaces_58 : decode cX7_tellsPlaces 58 = .ok (.getfield 19, 3) := by decide +kernel
theorem dX7_tellsPlaces_61 : decode cX7_tellsPlaces 61 = .ok (.getfield 276, 3) := by decide +kernel
theorem dX7_tellsPlaces_64 : decode cX7_tellsPlaces 64 = .ok (.i2l, 1) := by decide +kernel
theorem dX7_tellsPlaces_65 : decode cX7_tellsPlaces 65 = .ok (.lcmp, 1) := by decide +kernel
theorem dX7_tellsPlaces_66 : decode cX7_tellsPlaces 66 = .ok (.ifCond .ge 24, 3) := by decide +kernel
theorem dX7_tellsPlaces_69 : decode cX7_tellsPlaces 69 = .ok (.lload 5, 2) := by decide +kernel
theorem dX7_tellsPlaces_71 : decode cX7_tellsPlaces 71 = .ok (.lconst 0, 1) := by decide +kernel
theorem dX7_tellsPlaces_72 : decode cX7_tellsPlaces 72 = .ok (.lcmp, 1) := by decide +kernel
theorem dX7_tellsPlaces_73 : decode cX7_tellsPlaces 73 = .ok (.ifCond .lt 17, 3) := by decide +kernel
theorem dX7_tellsPlaces_76 : decode cX7_tellsPlaces 76 = .ok (.lload 5, 2) := by decide +kernel
theorem dX7_tellsPlaces_78 : decode cX7_tellsPlaces 78 = .ok (.aload_n 0, 1) := by decide +kernel
theorem dX7_tellsPlaces_79 : decode cX7_tellsPlaces 79 = .ok (.getfield 19, 3) := by decide +kernel
theorem dX7_tellsPlaces_82 : decode cX7_tellsPlaces 82 = .ok (.getfield 168, 3) := by decide +kernel
theorem dX7_tellsPlaces_85 : decode cX7_tellsPlaces 85 = .ok (.i2l, 1) := by decide +kernel
theorem dX7_tellsPlaces_86 : decode cX7_tellsPlaces 86 = .ok (.lcmp, 1) := by decide +kernel
theorem dX7_tellsPlaces_87 : decode cX7_tellsPlaces 87 = .ok (.ifCond .le 5, 3) := by decide +kernel
theorem dX7_tellsPlaces_90 : decode cX7_tellsPlaces 90 = .ok (.iconst 0, 1) := by decide +kernel
theorem dX7_tellsPlaces_91 : decode cX7_tellsPlaces 91 = .ok (.ireturn, 1) := by decide +kernel
theorem dX7_tellsPlaces_92 : decode cX7_tellsPlaces 92 = .ok (.lload 7, 2) := by decide +kernel
theorem dX7_tellsPlaces_94 : decode cX7_tellsPlaces 94 = .ok (.ldc2_w 437, 3) := by decide +kernel
theorem dX7_tellsPlaces_97 : decode cX7_tellsPlaces 97 = .ok (.lcmp, 1) := by decide +kernel
theorem dX7_tellsPlaces_98 : decode cX7_tellsPlaces 98 = .ok (.ifCond .lt 12, 3) := by decide +kernel
theorem dX7_tellsPlaces_101 : decode cX7_tellsPlaces 101 = .ok (.lload 7, 2) := by decide +kernel
theorem dX7_tellsPlaces_103 : decode cX7_tellsPlaces 103 = .ok (.ldc2_w 439, 3) := by decide +kernel
theorem dX7_tellsPlaces_106 : decode cX7_tellsPlaces 106 = .ok (.lcmp, 1) := by decide +kernel
theorem dX7_tellsPlaces_107 : decode cX7_tellsPlaces 107 = .ok (.ifCond .lt 5, 3) := by decide +kernel
theorem dX7_tellsPlaces_110 : decode cX7_tellsPlaces 110 = .ok (.iconst 0, 1) := by decide +kernel
theorem dX7_tellsPlaces_111 : decode cX7_tellsPlaces 111 = .ok (.ireturn, 1) := by decide +kernel
theorem dX7_tellsPlaces_112 : decode cX7_tellsPlaces 112 = .ok (.lload 7, 2) := by decide +kernel
theorem dX7_tellsPlaces_114 : decode cX7_tellsPlaces 114 = .ok (.ldc2_w 437, 3) := by decide +kernel
theorem dX7_tellsPlaces_117 : decode cX7_tellsPlaces 117 = .ok (.lcmp, 1) := by decide +kernel
theorem dX7_tellsPlaces_118 : decode cX7_tellsPlaces 118 = .ok (.ifCond .eq 18, 3) := by decide +kernel
theorem dX7_tellsPlaces_121 : decode cX7_tellsPlaces 121 = .ok (.aload_n 0, 1) := by decide +kernel
theorem dX7_tellsPlaces_122 : decode cX7_tellsPlaces 122 = .ok (.getfield 19, 3) := by decide +kernel
theorem dX7_tellsPlaces_125 : decode cX7_tellsPlaces 125 = .ok (.lload 7, 2) := by decide +kernel
theorem dX7_tellsPlaces_127 : decode cX7_tellsPlaces 127 = .ok (.l2i, 1) := by decide +kernel
theorem dX7_tellsPlaces_128 : decode cX7_tellsPlaces 128 = .ok (.invokevirtual 143, 3) := by decide +kernel
theorem dX7_tellsPlaces_131 : decode cX7_tellsPlaces 131 = .ok (.ifCond .ne 5, 3) := by decide +kernel
theorem dX7_tellsPlaces_134 : decode cX7_tellsPlaces 134 = .ok (.iconst 0, 1) := by decide +kernel
theorem dX7_tellsPlaces_135 : decode cX7_tellsPlaces 135 = .ok (.ireturn, 1) := by decide +kernel
theorem dX7_tellsPlaces_136 : decode cX7_tellsPlaces 136 = .ok (.iinc 2 3, 3) := by decide +kernel
theorem dX7_tellsPlaces_139 : decode cX7_tellsPlaces 139 = .ok (.goto (-126), 3) := by decide +kernel
theorem dX7_tellsPlaces_142 : decode cX7_tellsPlaces 142 = .ok (.iconst 1, 1) := by decide +kernel
theorem dX7_tellsPlaces_143 : decode cX7_tellsPlaces 143 = .ok (.ireturn, 1) := by decide +kernel
theorem dX7_agrees_0 : decode cX7_agrees 0 = .ok (.iconst 0, 1) := by decide +kernel
theorem dX7_agrees_1 : decode cX7_agrees 1 = .ok (.istore_n 3, 1) := by decide +kernel
theorem dX7_agrees_2 : decode cX7_agrees 2 = .ok (.iload_n 3, 1) := by decide +kernel
theorem dX7_agrees_3 : decode cX7_agrees 3 = .ok (.iconst 2, 1) := by decide +kernel
theorem dX7_agrees_4 : decode cX7_agrees 4 = .ok (.iadd, 1) := by decide +kernel
theorem dX7_agrees_5 : decode cX7_agrees 5 = .ok (.aload_n 1, 1) := by decide +kernel
theorem dX7_agrees_6 : decode cX7_agrees 6 = .ok (.getfield 395, 3) := by decide +kernel
theorem dX7_agrees_9 : decode cX7_agrees 9 = .ok (.if_icmp .ge 52, 3) := by decide +kernel
theorem dX7_agrees_12 : decode cX7_agrees 12 = .ok (.aload_n 1, 1) := by decide +kernel
theorem dX7_agrees_13 : decode cX7_agrees 13 = .ok (.getfield 406, 3) := by decide +kernel
theorem dX7_agrees_16 : decode cX7_agrees 16 = .ok (.iload_n 3, 1) := by decide +kernel
theorem dX7_agrees_17 : decode cX7_agrees 17 = .ok (.laload, 1) := by decide +kernel
theorem dX7_agrees_18 : decode cX7_agrees 18 = .ok (.l2i, 1) := by decide +kernel
theorem dX7_agrees_19 : decode cX7_agrees 19 = .ok (.istore 4, 2) := by decide +kernel
theorem dX7_agrees_21 : decode cX7_agrees 21 = .ok (.aload_n 1, 1) := by decide +kernel
theorem dX7_agrees_22 : decode cX7_agrees 22 = .ok (.getfield 406, 3) := by decide +kernel
theorem dX7_agrees_25 : decode cX7_agrees 25 = .ok (.iload_n 3, 1) := by decide +kernel
theorem dX7_agrees_26 : decode cX7_agrees 26 = .ok (.iconst 1, 1) := by decide +kernel
theorem dX7_agrees_27 : decode cX7_agrees 27 = .ok (.iadd, 1) := by decide +kernel
theorem dX7_agrees_28 : decode cX7_agrees 28 = .ok (.laload, 1) := by decide +kernel
theorem dX7_agrees_29 : decode cX7_agrees 29 = .ok (.l2i, 1) := by decide +kernel
theorem dX7_agrees_30 : decode cX7_agrees 30 = .ok (.istore 5, 2) := by decide +kernel
theorem dX7_agrees_32 : decode cX7_agrees 32 = .ok (.aload_n 2, 1) := by decide +kernel
theorem dX7_agrees_33 : decode cX7_agrees 33 = .ok (.iload 4, 2) := by decide +kernel
theorem dX7_agrees_35 : decode cX7_agrees 35 = .ok (.iload 5, 2) := by decide +kernel
theorem dX7_agrees_37 : decode cX7_agrees 37 = .ok (.invokevirtual 137, 3) := by decide +kernel
theorem dX7_agrees_40 : decode cX7_agrees 40 = .ok (.i2l, 1) := by decide +kernel
theorem dX7_agrees_41 : decode cX7_agrees 41 = .ok (.aload_n 1, 1) := by decide +kernel
theorem dX7_agrees_42 : decode cX7_agrees 42 = .ok (.getfield 406, 3) := by decide +kernel
theorem dX7_agrees_45 : decode cX7_agrees 45 = .ok (.iload_n 3, 1) := by decide +kernel
theorem dX7_agrees_46 : decode cX7_agrees 46 = .ok (.iconst 2, 1) := by decide +kernel
theorem dX7_agrees_47 : decode cX7_agrees 47 = .ok (.iadd, 1) := by decide +kernel
theorem dX7_agrees_48 : decode cX7_agrees 48 = .ok (.laload, 1) := by decide +kernel
theorem dX7_agrees_49 : decode cX7_agrees 49 = .ok (.lcmp, 1) := by decide +kernel
theorem dX7_agrees_50 : decode cX7_agrees 50 = .ok (.ifCond .eq 5, 3) := by decide +kernel
theorem dX7_agrees_53 : decode cX7_agrees 53 = .ok (.iconst 0, 1) := by decide +kernel
theorem dX7_agrees_54 : decode cX7_agrees 54 = .ok (.ireturn, 1) := by decide +kernel
theorem dX7_agrees_55 : decode cX7_agrees 55 = .ok (.iinc 3 3, 3) := by decide +kernel
theorem dX7_agrees_58 : decode cX7_agrees 58 = .ok (.goto (-56), 3) := by decide +kernel
theorem dX7_agrees_61 : decode cX7_agrees 61 = .ok (.iconst 1, 1) := by decide +kernel
theorem dX7_agrees_62 : decode cX7_agrees 62 = .ok (.ireturn, 1) := by decide +kernel
theorem dX7_possibleRoads_0 : decode cX7_possibleRoads 0 = .ok (.iconst 0, 1) := by decide +kernel
theorem dX7_possibleRoads_1 : decode cX7_possibleRoads 1 = .ok (.istore_n 3, 1) := by decide +kernel
theorem dX7_possibleRoads_2 : decode cX7_possibleRoads 2 = .ok (.iconst 0, 1) := by decide +kernel
theorem dX7_possibleRoads_3 : decode cX7_possibleRoads 3 = .ok (.istore 4, 2) := by decide +kernel
theorem dX7_possibleRoads_5 : decode cX7_possibleRoads 5 = .ok (.iload 4, 2) := by decide +kernel
theorem dX7_possibleRoads_7 : decode cX7_possibleRoads 7 = .ok (.aload_n 0, 1) := by decide +kernel
theorem dX7_possibleRoads_8 : decode cX7_possibleRoads 8 = .ok (.getfield 19, 3) := by decide +kernel
theorem dX7_possibleRoads_11 : decode cX7_possibleRoads 11 = .ok (.getfield 109, 3) := by decide +kernel
theorem dX7_possibleRoads_14 : decode cX7_possibleRoads 14 = .ok (.iload_n 2, 1) := by decide +kernel
theorem dX7_possibleRoads_15 : decode cX7_possibleRoads 15 = .ok (.iaload, 1) := by decide +kernel
theorem dX7_possibleRoads_16 : decode cX7_possibleRoads 16 = .ok (.if_icmp .ge 59, 3) := by decide +kernel
theorem dX7_possibleRoads_19 : decode cX7_possibleRoads 19 = .ok (.aload_n 0, 1) := by decide +kernel
theorem dX7_possibleRoads_20 : decode cX7_possibleRoads 20 = .ok (.iload_n 2, 1) := by decide +kernel
theorem dX7_possibleRoads_21 : decode cX7_possibleRoads 21 = .ok (.iload 4, 2) := by decide +kernel
theorem dX7_possibleRoads_23 : decode cX7_possibleRoads 23 = .ok (.invokevirtual 267, 3) := by decide +kernel
theorem dX7_possibleRoads_26 : decode cX7_possibleRoads 26 = .ok (.aload_n 0, 1) := by decide +kernel
theorem dX7_possibleRoads_27 : decode cX7_possibleRoads 27 = .ok (.getfield 45, 3) := by decide +kernel
theorem dX7_possibleRoads_30 : decode cX7_possibleRoads 30 = .ok (.getfield 441, 3) := by decide +kernel
theorem dX7_possibleRoads_33 : decode cX7_possibleRoads 33 = .ok (.iconst 0, 1) := by decide +kernel
theorem dX7_possibleRoads_34 : decode cX7_possibleRoads 34 = .ok (.aload_n 0, 1) := by decide +kernel
theorem dX7_possibleRoads_35 : decode cX7_possibleRoads 35 = .ok (.getfield 70, 3) := by decide +kernel
theorem dX7_possibleRoads_38 : decode cX7_possibleRoads 38 = .ok (.iload 4, 2) := by decide +kernel
theorem dX7_possibleRoads_40 : decode cX7_possibleRoads 40 = .ok (.sipush 136, 3) := by decide +kernel
theorem dX7_possibleRoads_43 : decode cX7_possibleRoads 43 = .ok (.imul, 1) := by decide +kernel
theorem dX7_possibleRoads_44 : decode cX7_possibleRoads 44 = .ok (.sipush 136, 3) := by decide +kernel
theorem dX7_possibleRoads_47 : decode cX7_possibleRoads 47 = .ok (.invokestatic 409, 3) := by decide +kernel
theorem dX7_possibleRoads_50 : decode cX7_possibleRoads 50 = .ok (.aload_n 0, 1) := by decide +kernel
theorem dX7_possibleRoads_51 : decode cX7_possibleRoads 51 = .ok (.aload_n 1, 1) := by decide +kernel
theorem dX7_possibleRoads_52 : decode cX7_possibleRoads 52 = .ok (.aload_n 0, 1) := by decide +kernel
theorem dX7_possibleRoads_53 : decode cX7_possibleRoads 53 = .ok (.getfield 45, 3) := by decide +kernel
theorem dX7_possibleRoads_56 : decode cX7_possibleRoads 56 = .ok (.invokevirtual 306, 3) := by decide +kernel
theorem dX7_possibleRoads_59 : decode cX7_possibleRoads 59 = .ok (.ifCond .eq 10, 3) := by decide +kernel
theorem dX7_possibleRoads_62 : decode cX7_possibleRoads 62 = .ok (.iload_n 3, 1) := by decide +kernel
theorem dX7_possibleRoads_63 : decode cX7_possibleRoads 63 = .ok (.iconst 1, 1) := by decide +kernel
theorem dX7_possibleRoads_64 : decode cX7_possibleRoads 64 = .ok (.iload 4, 2) := by decide +kernel
theorem dX7_possibleRoads_66 : decode cX7_possibleRoads 66 = .ok (.ishl, 1) := by decide +kernel
theorem dX7_possibleRoads_67 : decode cX7_possibleRoads 67 = .ok (.ior, 1) := by decide +kernel
theorem dX7_possibleRoads_68 : decode cX7_possibleRoads 68 = .ok (.istore_n 3, 1) := by decide +kernel
theorem dX7_possibleRoads_69 : decode cX7_possibleRoads 69 = .ok (.iinc 4 1, 3) := by decide +kernel
theorem dX7_possibleRoads_72 : decode cX7_possibleRoads 72 = .ok (.goto (-67), 3) := by decide +kernel
theorem dX7_possibleRoads_75 : decode cX7_possibleRoads 75 = .ok (.iload_n 3, 1) := by decide +kernel
theorem dX7_possibleRoads_76 : decode cX7_possibleRoads 76 = .ok (.ireturn, 1) := by decide +kernel
theorem layX5 : ∀ k, k < 3 → u_lay RX5 TX5 k ∈ tblG := fun k hk => match k, hk with
  | 0, _ => gw5 237 (by decide +kernel) (by decide +kernel)
  | 1, _ => gw5 239 (by decide +kernel) (by decide +kernel)
  | 2, _ => gw6 1 (by decide +kernel) (by decide +kernel)
  | k + 3, hk => absurd hk (by omega)
theorem clX5 : CLk 5 RX5 TX5 3 tyX5 := ⟨rfl, fun w hw => by
  obtain ⟨k, hk, rfl⟩ := List.mem_map.mp hw
  exact layX5 k (List.mem_range.mp hk), tyX5_ok, nmX5⟩
theorem fk_X7_395 : FLk RX7 395 5 2 (.int) false := ⟨RX5, TX5, 3, tyX5, clX5, by decide, rfl, rfl, rfl, Or.inr ⟨"ObligingPosts", List.mem_of_getElem? (i := 24) (by decide +kernel)⟩⟩
theorem fk_X7_406 : FLk RX7 406 5 0 (.array .long) true := ⟨RX5, TX5, 3, tyX5, clX5, by decide, rfl, rfl, rfl, Or.inr ⟨"ObligingPosts", List.mem_of_getElem? (i := 26) (by decide +kernel)⟩⟩
theorem wd602 : Cond.constantLong RX7 437 (-1) ∈ tblG := gw5 34 (by decide +kernel) (by decide +kernel)
theorem wd603 : Cond.constantLong RX7 439 (14) ∈ tblG := gw5 35 (by decide +kernel) (by decide +kernel)
theorem fk_X7_441 : FLk RX7 441 4 5 (.array .int) true := ⟨RX4, TX4, 9, tyX4, clX4, by decide, rfl, rfl, rfl, Or.inr ⟨"ObligingPosts", List.mem_of_getElem? (i := 31) (by decide +kernel)⟩⟩
theorem wd604 : Cond.methodLink RX7 409 arraycopyName ∈ tblG := gw5 40 (by decide +kernel) (by decide +kernel)
theorem wd605 : Cond.methodLink RX7 306 yX7_agrees ∈ tblG := gw5 41 (by decide +kernel) (by decide +kernel)
theorem wd606 : Cond.instanceMethod yX7_agrees ∈ tblG := gw5 43 (by decide +kernel) (by decide +kernel)
theorem wd607 : Cond.selects RX7 yX7_agrees yX7_agrees ∈ tblG := gw0 34 (by decide +kernel) (by decide +kernel)
theorem wd608 : Cond.code yX7_agrees cX7_agrees 6 (some .boolean) ∈ tblG := gw5 44 (by decide +kernel) (by decide +kernel)
theorem pl_X7_agrees : Plain yX7_agrees 2 := ⟨by decide, by decide, by decide +kernel⟩
theorem lk_X7_306 : LkV RX7 306 7 yX7_agrees cX7_agrees 6 (some .boolean) 2 := ⟨⟨TX7, 12, rfl⟩, wd605, wd606, wd607, wd207, wd608, pl_X7_agrees⟩
theorem wd609 : Cond.methodLink RX7 389 yX7_isSlot ∈ tblG := gw5 27 (by decide +kernel) (by decide +kernel)
theorem wd610 : Cond.static yX7_isSlot ∈ tblG := gw5 28 (by decide +kernel) (by decide +kernel)
theorem wd611 : Cond.code yX7_isSlot cX7_isSlot 1 (some .boolean) ∈ tblG := gw5 29 (by decide +kernel) (by decide +kernel)
theorem pl_X7_isSlot : Plain yX7_isSlot 1 := ⟨by decide, by decide, by decide +kernel⟩
theorem lk_X7_389 : LkS RX7 389 yX7_isSlot cX7_isSlot 1 (some .boolean) 1 := ⟨wd609, wd610, wd207, wd611, pl_X7_isSlot⟩
theorem wd612 : Cond.methodLink RX7 433 yX7_tellsPlaces ∈ tblG := gw5 30 (by decide +kernel) (by decide +kernel)
theorem wd613 : Cond.instanceMethod yX7_tellsPlaces ∈ tblG := gw5 32 (by decide +kernel) (by decide +kernel)
theorem wd614 : Cond.selects RX7 yX7_tellsPlaces yX7_tellsPlaces ∈ tblG := gw0 32 (by decide +kernel) (by decide +kernel)
theorem wd615 : Cond.code yX7_tellsPlaces cX7_tellsPlaces 9 (some .boolean) ∈ tblG := gw5 33 (by decide +kernel) (by decide +kernel)
theorem pl_X7_tellsPlaces : Plain yX7_tellsPlaces 1 := ⟨by decide, by decide, by decide +kernel⟩
theorem lk_X7_433 : LkV RX7 433 7 yX7_tellsPlaces cX7_tellsPlaces 9 (some .boolean) 1 := ⟨⟨TX7, 12, rfl⟩, wd612, wd613, wd614, wd207, wd615, pl_X7_tellsPlaces⟩
theorem wd616 : Cond.methodLink RX7 288 yX7_refusalOfSeen ∈ tblG := gw5 23 (by decide +kernel) (by decide +kernel)
theorem wd617 : Cond.instanceMethod yX7_refusalOfSeen ∈ tblG := gw5 25 (by decide +kernel) (by decide +kernel)
theorem wd618 : Cond.selects RX7 yX7_refusalOfSeen yX7_refusalOfSeen ∈ tblG := gw0 31 (by decide +kernel) (by decide +kernel)
theorem wd619 : Cond.code yX7_refusalOfSeen cX7_refusalOfSeen 3 (some .int) ∈ tblG := gw5 26 (by decide +kernel) (by decide +kernel)
theorem pl_X7_refusalOfSeen : Plain yX7_refusalOfSeen 2 := ⟨by decide, by decide, by decide +kernel⟩
theorem lk_X7_288 : LkV RX7 288 7 yX7_refusalOfSeen cX7_refusalOfSeen 3 (some .int) 2 := ⟨⟨TX7, 12, rfl⟩, wd616, wd617, wd618, wd207, wd619, pl_X7_refusalOfSeen⟩
theorem wd620 : Cond.methodLink RX7 292 yX7_possibleRoads ∈ tblG := gw5 36 (by decide +kernel) (by decide +kernel)
theorem wd621 : Cond.instanceMethod yX7_possibleRoads ∈ tblG := gw5 38 (by decide +kernel) (by decide +kernel)
theorem wd622 : Cond.selects RX7 yX7_possibleRoads yX7_possibleRoads ∈ tblG := gw0 33 (by decide +kernel) (by decide +kernel)
theorem wd623 : Cond.code yX7_possibleRoads cX7_possibleRoads 5 (some .int) ∈ tblG := gw5 39 (by decide +kernel) (by decide +kernel)
theorem pl_X7_possibleRoads : Plain yX7_possibleRoads 2 := ⟨by decide, by decide, by decide +kernel⟩
theorem lk_X7_292 : LkV RX7 292 7 yX7_possibleRoads cX7_possibleRoads 5 (some .int) 2 := ⟨⟨TX7, 12, rfl⟩, wd620, wd621, wd622, wd207, wd623, pl_X7_possibleRoads⟩
theorem wd624 : Cond.methodLink RX7 296 yX7_bestQuestion ∈ tblG := gw5 49 (by decide +kernel) (by decide +kernel)
theorem wd625 : Cond.instanceMethod yX7_bestQuestion ∈ tblG := gw5 51 (by decide +kernel) (by decide +kernel)
theorem wd626 : Cond.selects RX7 yX7_bestQuestion yX7_bestQuestion ∈ tblG := gw0 35 (by decide +kernel) (by decide +kernel)
theorem wd627 : Cond.code yX7_bestQuestion cX7_bestQuestion 7 (some .int) ∈ tblG := gw5 52 (by decide +kernel) (by decide +kernel)
theorem pl_X7_bestQuestion : Plain yX7_bestQuestion 1 := ⟨by decide, by decide, by decide +kernel⟩
theorem lk_X7_296 : LkV RX7 296 7 yX7_bestQuestion cX7_bestQuestion 7 (some .int) 1 := ⟨⟨TX7, 12, rfl⟩, wd624, wd625, wd626, wd207, wd627, pl_X7_bestQuestion⟩
theorem wd628 : Cond.fieldLink RX5 15 RX5 "width" "I" ∈ tblG := gw5 233 (by decide +kernel) (by decide +kernel)
theorem fk_X5_15 : FLk RX5 15 5 1 (.int) false := ⟨RX5, TX5, 3, tyX5, clX5, by decide, rfl, rfl, rfl, Or.inl wd628⟩
theorem wd629 : Cond.fieldLink RX5 9 RX5 "numbers" "[J" ∈ tblG := gw5 231 (by decide +kernel) (by decide +kernel)
theorem fk_X5_9 : FLk RX5 9 5 0 (.array .long) true := ⟨RX5, TX5, 3, tyX5, clX5, by decide, rfl, rfl, rfl, Or.inl wd629⟩
theorem wd630 : Cond.methodLink RX5 28 yX5_cut ∈ tblG := gw6 17 (by decide +kernel) (by decide +kernel)
theorem wd631 : Cond.instanceMethod yX5_cut ∈ tblG := gw6 19 (by decide +kernel) (by decide +kernel)
theorem wd632 : Cond.selects RX5 yX5_cut yX5_cut ∈ tblG := gw0 46 (by decide +kernel) (by decide +kernel)
theorem wd633 : Cond.initialized RX5 ∈ tblG := gw1 17 (by decide +kernel) (by decide +kernel)
theorem wd634 : Cond.code yX5_cut cX5_cut 3 (some .long) ∈ tblG := gw6 20 (by decide +kernel) (by decide +kernel)
theorem pl_X5_cut : Plain yX5_cut 1 := ⟨by decide, by decide, by decide +kernel⟩
theorem lk_X5_28 : LkV RX5 28 5 yX5_cut cX5_cut 3 (some .long) 1 := ⟨⟨TX5, 3, rfl⟩, wd630, wd631, wd632, wd633, wd634, pl_X5_cut⟩
theorem wd635 : Cond.fieldLink RX5 19 RX5 "size" "I" ∈ tblG := gw5 235 (by decide +kernel) (by decide +kernel)
theorem fk_X5_19 : FLk RX5 19 5 2 (.int) false := ⟨RX5, TX5, 3, tyX5, clX5, by decide, rfl, rfl, rfl, Or.inl wd635⟩
