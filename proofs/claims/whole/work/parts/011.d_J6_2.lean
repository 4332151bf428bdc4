theorem dX5_secondRowDiffers_22 : decode cX5_secondRowDiffers 22 = .ok (.getfield 15, 3) := by decide +kernel
theorem dX5_secondRowDiffers_25 : decode cX5_secondRowDiffers 25 = .ok (.aconst_null, 1) := by decide +kernel
theorem dX5_secondRowDiffers_26 : decode cX5_secondRowDiffers 26 = .ok (.invokevirtual 33, 3) := by decide +kernel
theorem dX5_secondRowDiffers_29 : decode cX5_secondRowDiffers 29 = .ok (.aload_n 0, 1) := by decide +kernel
theorem dX5_secondRowDiffers_30 : decode cX5_secondRowDiffers 30 = .ok (.aload_n 2, 1) := by decide +kernel
theorem dX5_secondRowDiffers_31 : decode cX5_secondRowDiffers 31 = .ok (.invokestatic 39, 3) := by decide +kernel
theorem dX5_secondRowDiffers_34 : decode cX5_secondRowDiffers 34 = .ok (.invokevirtual 43, 3) := by decide +kernel
theorem dX5_secondRowDiffers_37 : decode cX5_secondRowDiffers 37 = .ok (.istore 6, 2) := by decide +kernel
theorem dX5_secondRowDiffers_39 : decode cX5_secondRowDiffers 39 = .ok (.aload_n 0, 1) := by decide +kernel
theorem dX5_secondRowDiffers_40 : decode cX5_secondRowDiffers 40 = .ok (.iload 6, 2) := by decide +kernel
theorem dX5_secondRowDiffers_42 : decode cX5_secondRowDiffers 42 = .ok (.invokevirtual 47, 3) := by decide +kernel
theorem dX5_secondRowDiffers_45 : decode cX5_secondRowDiffers 45 = .ok (.lstore 7, 2) := by decide +kernel
theorem dX5_secondRowDiffers_47 : decode cX5_secondRowDiffers 47 = .ok (.lload 7, 2) := by decide +kernel
theorem dX5_secondRowDiffers_49 : decode cX5_secondRowDiffers 49 = .ok (.ldc2_w 59, 3) := by decide +kernel
theorem dX5_secondRowDiffers_52 : decode cX5_secondRowDiffers 52 = .ok (.land, 1) := by decide +kernel
theorem dX5_secondRowDiffers_53 : decode cX5_secondRowDiffers 53 = .ok (.lconst 0, 1) := by decide +kernel
theorem dX5_secondRowDiffers_54 : decode cX5_secondRowDiffers 54 = .ok (.lcmp, 1) := by decide +kernel
theorem dX5_secondRowDiffers_55 : decode cX5_secondRowDiffers 55 = .ok (.ifCond .ne 5, 3) := by decide +kernel
theorem dX5_secondRowDiffers_58 : decode cX5_secondRowDiffers 58 = .ok (.iconst 1, 1) := by decide +kernel
theorem dX5_secondRowDiffers_59 : decode cX5_secondRowDiffers 59 = .ok (.ireturn, 1) := by decide +kernel
theorem dX5_secondRowDiffers_60 : decode cX5_secondRowDiffers 60 = .ok (.aload_n 0, 1) := by decide +kernel
theorem dX5_secondRowDiffers_61 : decode cX5_secondRowDiffers 61 = .ok (.iload 6, 2) := by decide +kernel
theorem dX5_secondRowDiffers_63 : decode cX5_secondRowDiffers 63 = .ok (.lload 7, 2) := by decide +kernel
theorem dX5_secondRowDiffers_65 : decode cX5_secondRowDiffers 65 = .ok (.lconst 1, 1) := by decide +kernel
theorem dX5_secondRowDiffers_66 : decode cX5_secondRowDiffers 66 = .ok (.lsub, 1) := by decide +kernel
theorem dX5_secondRowDiffers_67 : decode cX5_secondRowDiffers 67 = .ok (.invokevirtual 51, 3) := by decide +kernel
theorem dX5_secondRowDiffers_70 : decode cX5_secondRowDiffers 70 = .ok (.aload_n 0, 1) := by decide +kernel
theorem dX5_secondRowDiffers_71 : decode cX5_secondRowDiffers 71 = .ok (.aload_n 1, 1) := by decide +kernel
theorem dX5_secondRowDiffers_72 : decode cX5_secondRowDiffers 72 = .ok (.invokevirtual 55, 3) := by decide +kernel
theorem dX5_secondRowDiffers_75 : decode cX5_secondRowDiffers 75 = .ok (.iinc 5 1, 3) := by decide +kernel
theorem dX5_secondRowDiffers_78 : decode cX5_secondRowDiffers 78 = .ok (.goto (-68), 3) := by decide +kernel
theorem dX5_secondRowDiffers_81 : decode cX5_secondRowDiffers 81 = .ok (.iconst 0, 1) := by decide +kernel
theorem dX5_secondRowDiffers_82 : decode cX5_secondRowDiffers 82 = .ok (.ireturn, 1) := by decide +kernel
theorem dX5_keyOf_0 : decode cX5_keyOf 0 = .ok (.aload_n 0, 1) := by decide +kernel
theorem dX5_keyOf_1 : decode cX5_keyOf 1 = .ok (.getfield 61, 3) := by decide +kernel
theorem dX5_keyOf_4 : decode cX5_keyOf 4 = .ok (.iconst 1, 1) := by decide +kernel
theorem dX5_keyOf_5 : decode cX5_keyOf 5 = .ok (.iadd, 1) := by decide +kernel
theorem dX5_keyOf_6 : decode cX5_keyOf 6 = .ok (.ireturn, 1) := by decide +kernel
theorem dX5_slotAt_0 : decode cX5_slotAt 0 = .ok (.iload_n 1, 1) := by decide +kernel
theorem dX5_slotAt_1 : decode cX5_slotAt 1 = .ok (.ifCond .lt 21, 3) := by decide +kernel
theorem dX5_slotAt_4 : decode cX5_slotAt 4 = .ok (.iload_n 1, 1) := by decide +kernel
theorem dX5_slotAt_5 : decode cX5_slotAt 5 = .ok (.aload_n 0, 1) := by decide +kernel
theorem dX5_slotAt_6 : decode cX5_slotAt 6 = .ok (.getfield 11, 3) := by decide +kernel
theorem dX5_slotAt_9 : decode cX5_slotAt 9 = .ok (.arraylength, 1) := by decide +kernel
theorem dX5_slotAt_10 : decode cX5_slotAt 10 = .ok (.if_icmp .ge 12, 3) := by decide +kernel
theorem dX5_slotAt_13 : decode cX5_slotAt 13 = .ok (.aload_n 0, 1) := by decide +kernel
theorem dX5_slotAt_14 : decode cX5_slotAt 14 = .ok (.getfield 11, 3) := by decide +kernel
theorem dX5_slotAt_17 : decode cX5_slotAt 17 = .ok (.iload_n 1, 1) := by decide +kernel
theorem dX5_slotAt_18 : decode cX5_slotAt 18 = .ok (.laload, 1) := by decide +kernel
theorem dX5_slotAt_19 : decode cX5_slotAt 19 = .ok (.goto 4, 3) := by decide +kernel
theorem dX5_slotAt_22 : decode cX5_slotAt 22 = .ok (.lconst 0, 1) := by decide +kernel
theorem dX5_slotAt_23 : decode cX5_slotAt 23 = .ok (.lreturn, 1) := by decide +kernel
theorem dX5_putSlot_0 : decode cX5_putSlot 0 = .ok (.iload_n 1, 1) := by decide +kernel
theorem dX5_putSlot_1 : decode cX5_putSlot 1 = .ok (.ifCond .lt 19, 3) := by decide +kernel
theorem dX5_putSlot_4 : decode cX5_putSlot 4 = .ok (.iload_n 1, 1) := by decide +kernel
theorem dX5_putSlot_5 : decode cX5_putSlot 5 = .ok (.aload_n 0, 1) := by decide +kernel
theorem dX5_putSlot_6 : decode cX5_putSlot 6 = .ok (.getfield 11, 3) := by decide +kernel
theorem dX5_putSlot_9 : decode cX5_putSlot 9 = .ok (.arraylength, 1) := by decide +kernel
theorem dX5_putSlot_10 : decode cX5_putSlot 10 = .ok (.if_icmp .ge 10, 3) := by decide +kernel
theorem dX5_putSlot_13 : decode cX5_putSlot 13 = .ok (.aload_n 0, 1) := by decide +kernel
theorem dX5_putSlot_14 : decode cX5_putSlot 14 = .ok (.getfield 11, 3) := by decide +kernel
theorem dX5_putSlot_17 : decode cX5_putSlot 17 = .ok (.iload_n 1, 1) := by decide +kernel
theorem dX5_putSlot_18 : decode cX5_putSlot 18 = .ok (.lload_n 2, 1) := by decide +kernel
theorem dX5_putSlot_19 : decode cX5_putSlot 19 = .ok (.lastore, 1) := by decide +kernel
theorem dX5_putSlot_20 : decode cX5_putSlot 20 = .ok (.return_, 1) := by decide +kernel
set_option maxRecDepth 20000 in
theorem ggX5_slotOf_X5_slotAt : GoodIn wsX5_slotOf wsX5_slotAt := goodIn_r _ [6, 7, 8, 9, 10] rfl (by decide +kernel)
set_option maxRecDepth 20000 in
theorem gX5_slotOf_X5_slotAt : GoodIn wsX5_slotOf (wsV RX5 47 RX5 yX5_slotAt wsX5_slotAt) := goodIn_app (goodIn_of _ (by decide +kernel)) ggX5_slotOf_X5_slotAt
theorem dX5_slotOf_0 : decode cX5_slotOf 0 = .ok (.iload_n 1, 1) := by decide +kernel
theorem dX5_slotOf_1 : decode cX5_slotOf 1 = .ok (.ldc 64, 2) := by decide +kernel
theorem dX5_slotOf_3 : decode cX5_slotOf 3 = .ok (.imul, 1) := by decide +kernel
theorem dX5_slotOf_4 : decode cX5_slotOf 4 = .ok (.bipush 19, 2) := by decide +kernel
theorem dX5_slotOf_6 : decode cX5_slotOf 6 = .ok (.iushr, 1) := by decide +kernel
theorem dX5_slotOf_7 : decode cX5_slotOf 7 = .ok (.istore_n 2, 1) := by decide +kernel
theorem dX5_slotOf_8 : decode cX5_slotOf 8 = .ok (.iconst 0, 1) := by decide +kernel
theorem dX5_slotOf_9 : decode cX5_slotOf 9 = .ok (.istore_n 3, 1) := by decide +kernel
theorem dX5_slotOf_10 : decode cX5_slotOf 10 = .ok (.iload_n 3, 1) := by decide +kernel
theorem dX5_slotOf_11 : decode cX5_slotOf 11 = .ok (.sipush 8192, 3) := by decide +kernel
theorem dX5_slotOf_14 : decode cX5_slotOf 14 = .ok (.if_icmp .ge 44, 3) := by decide +kernel
theorem dX5_slotOf_17 : decode cX5_slotOf 17 = .ok (.aload_n 0, 1) := by decide +kernel
theorem dX5_slotOf_18 : decode cX5_slotOf 18 = .ok (.iload_n 2, 1) := by decide +kernel
theorem dX5_slotOf_19 : decode cX5_slotOf 19 = .ok (.invokevirtual 47, 3) := by decide +kernel
theorem dX5_slotOf_22 : decode cX5_slotOf 22 = .ok (.lstore 4, 2) := by decide +kernel
theorem dX5_slotOf_24 : decode cX5_slotOf 24 = .ok (.lload 4, 2) := by decide +kernel
theorem dX5_slotOf_26 : decode cX5_slotOf 26 = .ok (.lconst 0, 1) := by decide +kernel
theorem dX5_slotOf_27 : decode cX5_slotOf 27 = .ok (.lcmp, 1) := by decide +kernel
theorem dX5_slotOf_28 : decode cX5_slotOf 28 = .ok (.ifCond .eq 14, 3) := by decide +kernel
theorem dX5_slotOf_31 : decode cX5_slotOf 31 = .ok (.lload 4, 2) := by decide +kernel
theorem dX5_slotOf_33 : decode cX5_slotOf 33 = .ok (.bipush 13, 2) := by decide +kernel
theorem dX5_slotOf_35 : decode cX5_slotOf 35 = .ok (.lushr, 1) := by decide +kernel
theorem dX5_slotOf_36 : decode cX5_slotOf 36 = .ok (.iload_n 1, 1) := by decide +kernel
theorem dX5_slotOf_37 : decode cX5_slotOf 37 = .ok (.i2l, 1) := by decide +kernel
theorem dX5_slotOf_38 : decode cX5_slotOf 38 = .ok (.lcmp, 1) := by decide +kernel
theorem dX5_slotOf_39 : decode cX5_slotOf 39 = .ok (.ifCond .ne 5, 3) := by decide +kernel
theorem dX5_slotOf_42 : decode cX5_slotOf 42 = .ok (.iload_n 2, 1) := by decide +kernel
theorem dX5_slotOf_43 : decode cX5_slotOf 43 = .ok (.ireturn, 1) := by decide +kernel
theorem dX5_slotOf_44 : decode cX5_slotOf 44 = .ok (.iload_n 2, 1) := by decide +kernel
theorem dX5_slotOf_45 : decode cX5_slotOf 45 = .ok (.iconst 1, 1) := by decide +kernel
theorem dX5_slotOf_46 : decode cX5_slotOf 46 = .ok (.iadd, 1) := by decide +kernel
theorem dX5_slotOf_47 : decode cX5_slotOf 47 = .ok (.sipush 8191, 3) := by decide +kernel
theorem dX5_slotOf_50 : decode cX5_slotOf 50 = .ok (.iand, 1) := by decide +kernel
theorem dX5_slotOf_51 : decode cX5_slotOf 51 = .ok (.istore_n 2, 1) := by decide +kernel
theorem dX5_slotOf_52 : decode cX5_slotOf 52 = .ok (.iinc 3 1, 3) := by decide +kernel
theorem dX5_slotOf_55 : decode cX5_slotOf 55 = .ok (.goto (-45), 3) := by decide +kernel
theorem dX5_slotOf_58 : decode cX5_slotOf 58 = .ok (.iload_n 2, 1) := by decide +kernel
theorem dX5_slotOf_59 : decode cX5_slotOf 59 = .ok (.ireturn, 1) := by decide +kernel
set_option maxRecDepth 20000 in
theorem ggX5_turnLots_X2_lotsTaken : GoodIn wsX5_turnLots wsX2_lotsTaken := goodIn_r _ [6, 7, 8, 25, 26, 27, 28, 29, 30] rfl (by decide +kernel)
set_option maxRecDepth 20000 in
theorem gX5_turnLots_X2_lotsTaken : GoodIn wsX5_turnLots (wsV RX5 71 RX2 yX2_lotsTaken wsX2_lotsTaken) := goodIn_app (goodIn_of _ (by decide +kernel)) ggX5_turnLots_X2_lotsTaken
set_option maxRecDepth 20000 in
theorem ggX5_turnLots_X9_at : GoodIn wsX5_turnLots wsX9_at := goodIn_r _ [11] rfl (by decide +kernel)
set_option maxRecDepth 20000 in
theorem gX5_turnLots_X9_at_n77 : GoodIn wsX5_turnLots (wsX9_at) := ggX5_turnLots_X9_at
set_option maxRecDepth 20000 in
theorem ggX5_turnLots_X9_mod : GoodIn wsX5_turnLots wsX9_mod := goodIn_r _ [13] rfl (by decide +kernel)
set_option maxRecDepth 20000 in
theorem gX5_turnLots_X9_mod_n84 : GoodIn wsX5_turnLots (wsX9_mod) := ggX5_turnLots_X9_mod
set_option maxRecDepth 20000 in
theorem ggX5_turnLots_X9_put : GoodIn wsX5_turnLots wsX9_put := goodIn_r _ [15] rfl (by decide +kernel)
set_option maxRecDepth 20000 in
theorem gX5_turnLots_X9_put_n88 : GoodIn wsX5_turnLots (wsX9_put) := ggX5_turnLots_X9_put
theorem dX5_turnLots_0 : decode cX5_turnLots 0 = .ok (.aload_n 1, 1) := by decide +kernel
theorem dX5_turnLots_1 : decode cX5_turnLots 1 = .ok (.getfield 65, 3) := by decide +kernel
theorem dX5_turnLots_4 : decode cX5_turnLots 4 = .ok (.invokevirtual 71, 3) := by decide +kernel
theorem dX5_turnLots_7 : decode cX5_turnLots 7 = .ok (.istore_n 2, 1) := by decide +kernel
theorem dX5_turnLots_8 : decode cX5_turnLots 8 = .ok (.iconst 0, 1) := by decide +kernel
theorem dX5_turnLots_9 : decode cX5_turnLots 9 = .ok (.istore_n 3, 1) := by decide +kernel
theorem dX5_turnLots_10 : decode cX5_turnLots 10 = .ok (.iload_n 3, 1) := by decide +kernel
theorem dX5_turnLots_11 : decode cX5_turnLots 11 = .ok (.iload_n 2, 1) := by decide +kernel
theorem dX5_turnLots_12 : decode cX5_turnLots 12 = .ok (.if_icmp .ge 44, 3) := by decide +kernel
theorem dX5_turnLots_15 : decode cX5_turnLots 15 = .ok (.aload_n 0, 1) := by decide +kernel
theorem dX5_turnLots_16 : decode cX5_turnLots 16 = .ok (.getfield 15, 3) := by decide +kernel
theorem dX5_turnLots_19 : decode cX5_turnLots 19 = .ok (.iload_n 3, 1) := by decide +kernel
theorem dX5_turnLots_20 : decode cX5_turnLots 20 = .ok (.invokestatic 77, 3) := by decide +kernel
theorem dX5_turnLots_23 : decode cX5_turnLots 23 = .ok (.iconst 1, 1) := by decide +kernel
theorem dX5_turnLots_24 : decode cX5_turnLots 24 = .ok (.iadd, 1) := by decide +kernel
theorem dX5_turnLots_25 : decode cX5_turnLots 25 = .ok (.aload_n 1, 1) := by decide +kernel
theorem dX5_turnLots_26 : decode cX5_turnLots 26 = .ok (.getfield 81, 3) := by decide +kernel
theorem dX5_turnLots_29 : decode cX5_turnLots 29 = .ok (.invokestatic 84, 3) := by decide +kernel
theorem dX5_turnLots_32 : decode cX5_turnLots 32 = .ok (.istore 4, 2) := by decide +kernel
theorem dX5_turnLots_34 : decode cX5_turnLots 34 = .ok (.aload_n 0, 1) := by decide +kernel
theorem dX5_turnLots_35 : decode cX5_turnLots 35 = .ok (.getfield 15, 3) := by decide +kernel
theorem dX5_turnLots_38 : decode cX5_turnLots 38 = .ok (.iload_n 3, 1) := by decide +kernel
theorem dX5_turnLots_39 : decode cX5_turnLots 39 = .ok (.iload 4, 2) := by decide +kernel
theorem dX5_turnLots_41 : decode cX5_turnLots 41 = .ok (.invokestatic 88, 3) := by decide +kernel
theorem dX5_turnLots_44 : decode cX5_turnLots 44 = .ok (.iload 4, 2) := by decide +kernel
theorem dX5_turnLots_46 : decode cX5_turnLots 46 = .ok (.ifCond .eq 4, 3) := by decide +kernel
theorem dX5_turnLots_49 : decode cX5_turnLots 49 = .ok (.return_, 1) := by decide +kernel
theorem dX5_turnLots_50 : decode cX5_turnLots 50 = .ok (.iinc 3 1, 3) := by decide +kernel
theorem dX5_turnLots_53 : decode cX5_turnLots 53 = .ok (.goto (-43), 3) := by decide +kernel
theorem dX5_turnLots_56 : decode cX5_turnLots 56 = .ok (.return_, 1) := by decide +kernel
theorem dX2_init_0 : decode cX2_init 0 = .ok (.aload_n 0, 1) := by decide +kernel
theorem dX2_init_1 : decode cX2_init 1 = .ok (.invokespecial 3, 3) := by decide +kernel
theorem dX2_init_4 : decode cX2_init 4 = .ok (.aload_n 0, 1) := by decide +kernel
theorem dX2_init_5 : decode cX2_init 5 = .ok (.bipush 96, 2) := by decide +kernel
theorem dX2_init_7 : decode cX2_init 7 = .ok (.newarray .int, 2) := by decide +kernel
theorem dX2_init_9 : decode cX2_init 9 = .ok (.putfield 9, 3) := by decide +kernel
theorem dX2_init_12 : decode cX2_init 12 = .ok (.aload_n 0, 1) := by decide +kernel
theorem dX2_init_13 : decode cX2_init 13 = .ok (.bipush 16, 2) := by decide +kernel
theorem dX2_init_15 : decode cX2_init 15 = .ok (.newarray .int, 2) := by decide +kernel
theorem dX2_init_17 : decode cX2_init 17 = .ok (.putfield 15, 3) := by decide +kernel
theorem dX2_init_20 : decode cX2_init 20 = .ok (.return_, 1) := by decide +kernel
theorem dX2_has_0 : decode cX2_has 0 = .ok (.iload_n 1, 1) := by decide +kernel
theorem dX2_has_1 : decode cX2_has 1 = .ok (.ifCond .lt 15, 3) := by decide +kernel
theorem dX2_has_4 : decode cX2_has 4 = .ok (.iload_n 1, 1) := by decide +kernel
theorem dX2_has_5 : decode cX2_has 5 = .ok (.aload_n 0, 1) := by decide +kernel
theorem dX2_has_6 : decode cX2_has 6 = .ok (.getfield 18, 3) := by decide +kernel
theorem dX2_has_9 : decode cX2_has 9 = .ok (.if_icmp .ge 7, 3) := by decide +kernel
theorem dX2_has_12 : decode cX2_has 12 = .ok (.iconst 1, 1) := by decide +kernel
theorem dX2_has_13 : decode cX2_has 13 = .ok (.goto 4, 3) := by decide +kernel
theorem dX2_has_16 : decode cX2_has 16 = .ok (.iconst 0, 1) := by decide +kernel
theorem dX2_has_17 : decode cX2_has 17 = .ok (.ireturn, 1) := by decide +kernel
set_option maxRecDepth 20000 in
theorem ggX2_cell_X9_at : GoodIn wsX2_cell wsX9_at := goodIn_r _ [4] rfl (by decide +kernel)
set_option maxRecDepth 20000 in
theorem gX2_cell_X9_at_n22 : GoodIn wsX2_cell (wsX9_at) := ggX2_cell_X9_at
theorem dX2_cell_0 : decode cX2_cell 0 = .ok (.aload_n 0, 1) := by decide +kernel
theorem dX2_cell_1 : decode cX2_cell 1 = .ok (.getfield 9, 3) := by decide +kernel
theorem dX2_cell_4 : decode cX2_cell 4 = .ok (.iload_n 1, 1) := by decide +kernel
theorem dX2_cell_5 : decode cX2_cell 5 = .ok (.bipush 6, 2) := by decide +kernel
theorem dX2_cell_7 : decode cX2_cell 7 = .ok (.imul, 1) := by decide +kernel
theorem dX2_cell_8 : decode cX2_cell 8 = .ok (.iload_n 2, 1) := by decide +kernel
theorem dX2_cell_9 : decode cX2_cell 9 = .ok (.iadd, 1) := by decide +kernel
theorem dX2_cell_10 : decode cX2_cell 10 = .ok (.invokestatic 22, 3) := by decide +kernel
theorem dX2_cell_13 : decode cX2_cell 13 = .ok (.ireturn, 1) := by decide +kernel
theorem dX2_hasBecome_0 : decode cX2_hasBecome 0 = .ok (.aload_n 0, 1) := by decide +kernel
theorem dX2_hasBecome_1 : decode cX2_hasBecome 1 = .ok (.getfield 26, 3) := by decide +kernel
theorem dX2_hasBecome_4 : decode cX2_hasBecome 4 = .ok (.iload_n 1, 1) := by decide +kernel
theorem dX2_hasBecome_5 : decode cX2_hasBecome 5 = .ok (.ishr, 1) := by decide +kernel
theorem dX2_hasBecome_6 : decode cX2_hasBecome 6 = .ok (.iconst 1, 1) := by decide +kernel
theorem dX2_hasBecome_7 : decode cX2_hasBecome 7 = .ok (.iand, 1) := by decide +kernel
theorem dX2_hasBecome_8 : decode cX2_hasBecome 8 = .ok (.iconst 1, 1) := by decide +kernel
theorem dX2_hasBecome_9 : decode cX2_hasBecome 9 = .ok (.if_icmp .ne 7, 3) := by decide +kernel
theorem dX2_hasBecome_12 : decode cX2_hasBecome 12 = .ok (.iconst 1, 1) := by decide +kernel
theorem dX2_hasBecome_13 : decode cX2_hasBecome 13 = .ok (.goto 4, 3) := by decide +kernel
theorem dX2_hasBecome_16 : decode cX2_hasBecome 16 = .ok (.iconst 0, 1) := by decide +kernel
theorem dX2_hasBecome_17 : decode cX2_hasBecome 17 = .ok (.ireturn, 1) := by decide +kernel
theorem dX2_lotsTaken_0 : decode cX2_lotsTaken 0 = .ok (.iconst 2, 1) := by decide +kernel
theorem dX2_lotsTaken_1 : decode cX2_lotsTaken 1 = .ok (.aload_n 0, 1) := by decide +kernel
theorem dX2_lotsTaken_2 : decode cX2_lotsTaken 2 = .ok (.getfield 29, 3) := by decide +kernel
theorem dX2_lotsTaken_5 : decode cX2_lotsTaken 5 = .ok (.imul, 1) := by decide +kernel
theorem dX2_lotsTaken_6 : decode cX2_lotsTaken 6 = .ok (.bipush 8, 2) := by decide +kernel
theorem dX2_lotsTaken_8 : decode cX2_lotsTaken 8 = .ok (.aload_n 0, 1) := by decide +kernel
theorem dX2_lotsTaken_9 : decode cX2_lotsTaken 9 = .ok (.getfield 32, 3) := by decide +kernel
theorem dX2_lotsTaken_12 : decode cX2_lotsTaken 12 = .ok (.imul, 1) := by decide +kernel
theorem dX2_lotsTaken_13 : decode cX2_lotsTaken 13 = .ok (.iadd, 1) := by decide +kernel
theorem dX2_lotsTaken_14 : decode cX2_lotsTaken 14 = .ok (.ireturn, 1) := by decide +kernel
set_option maxRecDepth 20000 in
theorem ggX2_lotsOf_X2_cell : GoodIn wsX2_lotsOf wsX2_cell := goodIn_r _ [5, 6, 7, 8, 9, 10, 11, 12, 13, 14, 15] rfl (by decide +kernel)
set_option maxRecDepth 20000 in
theorem gX2_lotsOf_X2_cell : GoodIn wsX2_lotsOf (wsV RX2 35 RX2 yX2_cell wsX2_cell) := goodIn_app (goodIn_of _ (by decide +kernel)) ggX2_lotsOf_X2_cell
theorem dX2_lotsOf_0 : decode cX2_lotsOf 0 = .ok (.aload_n 0, 1) := by decide +kernel
theorem dX2_lotsOf_1 : decode cX2_lotsOf 1 = .ok (.iload_n 1, 1) := by decide +kernel
theorem dX2_lotsOf_2 : decode cX2_lotsOf 2 = .ok (.iconst 0, 1) := by decide +kernel
theorem dX2_lotsOf_3 : decode cX2_lotsOf 3 = .ok (.invokevirtual 35, 3) := by decide +kernel
theorem dX2_lotsOf_6 : decode cX2_lotsOf 6 = .ok (.istore_n 2, 1) := by decide +kernel
theorem dX2_lotsOf_7 : decode cX2_lotsOf 7 = .ok (.iload_n 2, 1) := by decide +kernel
theorem dX2_lotsOf_8 : decode cX2_lotsOf 8 = .ok (.ifCond .ne 7, 3) := by decide +kernel
theorem dX2_lotsOf_11 : decode cX2_lotsOf 11 = .ok (.iconst 2, 1) := by decide +kernel
theorem dX2_lotsOf_12 : decode cX2_lotsOf 12 = .ok (.goto 14, 3) := by decide +kernel
theorem dX2_lotsOf_15 : decode cX2_lotsOf 15 = .ok (.iload_n 2, 1) := by decide +kernel
theorem dX2_lotsOf_16 : decode cX2_lotsOf 16 = .ok (.iconst 4, 1) := by decide +kernel
theorem dX2_lotsOf_17 : decode cX2_lotsOf 17 = .ok (.if_icmp .ne 8, 3) := by decide +kernel
theorem dX2_lotsOf_20 : decode cX2_lotsOf 20 = .ok (.bipush 8, 2) := by decide +kernel
theorem dX2_lotsOf_22 : decode cX2_lotsOf 22 = .ok (.goto 4, 3) := by decide +kernel
theorem dX2_lotsOf_25 : decode cX2_lotsOf 25 = .ok (.iconst 0, 1) := by decide +kernel
theorem dX2_lotsOf_26 : decode cX2_lotsOf 26 = .ok (.ireturn, 1) := by decide +kernel
set_option maxRecDepth 20000 in
theorem ggX2_seenOf_X2_cell : GoodIn wsX2_seenOf wsX2_cell := goodIn_r _ [5, 6, 7, 8, 9, 10, 11, 12, 13, 14, 15] rfl (by decide +kernel)
set_option maxRecDepth 20000 in
theorem gX2_seenOf_X2_cell : GoodIn wsX2_seenOf (wsV RX2 35 RX2 yX2_cell wsX2_cell) := goodIn_app (goodIn_of _ (by decide +kernel)) ggX2_seenOf_X2_cell
theorem dX2_seenOf_0 : decode cX2_seenOf 0 = .ok (.aload_n 0, 1) := by decide +kernel
theorem dX2_seenOf_1 : decode cX2_seenOf 1 = .ok (.iload_n 1, 1) := by decide +kernel
theorem dX2_seenOf_2 : decode cX2_seenOf 2 = .ok (.iconst 0, 1) := by decide +kernel
theorem dX2_seenOf_3 : decode cX2_seenOf 3 = .ok (.invokevirtual 35, 3) := by decide +kernel
theorem dX2_seenOf_6 : decode cX2_seenOf 6 = .ok (.lookupswitch 55 #[(0, 34), (4, 50), (5, 53)], 34) := by decide +kernel
theorem dX2_seenOf_40 : decode cX2_seenOf 40 = .ok (.aload_n 0, 1) := by decide +kernel
theorem dX2_seenOf_41 : decode cX2_seenOf 41 = .ok (.iload_n 1, 1) := by decide +kernel
theorem dX2_seenOf_42 : decode cX2_seenOf 42 = .ok (.iconst 4, 1) := by decide +kernel
theorem dX2_seenOf_43 : decode cX2_seenOf 43 = .ok (.invokevirtual 35, 3) := by decide +kernel
theorem dX2_seenOf_46 : decode cX2_seenOf 46 = .ok (.iload_n 2, 1) := by decide +kernel
theorem dX2_seenOf_47 : decode cX2_seenOf 47 = .ok (.if_icmp .ne 7, 3) := by decide +kernel
theorem dX2_seenOf_50 : decode cX2_seenOf 50 = .ok (.iconst 3, 1) := by decide +kernel
theorem dX2_seenOf_51 : decode cX2_seenOf 51 = .ok (.goto 4, 3) := by decide +kernel
theorem dX2_seenOf_54 : decode cX2_seenOf 54 = .ok (.iconst 1, 1) := by decide +kernel
theorem dX2_seenOf_55 : decode cX2_seenOf 55 = .ok (.ireturn, 1) := by decide +kernel
theorem dX2_seenOf_56 : decode cX2_seenOf 56 = .ok (.bipush 9, 2) := by decide +kernel
theorem dX2_seenOf_58 : decode cX2_seenOf 58 = .ok (.ireturn, 1) := by decide +kernel
theorem dX2_seenOf_59 : decode cX2_seenOf 59 = .ok (.iconst 3, 1) := by decide +kernel
theorem dX2_seenOf_60 : decode cX2_seenOf 60 = .ok (.ireturn, 1) := by decide +kernel
theorem dX2_seenOf_61 : decode cX2_seenOf 61 = .ok (.iconst 0, 1) := by decide +kernel
theorem dX2_seenOf_62 : decode cX2_seenOf 62 = .ok (.ireturn, 1) := by decide +kernel
set_option maxRecDepth 20000 in
theorem ggX2_inputsOf_X2_cell : GoodIn wsX2_inputsOf wsX2_cell := goodIn_r _ [6, 7, 8, 9, 10, 11, 12, 13, 14, 15, 16] rfl (by decide +kernel)
set_option maxRecDepth 20000 in
theorem gX2_inputsOf_X2_cell : GoodIn wsX2_inputsOf (wsV RX2 35 RX2 yX2_cell wsX2_cell) := goodIn_app (goodIn_of _ (by decide +kernel)) ggX2_inputsOf_X2_cell
theorem dX2_inputsOf_0 : decode cX2_inputsOf 0 = .ok (.iconst 0, 1) := by decide +kernel
theorem dX2_inputsOf_1 : decode cX2_inputsOf 1 = .ok (.istore_n 2, 1) := by decide +kernel
theorem dX2_inputsOf_2 : decode cX2_inputsOf 2 = .ok (.iconst 0, 1) := by decide +kernel
theorem dX2_inputsOf_3 : decode cX2_inputsOf 3 = .ok (.istore_n 3, 1) := by decide +kernel
theorem dX2_inputsOf_4 : decode cX2_inputsOf 4 = .ok (.iload_n 3, 1) := by decide +kernel
theorem dX2_inputsOf_5 : decode cX2_inputsOf 5 = .ok (.aload_n 0, 1) := by decide +kernel
theorem dX2_inputsOf_6 : decode cX2_inputsOf 6 = .ok (.getfield 18, 3) := by decide +kernel
theorem dX2_inputsOf_9 : decode cX2_inputsOf 9 = .ok (.if_icmp .ge 31, 3) := by decide +kernel
theorem dX2_inputsOf_12 : decode cX2_inputsOf 12 = .ok (.aload_n 0, 1) := by decide +kernel
theorem dX2_inputsOf_13 : decode cX2_inputsOf 13 = .ok (.iload_n 3, 1) := by decide +kernel
theorem dX2_inputsOf_14 : decode cX2_inputsOf 14 = .ok (.iconst 0, 1) := by decide +kernel
theorem dX2_inputsOf_15 : decode cX2_inputsOf 15 = .ok (.invokevirtual 35, 3) := by decide +kernel
theorem dX2_inputsOf_18 : decode cX2_inputsOf 18 = .ok (.ifCond .ne 16, 3) := by decide +kernel
theorem dX2_inputsOf_21 : decode cX2_inputsOf 21 = .ok (.aload_n 0, 1) := by decide +kernel
theorem dX2_inputsOf_22 : decode cX2_inputsOf 22 = .ok (.iload_n 3, 1) := by decide +kernel
theorem dX2_inputsOf_23 : decode cX2_inputsOf 23 = .ok (.iconst 4, 1) := by decide +kernel
theorem dX2_inputsOf_24 : decode cX2_inputsOf 24 = .ok (.invokevirtual 35, 3) := by decide +kernel
theorem dX2_inputsOf_27 : decode cX2_inputsOf 27 = .ok (.iload_n 1, 1) := by decide +kernel
theorem dX2_inputsOf_28 : decode cX2_inputsOf 28 = .ok (.if_icmp .ne 6, 3) := by decide +kernel
theorem dX2_inputsOf_31 : decode cX2_inputsOf 31 = .ok (.iinc 2 1, 3) := by decide +kernel
theorem dX2_inputsOf_34 : decode cX2_inputsOf 34 = .ok (.iinc 3 1, 3) := by decide +kernel
theorem dX2_inputsOf_37 : decode cX2_inputsOf 37 = .ok (.goto (-33), 3) := by decide +kernel
theorem dX2_inputsOf_40 : decode cX2_inputsOf 40 = .ok (.iload_n 2, 1) := by decide +kernel
theorem dX2_inputsOf_41 : decode cX2_inputsOf 41 = .ok (.ireturn, 1) := by decide +kernel
theorem dX2_empty_0 : decode cX2_empty 0 = .ok (.aload_n 0, 1) := by decide +kernel
theorem dX2_empty_1 : decode cX2_empty 1 = .ok (.iconst 0, 1) := by decide +kernel
theorem dX2_empty_2 : decode cX2_empty 2 = .ok (.putfield 26, 3) := by decide +kernel
theorem dX2_empty_5 : decode cX2_empty 5 = .ok (.aload_n 0, 1) := by decide +kernel
theorem dX2_empty_6 : decode cX2_empty 6 = .ok (.iconst 0, 1) := by decide +kernel
theorem dX2_empty_7 : decode cX2_empty 7 = .ok (.putfield 18, 3) := by decide +kernel
theorem dX2_empty_10 : decode cX2_empty 10 = .ok (.aload_n 0, 1) := by decide +kernel
theorem dX2_empty_11 : decode cX2_empty 11 = .ok (.iconst 0, 1) := by decide +kernel
theorem dX2_empty_12 : decode cX2_empty 12 = .ok (.putfield 29, 3) := by decide +kernel
theorem dX2_empty_15 : decode cX2_empty 15 = .ok (.aload_n 0, 1) := by decide +kernel
theorem dX2_empty_16 : decode cX2_empty 16 = .ok (.iconst 0, 1) := by decide +kernel
theorem dX2_empty_17 : decode cX2_empty 17 = .ok (.putfield 32, 3) := by decide +kernel
theorem dX2_empty_20 : decode cX2_empty 20 = .ok (.return_, 1) := by decide +kernel
set_option maxRecDepth 20000 in
theorem ggX2_take_X2_depthOf : GoodIn wsX2_take wsX2_depthOf := goodIn_r _ [11, 3, 12, 13, 14, 15, 16, 17, 18, 21, 22, 23, 24, 25, 26] rfl (by decide +kernel)
set_option maxRecDepth 20000 in
theorem gX2_take_X2_depthOf : GoodIn wsX2_take (wsV RX2 39 RX2 yX2_depthOf wsX2_depthOf) := goodIn_app (goodIn_of _ (by decide +kernel)) ggX2_take_X2_depthOf
set_option maxRecDepth 20000 in
theorem ggX2_take_X9_put : GoodIn wsX2_take wsX9_put := goodIn_r _ [20] rfl (by decide +kernel)
set_option maxRecDepth 20000 in
theorem gX2_take_X9_put_n43 : GoodIn wsX2_take (wsX9_put) := ggX2_take_X9_put
theorem dX2_take_0 : decode cX2_take 0 = .ok (.aload_n 0, 1) := by decide +kernel
theorem dX2_take_1 : decode cX2_take 1 = .ok (.getfield 18, 3) := by decide +kernel
theorem dX2_take_4 : decode cX2_take 4 = .ok (.bipush 6, 2) := by decide +kernel
theorem dX2_take_6 : decode cX2_take 6 = .ok (.imul, 1) := by decide +kernel
theorem dX2_take_7 : decode cX2_take 7 = .ok (.istore 6, 2) := by decide +kernel
theorem dX2_take_9 : decode cX2_take 9 = .ok (.aload_n 0, 1) := by decide +kernel
theorem dX2_take_10 : decode cX2_take 10 = .ok (.iload_n 1, 1) := by decide +kernel
theorem dX2_take_11 : decode cX2_take 11 = .ok (.iload_n 2, 1) := by decide +kernel
theorem dX2_take_12 : decode cX2_take 12 = .ok (.iload_n 3, 1) := by decide +kernel
theorem dX2_take_13 : decode cX2_take 13 = .ok (.iload 4, 2) := by decide +kernel
theorem dX2_take_15 : decode cX2_take 15 = .ok (.invokevirtual 39, 3) := by decide +kernel
theorem dX2_take_18 : decode cX2_take 18 = .ok (.istore 7, 2) := by decide +kernel
theorem dX2_take_20 : decode cX2_take 20 = .ok (.aload_n 0, 1) := by decide +kernel
theorem dX2_take_21 : decode cX2_take 21 = .ok (.getfield 9, 3) := by decide +kernel
theorem dX2_take_24 : decode cX2_take 24 = .ok (.iload 6, 2) := by decide +kernel
theorem dX2_take_26 : decode cX2_take 26 = .ok (.iconst 0, 1) := by decide +kernel
theorem dX2_take_27 : decode cX2_take 27 = .ok (.iadd, 1) := by decide +kernel
theorem dX2_take_28 : decode cX2_take 28 = .ok (.iload_n 1, 1) := by decide +kernel
theorem dX2_take_29 : decode cX2_take 29 = .ok (.invokestatic 43, 3) := by decide +kernel
theorem dX2_take_32 : decode cX2_take 32 = .ok (.aload_n 0, 1) := by decide +kernel
theorem dX2_take_33 : decode cX2_take 33 = .ok (.getfield 9, 3) := by decide +kernel
theorem dX2_take_36 : decode cX2_take 36 = .ok (.iload 6, 2) := by decide +kernel
theorem dX2_take_38 : decode cX2_take 38 = .ok (.iconst 1, 1) := by decide +kernel
theorem dX2_take_39 : decode cX2_take 39 = .ok (.iadd, 1) := by decide +kernel
theorem dX2_take_40 : decode cX2_take 40 = .ok (.iload_n 2, 1) := by decide +kernel
theorem dX2_take_41 : decode cX2_take 41 = .ok (.invokestatic 43, 3) := by decide +kernel
theorem dX2_take_44 : decode cX2_take 44 = .ok (.aload_n 0, 1) := by decide +kernel
theorem dX2_take_45 : decode cX2_take 45 = .ok (.getfield 9, 3) := by decide +kernel
theorem dX2_take_48 : decode cX2_take 48 = .ok (.iload 6, 2) := by decide +kernel
theorem dX2_take_50 : decode cX2_take 50 = .ok (.iconst 2, 1) := by decide +kernel
theorem dX2_take_51 : decode cX2_take 51 = .ok (.iadd, 1) := by decide +kernel
theorem dX2_take_52 : decode cX2_take 52 = .ok (.iload_n 3, 1) := by decide +kernel
theorem dX2_take_53 : decode cX2_take 53 = .ok (.invokestatic 43, 3) := by decide +kernel
theorem dX2_take_56 : decode cX2_take 56 = .ok (.aload_n 0, 1) := by decide +kernel
theorem dX2_take_57 : decode cX2_take 57 = .ok (.getfield 9, 3) := by decide +kernel
theorem dX2_take_60 : decode cX2_take 60 = .ok (.iload 6, 2) := by decide +kernel
theorem dX2_take_62 : decode cX2_take 62 = .ok (.iconst 3, 1) := by decide +kernel
theorem dX2_take_63 : decode cX2_take 63 = .ok (.iadd, 1) := by decide +kernel
theorem dX2_take_64 : decode cX2_take 64 = .ok (.iload 4, 2) := by decide +kernel
theorem dX2_take_66 : decode cX2_take 66 = .ok (.invokestatic 43, 3) := by decide +kernel
theorem dX2_take_69 : decode cX2_take 69 = .ok (.aload_n 0, 1) := by decide +kernel
theorem dX2_take_70 : decode cX2_take 70 = .ok (.getfield 9, 3) := by decide +kernel
theorem dX2_take_73 : decode cX2_take 73 = .ok (.iload 6, 2) := by decide +kernel
theorem dX2_take_75 : decode cX2_take 75 = .ok (.iconst 4, 1) := by decide +kernel
theorem dX2_take_76 : decode cX2_take 76 = .ok (.iadd, 1) := by decide +kernel
theorem dX2_take_77 : decode cX2_take 77 = .ok (.iload 5, 2) := by decide +kernel
theorem dX2_take_79 : decode cX2_take 79 = .ok (.invokestatic 43, 3) := by decide +kernel
theorem dX2_take_82 : decode cX2_take 82 = .ok (.aload_n 0, 1) := by decide +kernel
theorem dX2_take_83 : decode cX2_take 83 = .ok (.getfield 9, 3) := by decide +kernel
theorem dX2_take_86 : decode cX2_take 86 = .ok (.iload 6, 2) := by decide +kernel
theorem dX2_take_88 : decode cX2_take 88 = .ok (.iconst 5, 1) := by decide +kernel
theorem dX2_take_89 : decode cX2_take 89 = .ok (.iadd, 1) := by decide +kernel
theorem dX2_take_90 : decode cX2_take 90 = .ok (.iload 7, 2) := by decide +kernel
theorem dX2_take_92 : decode cX2_take 92 = .ok (.invokestatic 43, 3) := by decide +kernel
theorem dX2_take_95 : decode cX2_take 95 = .ok (.iload_n 1, 1) := by decide +kernel
theorem dX2_take_96 : decode cX2_take 96 = .ok (.iconst 5, 1) := by decide +kernel
theorem dX2_take_97 : decode cX2_take 97 = .ok (.if_icmp .eq 13, 3) := by decide +kernel
theorem dX2_take_100 : decode cX2_take 100 = .ok (.aload_n 0, 1) := by decide +kernel
theorem dX2_take_101 : decode cX2_take 101 = .ok (.getfield 15, 3) := by decide +kernel
theorem dX2_take_104 : decode cX2_take 104 = .ok (.iload_n 2, 1) := by decide +kernel
theorem dX2_take_105 : decode cX2_take 105 = .ok (.iload 7, 2) := by decide +kernel
theorem dX2_take_107 : decode cX2_take 107 = .ok (.invokestatic 43, 3) := by decide +kernel
theorem dX2_take_110 : decode cX2_take 110 = .ok (.aload_n 0, 1) := by decide +kernel
theorem dX2_take_111 : decode cX2_take 111 = .ok (.dup, 1) := by decide +kernel
theorem dX2_take_112 : decode cX2_take 112 = .ok (.getfield 26, 3) := by decide +kernel
theorem dX2_take_115 : decode cX2_take 115 = .ok (.iconst 1, 1) := by decide +kernel
theorem dX2_take_116 : decode cX2_take 116 = .ok (.iload_n 2, 1) := by decide +kernel
theorem dX2_take_117 : decode cX2_take 117 = .ok (.ishl, 1) := by decide +kernel
theorem dX2_take_118 : decode cX2_take 118 = .ok (.ior, 1) := by decide +kernel
theorem dX2_take_119 : decode cX2_take 119 = .ok (.putfield 26, 3) := by decide +kernel
theorem dX2_take_122 : decode cX2_take 122 = .ok (.aload_n 0, 1) := by decide +kernel
theorem dX2_take_123 : decode cX2_take 123 = .ok (.dup, 1) := by decide +kernel
theorem dX2_take_124 : decode cX2_take 124 = .ok (.getfield 18, 3) := by decide +kernel
theorem dX2_take_127 : decode cX2_take 127 = .ok (.iconst 1, 1) := by decide +kernel
theorem dX2_take_128 : decode cX2_take 128 = .ok (.iadd, 1) := by decide +kernel
theorem dX2_take_129 : decode cX2_take 129 = .ok (.putfield 18, 3) := by decide +kernel
theorem dX2_take_132 : decode cX2_take 132 = .ok (.iload_n 1, 1) := by decide +kernel
theorem dX2_take_133 : decode cX2_take 133 = .ok (.ifCond .ne 13, 3) := by decide +kernel
theorem dX2_take_136 : decode cX2_take 136 = .ok (.aload_n 0, 1) := by decide +kernel
theorem dX2_take_137 : decode cX2_take 137 = .ok (.dup, 1) := by decide +kernel
theorem dX2_take_138 : decode cX2_take 138 = .ok (.getfield 29, 3) := by decide +kernel
theorem dX2_take_141 : decode cX2_take 141 = .ok (.iconst 1, 1) := by decide +kernel
theorem dX2_take_142 : decode cX2_take 142 = .ok (.iadd, 1) := by decide +kernel
theorem dX2_take_143 : decode cX2_take 143 = .ok (.putfield 29, 3) := by decide +kernel
theorem dX2_take_146 : decode cX2_take 146 = .ok (.iload_n 1, 1) := by decide +kernel
theorem dX2_take_147 : decode cX2_take 147 = .ok (.iconst 4, 1) := by decide +kernel
theorem dX2_take_148 : decode cX2_take 148 = .ok (.if_icmp .ne 13, 3) := by decide +kernel
theorem dX2_take_151 : decode cX2_take 151 = .ok (.aload_n 0, 1) := by decide +kernel
theorem dX2_take_152 : decode cX2_take 152 = .ok (.dup, 1) := by decide +kernel
theorem dX2_take_153 : decode cX2_take 153 = .ok (.getfield 32, 3) := by decide +kernel
theorem dX2_take_156 : decode cX2_take 156 = .ok (.iconst 1, 1) := by decide +kernel
theorem dX2_take_157 : decode cX2_take 157 = .ok (.iadd, 1) := by decide +kernel
theorem dX2_take_158 : decode cX2_take 158 = .ok (.putfield 32, 3) := by decide +kernel
theorem dX2_take_161 : decode cX2_take 161 = .ok (.return_, 1) := by decide +kernel
set_option maxRecDepth 20000 in
theorem ggX2_depthOf_X9_at : GoodIn wsX2_depthOf wsX9_at := goodIn_r _ [8] rfl (by decide +kernel)
set_option maxRecDepth 20000 in
theorem gX2_depthOf_X9_at_n22 : GoodIn wsX2_depthOf (wsX9_at) := ggX2_depthOf_X9_at
theorem dX2_depthOf_0 : decode cX2_depthOf 0 = .ok (.iload_n 1, 1) := by decide +kernel
theorem dX2_depthOf_1 : decode cX2_depthOf 1 = .ok (.tableswitch 86 2 5 #[31, 31, 52, 75], 31) := by decide +kernel
theorem dX2_depthOf_32 : decode cX2_depthOf 32 = .ok (.aload_n 0, 1) := by decide +kernel
theorem dX2_depthOf_33 : decode cX2_depthOf 33 = .ok (.getfield 15, 3) := by decide +kernel
theorem dX2_depthOf_36 : decode cX2_depthOf 36 = .ok (.iload_n 3, 1) := by decide +kernel
theorem dX2_depthOf_37 : decode cX2_depthOf 37 = .ok (.invokestatic 22, 3) := by decide +kernel
theorem dX2_depthOf_40 : decode cX2_depthOf 40 = .ok (.aload_n 0, 1) := by decide +kernel
theorem dX2_depthOf_41 : decode cX2_depthOf 41 = .ok (.getfield 15, 3) := by decide +kernel
theorem dX2_depthOf_44 : decode cX2_depthOf 44 = .ok (.iload 4, 2) := by decide +kernel
theorem dX2_depthOf_46 : decode cX2_depthOf 46 = .ok (.invokestatic 22, 3) := by decide +kernel
theorem dX2_depthOf_49 : decode cX2_depthOf 49 = .ok (.invokestatic 47, 3) := by decide +kernel
theorem dX2_depthOf_52 : decode cX2_depthOf 52 = .ok (.ireturn, 1) := by decide +kernel
theorem dX2_depthOf_53 : decode cX2_depthOf 53 = .ok (.aload_n 0, 1) := by decide +kernel
theorem dX2_depthOf_54 : decode cX2_depthOf 54 = .ok (.getfield 15, 3) := by decide +kernel
theorem dX2_depthOf_57 : decode cX2_depthOf 57 = .ok (.iload_n 3, 1) := by decide +kernel
theorem dX2_depthOf_58 : decode cX2_depthOf 58 = .ok (.invokestatic 22, 3) := by decide +kernel
theorem dX2_depthOf_61 : decode cX2_depthOf 61 = .ok (.aload_n 0, 1) := by decide +kernel
theorem dX2_depthOf_62 : decode cX2_depthOf 62 = .ok (.getfield 15, 3) := by decide +kernel
theorem dX2_depthOf_65 : decode cX2_depthOf 65 = .ok (.iload 4, 2) := by decide +kernel
theorem dX2_depthOf_67 : decode cX2_depthOf 67 = .ok (.invokestatic 22, 3) := by decide +kernel
theorem dX2_depthOf_70 : decode cX2_depthOf 70 = .ok (.invokestatic 47, 3) := by decide +kernel
theorem dX2_depthOf_73 : decode cX2_depthOf 73 = .ok (.iconst 1, 1) := by decide +kernel
theorem dX2_depthOf_74 : decode cX2_depthOf 74 = .ok (.iadd, 1) := by decide +kernel
theorem dX2_depthOf_75 : decode cX2_depthOf 75 = .ok (.ireturn, 1) := by decide +kernel
theorem dX2_depthOf_76 : decode cX2_depthOf 76 = .ok (.aload_n 0, 1) := by decide +kernel
theorem dX2_depthOf_77 : decode cX2_depthOf 77 = .ok (.getfield 15, 3) := by decide +kernel
theorem dX2_depthOf_80 : decode cX2_depthOf 80 = .ok (.iload_n 2, 1) := by decide +kernel
theorem dX2_depthOf_81 : decode cX2_depthOf 81 = .ok (.invokestatic 22, 3) := by decide +kernel
theorem dX2_depthOf_84 : decode cX2_depthOf 84 = .ok (.iconst 1, 1) := by decide +kernel
theorem dX2_depthOf_85 : decode cX2_depthOf 85 = .ok (.iadd, 1) := by decide +kernel
theorem dX2_depthOf_86 : decode cX2_depthOf 86 = .ok (.ireturn, 1) := by decide +kernel
theorem dX2_depthOf_87 : decode cX2_depthOf 87 = .ok (.iconst 0, 1) := by decide +kernel
theorem dX2_depthOf_88 : decode cX2_depthOf 88 = .ok (.ireturn, 1) := by decide +kernel
set_option maxRecDepth 20000 in
theorem ggX2_become_X9_at : GoodIn wsX2_become wsX9_at := goodIn_r _ [9] rfl (by decide +kernel)
set_option maxRecDepth 20000 in
theorem gX2_become_X9_at_n22 : GoodIn wsX2_become (wsX9_at) := ggX2_become_X9_at
theorem dX2_become_0 : decode cX2_become 0 = .ok (.iconst 0, 1) := by decide +kernel
theorem dX2_become_1 : decode cX2_become 1 = .ok (.istore_n 2, 1) := by decide +kernel
theorem dX2_become_2 : decode cX2_become 2 = .ok (.iload_n 2, 1) := by decide +kernel
theorem dX2_become_3 : decode cX2_become 3 = .ok (.aload_n 0, 1) := by decide +kernel
theorem dX2_become_4 : decode cX2_become 4 = .ok (.getfield 9, 3) := by decide +kernel
theorem dX2_become_7 : decode cX2_become 7 = .ok (.arraylength, 1) := by decide +kernel
theorem dX2_become_8 : decode cX2_become 8 = .ok (.if_icmp .ge 23, 3) := by decide +kernel
theorem dX2_become_11 : decode cX2_become 11 = .ok (.aload_n 0, 1) := by decide +kernel
theorem dX2_become_12 : decode cX2_become 12 = .ok (.getfield 9, 3) := by decide +kernel
theorem dX2_become_15 : decode cX2_become 15 = .ok (.iload_n 2, 1) := by decide +kernel
theorem dX2_become_16 : decode cX2_become 16 = .ok (.aload_n 1, 1) := by decide +kernel
theorem dX2_become_17 : decode cX2_become 17 = .ok (.getfield 9, 3) := by decide +kernel
theorem dX2_become_20 : decode cX2_become 20 = .ok (.iload_n 2, 1) := by decide +kernel
theorem dX2_become_21 : decode cX2_become 21 = .ok (.invokestatic 22, 3) := by decide +kernel
theorem dX2_become_24 : decode cX2_become 24 = .ok (.iastore, 1) := by decide +kernel
theorem dX2_become_25 : decode cX2_become 25 = .ok (.iinc 2 1, 3) := by decide +kernel
theorem dX2_become_28 : decode cX2_become 28 = .ok (.goto (-26), 3) := by decide +kernel
theorem dX2_become_31 : decode cX2_become 31 = .ok (.iconst 0, 1) := by decide +kernel
theorem dX2_become_32 : decode cX2_become 32 = .ok (.istore_n 2, 1) := by decide +kernel
theorem dX2_become_33 : decode cX2_become 33 = .ok (.iload_n 2, 1) := by decide +kernel
theorem dX2_become_34 : decode cX2_become 34 = .ok (.aload_n 0, 1) := by decide +kernel
theorem dX2_become_35 : decode cX2_become 35 = .ok (.getfield 15, 3) := by decide +kernel
theorem dX2_become_38 : decode cX2_become 38 = .ok (.arraylength, 1) := by decide +kernel
theorem dX2_become_39 : decode cX2_become 39 = .ok (.if_icmp .ge 23, 3) := by decide +kernel
theorem dX2_become_42 : decode cX2_become 42 = .ok (.aload_n 0, 1) := by decide +kernel
theorem dX2_become_43 : decode cX2_become 43 = .ok (.getfield 15, 3) := by decide +kernel
theorem dX2_become_46 : decode cX2_become 46 = .ok (.iload_n 2, 1) := by decide +kernel
theorem dX2_become_47 : decode cX2_become 47 = .ok (.aload_n 1, 1) := by decide +kernel
theorem dX2_become_48 : decode cX2_become 48 = .ok (.getfield 15, 3) := by decide +kernel
theorem dX2_become_51 : decode cX2_become 51 = .ok (.iload_n 2, 1) := by decide +kernel
theorem dX2_become_52 : decode cX2_become 52 = .ok (.invokestatic 22, 3) := by decide +kernel
theorem dX2_become_55 : decode cX2_become 55 = .ok (.iastore, 1) := by decide +kernel
theorem dX2_become_56 : decode cX2_become 56 = .ok (.iinc 2 1, 3) := by decide +kernel
theorem dX2_become_59 : decode cX2_become 59 = .ok (.goto (-26), 3) := by decide +kernel
theorem dX2_become_62 : decode cX2_become 62 = .ok (.aload_n 0, 1) := by decide +kernel
theorem dX2_become_63 : decode cX2_become 63 = .ok (.aload_n 1, 1) := by decide +kernel
theorem dX2_become_64 : decode cX2_become 64 = .ok (.getfield 26, 3) := by decide +kernel
theorem dX2_become_67 : decode cX2_become 67 = .ok (.putfield 26, 3) := by decide +kernel
theorem dX2_become_70 : decode cX2_become 70 = .ok (.aload_n 0, 1) := by decide +kernel
theorem dX2_become_71 : decode cX2_become 71 = .ok (.aload_n 1, 1) := by decide +kernel
theorem dX2_become_72 : decode cX2_become 72 = .ok (.getfield 18, 3) := by decide +kernel
theorem dX2_become_75 : decode cX2_become 75 = .ok (.putfield 18, 3) := by decide +kernel
theorem dX2_become_78 : decode cX2_become 78 = .ok (.aload_n 0, 1) := by decide +kernel
theorem dX2_become_79 : decode cX2_become 79 = .ok (.aload_n 1, 1) := by decide +kernel
theorem dX2_become_80 : decode cX2_become 80 = .ok (.getfield 29, 3) := by decide +kernel
theorem dX2_become_83 : decode cX2_become 83 = .ok (.putfield 29, 3) := by decide +kernel
theorem dX2_become_86 : decode cX2_become 86 = .ok (.aload_n 0, 1) := by decide +kernel
theorem dX2_become_87 : decode cX2_become 87 = .ok (.aload_n 1, 1) := by decide +kernel
theorem dX2_become_88 : decode cX2_become 88 = .ok (.getfield 32, 3) := by decide +kernel
theorem dX2_become_91 : decode cX2_become 91 = .ok (.putfield 32, 3) := by decide +kernel
theorem dX2_become_94 : decode cX2_become 94 = .ok (.return_, 1) := by decide +kernel
theorem dX0_init_0 : decode cX0_init 0 = .ok (.aload_n 0, 1) := by decide +kernel
theorem dX0_init_1 : decode cX0_init 1 = .ok (.invokespecial 3, 3) := by decide +kernel
theorem dX0_init_4 : decode cX0_init 4 = .ok (.aload_n 0, 1) := by decide +kernel
theorem dX0_init_5 : decode cX0_init 5 = .ok (.bipush 6, 2) := by decide +kernel
theorem dX0_init_7 : decode cX0_init 7 = .ok (.newarray .int, 2) := by decide +kernel
theorem dX0_init_9 : decode cX0_init 9 = .ok (.putfield 11, 3) := by decide +kernel
theorem dX0_init_12 : decode cX0_init 12 = .ok (.aload_n 0, 1) := by decide +kernel
theorem dX0_init_13 : decode cX0_init 13 = .ok (.bipush 6, 2) := by decide +kernel
theorem dX0_init_15 : decode cX0_init 15 = .ok (.newarray .int, 2) := by decide +kernel
theorem dX0_init_17 : decode cX0_init 17 = .ok (.putfield 15, 3) := by decide +kernel
theorem dX0_init_20 : decode cX0_init 20 = .ok (.aload_n 0, 1) := by decide +kernel
theorem dX0_init_21 : decode cX0_init 21 = .ok (.bipush 7, 2) := by decide +kernel
theorem dX0_init_23 : decode cX0_init 23 = .ok (.putfield 18, 3) := by decide +kernel
theorem dX0_init_26 : decode cX0_init 26 = .ok (.aload_n 0, 1) := by decide +kernel
theorem dX0_init_27 : decode cX0_init 27 = .ok (.iconst 1, 1) := by decide +kernel
theorem dX0_init_28 : decode cX0_init 28 = .ok (.putfield 22, 3) := by decide +kernel
theorem dX0_init_31 : decode cX0_init 31 = .ok (.aload_n 0, 1) := by decide +kernel
theorem dX0_init_32 : decode cX0_init 32 = .ok (.iconst 5, 1) := by decide +kernel
theorem dX0_init_33 : decode cX0_init 33 = .ok (.putfield 25, 3) := by decide +kernel
theorem dX0_init_36 : decode cX0_init 36 = .ok (.return_, 1) := by decide +kernel
set_option maxRecDepth 20000 in
theorem ggX0_mayBecome_X9_within : GoodIn wsX0_mayBecome wsX9_within := goodIn_r _ [5] rfl (by decide +kernel)
set_option maxRecDepth 20000 in
theorem gX0_mayBecome_X9_within_n28 : GoodIn wsX0_mayBecome (wsX9_within) := ggX0_mayBecome_X9_within
theorem dX0_mayBecome_0 : decode cX0_mayBecome 0 = .ok (.iload_n 1, 1) := by decide +kernel
theorem dX0_mayBecome_1 : decode cX0_mayBecome 1 = .ok (.iconst 1, 1) := by decide +kernel
theorem dX0_mayBecome_2 : decode cX0_mayBecome 2 = .ok (.if_icmp .ne 10, 3) := by decide +kernel
theorem dX0_mayBecome_5 : decode cX0_mayBecome 5 = .ok (.iload_n 2, 1) := by decide +kernel
theorem dX0_mayBecome_6 : decode cX0_mayBecome 6 = .ok (.iconst 0, 1) := by decide +kernel
theorem dX0_mayBecome_7 : decode cX0_mayBecome 7 = .ok (.iconst 2, 1) := by decide +kernel
theorem dX0_mayBecome_8 : decode cX0_mayBecome 8 = .ok (.invokestatic 28, 3) := by decide +kernel
theorem dX0_mayBecome_11 : decode cX0_mayBecome 11 = .ok (.ireturn, 1) := by decide +kernel
theorem dX0_mayBecome_12 : decode cX0_mayBecome 12 = .ok (.iload_n 1, 1) := by decide +kernel
theorem dX0_mayBecome_13 : decode cX0_mayBecome 13 = .ok (.iconst 2, 1) := by decide +kernel
theorem dX0_mayBecome_14 : decode cX0_mayBecome 14 = .ok (.if_icmp .ne 27, 3) := by decide +kernel
theorem dX0_mayBecome_17 : decode cX0_mayBecome 17 = .ok (.iload_n 2, 1) := by decide +kernel
theorem dX0_mayBecome_18 : decode cX0_mayBecome 18 = .ok (.iconst 3, 1) := by decide +kernel
theorem dX0_mayBecome_19 : decode cX0_mayBecome 19 = .ok (.bipush 6, 2) := by decide +kernel
theorem dX0_mayBecome_21 : decode cX0_mayBecome 21 = .ok (.invokestatic 28, 3) := by decide +kernel
theorem dX0_mayBecome_24 : decode cX0_mayBecome 24 = .ok (.ifCond .eq 15, 3) := by decide +kernel
theorem dX0_mayBecome_27 : decode cX0_mayBecome 27 = .ok (.iload_n 2, 1) := by decide +kernel
theorem dX0_mayBecome_28 : decode cX0_mayBecome 28 = .ok (.aload_n 0, 1) := by decide +kernel
theorem dX0_mayBecome_29 : decode cX0_mayBecome 29 = .ok (.getfield 18, 3) := by decide +kernel
theorem dX0_mayBecome_32 : decode cX0_mayBecome 32 = .ok (.if_icmp .ge 7, 3) := by decide +kernel
theorem dX0_mayBecome_35 : decode cX0_mayBecome 35 = .ok (.iconst 1, 1) := by decide +kernel
theorem dX0_mayBecome_36 : decode cX0_mayBecome 36 = .ok (.goto 4, 3) := by decide +kernel
theorem dX0_mayBecome_39 : decode cX0_mayBecome 39 = .ok (.iconst 0, 1) := by decide +kernel
theorem dX0_mayBecome_40 : decode cX0_mayBecome 40 = .ok (.ireturn, 1) := by decide +kernel
theorem dX0_mayBecome_41 : decode cX0_mayBecome 41 = .ok (.iload_n 2, 1) := by decide +kernel
theorem dX0_mayBecome_42 : decode cX0_mayBecome 42 = .ok (.iconst 5, 1) := by decide +kernel
theorem dX0_mayBecome_43 : decode cX0_mayBecome 43 = .ok (.if_icmp .eq 21, 3) := by decide +kernel
theorem dX0_mayBecome_46 : decode cX0_mayBecome 46 = .ok (.iload_n 2, 1) := by decide +kernel
theorem dX0_mayBecome_47 : decode cX0_mayBecome 47 = .ok (.bipush 7, 2) := by decide +kernel
theorem dX0_mayBecome_49 : decode cX0_mayBecome 49 = .ok (.if_icmp .eq 15, 3) := by decide +kernel
theorem dX0_mayBecome_52 : decode cX0_mayBecome 52 = .ok (.iload_n 2, 1) := by decide +kernel
theorem dX0_mayBecome_53 : decode cX0_mayBecome 53 = .ok (.bipush 11, 2) := by decide +kernel
theorem dX0_mayBecome_55 : decode cX0_mayBecome 55 = .ok (.if_icmp .eq 9, 3) := by decide +kernel
theorem dX0_mayBecome_58 : decode cX0_mayBecome 58 = .ok (.iload_n 2, 1) := by decide +kernel
theorem dX0_mayBecome_59 : decode cX0_mayBecome 59 = .ok (.bipush 13, 2) := by decide +kernel
theorem dX0_mayBecome_61 : decode cX0_mayBecome 61 = .ok (.if_icmp .ne 15, 3) := by decide +kernel
theorem dX0_mayBecome_64 : decode cX0_mayBecome 64 = .ok (.aload_n 0, 1) := by decide +kernel
theorem dX0_mayBecome_65 : decode cX0_mayBecome 65 = .ok (.getfield 25, 3) := by decide +kernel
theorem dX0_mayBecome_68 : decode cX0_mayBecome 68 = .ok (.iload_n 2, 1) := by decide +kernel
theorem dX0_mayBecome_69 : decode cX0_mayBecome 69 = .ok (.if_icmp .ge 7, 3) := by decide +kernel
theorem dX0_mayBecome_72 : decode cX0_mayBecome 72 = .ok (.iconst 1, 1) := by decide +kernel
theorem dX0_mayBecome_73 : decode cX0_mayBecome 73 = .ok (.goto 4, 3) := by decide +kernel
theorem dX0_mayBecome_76 : decode cX0_mayBecome 76 = .ok (.iconst 0, 1) := by decide +kernel
theorem dX0_mayBecome_77 : decode cX0_mayBecome 77 = .ok (.ireturn, 1) := by decide +kernel
set_option maxRecDepth 20000 in
theorem ggX0_become_X0_draw : GoodIn wsX0_become wsX0_draw := goodIn_r _ [8, 9, 10, 11, 12, 13, 14, 15, 16, 17, 18, 19, 20, 21, 22, 23, 24, 25, 26, 27] rfl (by decide +kernel)
set_option maxRecDepth 20000 in
theorem gX0_become_X0_draw : GoodIn wsX0_become (wsV RX0 32 RX0 yX0_draw wsX0_draw) := goodIn_app (goodIn_of _ (by decide +kernel)) ggX0_become_X0_draw
theorem dX0_become_0 : decode cX0_become 0 = .ok (.iload_n 1, 1) := by decide +kernel
theorem dX0_become_1 : decode cX0_become 1 = .ok (.ifCond .ne 10, 3) := by decide +kernel
theorem dX0_become_4 : decode cX0_become 4 = .ok (.aload_n 0, 1) := by decide +kernel
theorem dX0_become_5 : decode cX0_become 5 = .ok (.getfield 18, 3) := by decide +kernel
theorem dX0_become_8 : decode cX0_become 8 = .ok (.goto 19, 3) := by decide +kernel
theorem dX0_become_11 : decode cX0_become 11 = .ok (.iload_n 1, 1) := by decide +kernel
theorem dX0_become_12 : decode cX0_become 12 = .ok (.iconst 1, 1) := by decide +kernel
theorem dX0_become_13 : decode cX0_become 13 = .ok (.if_icmp .ne 10, 3) := by decide +kernel
theorem dX0_become_16 : decode cX0_become 16 = .ok (.aload_n 0, 1) := by decide +kernel
theorem dX0_become_17 : decode cX0_become 17 = .ok (.getfield 22, 3) := by decide +kernel
theorem dX0_become_20 : decode cX0_become 20 = .ok (.goto 7, 3) := by decide +kernel
theorem dX0_become_23 : decode cX0_become 23 = .ok (.aload_n 0, 1) := by decide +kernel
theorem dX0_become_24 : decode cX0_become 24 = .ok (.getfield 25, 3) := by decide +kernel
theorem dX0_become_27 : decode cX0_become 27 = .ok (.istore_n 3, 1) := by decide +kernel
theorem dX0_become_28 : decode cX0_become 28 = .ok (.iload_n 1, 1) := by decide +kernel
theorem dX0_become_29 : decode cX0_become 29 = .ok (.ifCond .ne 11, 3) := by decide +kernel
theorem dX0_become_32 : decode cX0_become 32 = .ok (.aload_n 0, 1) := by decide +kernel
theorem dX0_become_33 : decode cX0_become 33 = .ok (.iload_n 2, 1) := by decide +kernel
theorem dX0_become_34 : decode cX0_become 34 = .ok (.putfield 18, 3) := by decide +kernel
theorem dX0_become_37 : decode cX0_become 37 = .ok (.goto 21, 3) := by decide +kernel
theorem dX0_become_40 : decode cX0_become 40 = .ok (.iload_n 1, 1) := by decide +kernel
theorem dX0_become_41 : decode cX0_become 41 = .ok (.iconst 1, 1) := by decide +kernel
theorem dX0_become_42 : decode cX0_become 42 = .ok (.if_icmp .ne 11, 3) := by decide +kernel
theorem dX0_become_45 : decode cX0_become 45 = .ok (.aload_n 0, 1) := by decide +kernel
theorem dX0_become_46 : decode cX0_become 46 = .ok (.iload_n 2, 1) := by decide +kernel
theorem dX0_become_47 : decode cX0_become 47 = .ok (.putfield 22, 3) := by decide +kernel
theorem dX0_become_50 : decode cX0_become 50 = .ok (.goto 8, 3) := by decide +kernel
theorem dX0_become_53 : decode cX0_become 53 = .ok (.aload_n 0, 1) := by decide +kernel
theorem dX0_become_54 : decode cX0_become 54 = .ok (.iload_n 2, 1) := by decide +kernel
theorem dX0_become_55 : decode cX0_become 55 = .ok (.putfield 25, 3) := by decide +kernel
theorem dX0_become_58 : decode cX0_become 58 = .ok (.aload_n 0, 1) := by decide +kernel
theorem dX0_become_59 : decode cX0_become 59 = .ok (.iconst 0, 1) := by decide +kernel
theorem dX0_become_60 : decode cX0_become 60 = .ok (.iconst 0, 1) := by decide +kernel
theorem dX0_become_61 : decode cX0_become 61 = .ok (.iconst 0, 1) := by decide +kernel
theorem dX0_become_62 : decode cX0_become 62 = .ok (.invokevirtual 32, 3) := by decide +kernel
theorem dX0_become_65 : decode cX0_become 65 = .ok (.iload_n 3, 1) := by decide +kernel
theorem dX0_become_66 : decode cX0_become 66 = .ok (.ireturn, 1) := by decide +kernel
set_option maxRecDepth 20000 in
theorem ggX0_draw_X9_wipe : GoodIn wsX0_draw wsX9_wipe := goodIn_r _ [7, 8, 9, 10, 11] rfl (by decide +kernel)
set_option maxRecDepth 20000 in
theorem gX0_draw_X9_wipe_n45 : GoodIn wsX0_draw (wsX9_wipe) := ggX0_draw_X9_wipe
theorem dX0_draw_0 : decode cX0_draw 0 = .ok (.aload_n 0, 1) := by decide +kernel
theorem dX0_draw_1 : decode cX0_draw 1 = .ok (.iload_n 1, 1) := by decide +kernel
theorem dX0_draw_2 : decode cX0_draw 2 = .ok (.putfield 36, 3) := by decide +kernel
theorem dX0_draw_5 : decode cX0_draw 5 = .ok (.aload_n 0, 1) := by decide +kernel
theorem dX0_draw_6 : decode cX0_draw 6 = .ok (.iload_n 2, 1) := by decide +kernel
theorem dX0_draw_7 : decode cX0_draw 7 = .ok (.putfield 39, 3) := by decide +kernel
theorem dX0_draw_10 : decode cX0_draw 10 = .ok (.aload_n 0, 1) := by decide +kernel
theorem dX0_draw_11 : decode cX0_draw 11 = .ok (.iload_n 3, 1) := by decide +kernel
theorem dX0_draw_12 : decode cX0_draw 12 = .ok (.putfield 42, 3) := by decide +kernel
theorem dX0_draw_15 : decode cX0_draw 15 = .ok (.aload_n 0, 1) := by decide +kernel
theorem dX0_draw_16 : decode cX0_draw 16 = .ok (.getfield 11, 3) := by decide +kernel
theorem dX0_draw_19 : decode cX0_draw 19 = .ok (.invokestatic 45, 3) := by decide +kernel
theorem dX0_draw_22 : decode cX0_draw 22 = .ok (.return_, 1) := by decide +kernel
set_option maxRecDepth 20000 in
theorem ggX0_isNumber_X9_within : GoodIn wsX0_isNumber wsX9_within := goodIn_r _ [4] rfl (by decide +kernel)
set_option maxRecDepth 20000 in
theorem gX0_isNumber_X9_within_n28 : GoodIn wsX0_isNumber (wsX9_within) := ggX0_isNumber_X9_within
theorem dX0_isNumber_0 : decode cX0_isNumber 0 = .ok (.iload_n 1, 1) := by decide +kernel
theorem dX0_isNumber_1 : decode cX0_isNumber 1 = .ok (.iconst 0, 1) := by decide +kernel
theorem dX0_isNumber_2 : decode cX0_isNumber 2 = .ok (.aload_n 0, 1) := by decide +kernel
theorem dX0_isNumber_3 : decode cX0_isNumber 3 = .ok (.getfield 18, 3) := by decide +kernel
theorem dX0_isNumber_6 : decode cX0_isNumber 6 = .ok (.iconst 1, 1) := by decide +kernel
theorem dX0_isNumber_7 : decode cX0_isNumber 7 = .ok (.isub, 1) := by decide +kernel
theorem dX0_isNumber_8 : decode cX0_isNumber 8 = .ok (.invokestatic 28, 3) := by decide +kernel
theorem dX0_isNumber_11 : decode cX0_isNumber 11 = .ok (.ireturn, 1) := by decide +kernel
set_option maxRecDepth 20000 in
theorem ggX0_hasHand_X9_within : GoodIn wsX0_hasHand wsX9_within := goodIn_r _ [4] rfl (by decide +kernel)
set_option maxRecDepth 20000 in
theorem gX0_hasHand_X9_within_n28 : GoodIn wsX0_hasHand (wsX9_within) := ggX0_hasHand_X9_within
theorem dX0_hasHand_0 : decode cX0_hasHand 0 = .ok (.iload_n 1, 1) := by decide +kernel
theorem dX0_hasHand_1 : decode cX0_hasHand 1 = .ok (.iconst 0, 1) := by decide +kernel
theorem dX0_hasHand_2 : decode cX0_hasHand 2 = .ok (.aload_n 0, 1) := by decide +kernel
theorem dX0_hasHand_3 : decode cX0_hasHand 3 = .ok (.getfield 25, 3) := by decide +kernel
theorem dX0_hasHand_6 : decode cX0_hasHand 6 = .ok (.iconst 1, 1) := by decide +kernel
theorem dX0_hasHand_7 : decode cX0_hasHand 7 = .ok (.isub, 1) := by decide +kernel
theorem dX0_hasHand_8 : decode cX0_hasHand 8 = .ok (.invokestatic 28, 3) := by decide +kernel
theorem dX0_hasHand_11 : decode cX0_hasHand 11 = .ok (.ireturn, 1) := by decide +kernel
set_option maxRecDepth 20000 in
theorem ggX0_hasSet_X9_within : GoodIn wsX0_hasSet wsX9_within := goodIn_r _ [4] rfl (by decide +kernel)
set_option maxRecDepth 20000 in
theorem gX0_hasSet_X9_within_n28 : GoodIn wsX0_hasSet (wsX9_within) := ggX0_hasSet_X9_within
theorem dX0_hasSet_0 : decode cX0_hasSet 0 = .ok (.iload_n 1, 1) := by decide +kernel
theorem dX0_hasSet_1 : decode cX0_hasSet 1 = .ok (.iconst 0, 1) := by decide +kernel
theorem dX0_hasSet_2 : decode cX0_hasSet 2 = .ok (.iconst 1, 1) := by decide +kernel
theorem dX0_hasSet_3 : decode cX0_hasSet 3 = .ok (.aload_n 0, 1) := by decide +kernel
theorem dX0_hasSet_4 : decode cX0_hasSet 4 = .ok (.getfield 25, 3) := by decide +kernel
theorem dX0_hasSet_7 : decode cX0_hasSet 7 = .ok (.ishl, 1) := by decide +kernel
theorem dX0_hasSet_8 : decode cX0_hasSet 8 = .ok (.iconst 1, 1) := by decide +kernel
theorem dX0_hasSet_9 : decode cX0_hasSet 9 = .ok (.isub, 1) := by decide +kernel
theorem dX0_hasSet_10 : decode cX0_hasSet 10 = .ok (.invokestatic 28, 3) := by decide +kernel
theorem dX0_hasSet_13 : decode cX0_hasSet 13 = .ok (.ireturn, 1) := by decide +kernel
set_option maxRecDepth 20000 in
theorem ggX0_bentPoint_X9_at : GoodIn wsX0_bentPoint wsX9_at := goodIn_r _ [8] rfl (by decide +kernel)
set_option maxRecDepth 20000 in
theorem gX0_bentPoint_X9_at_n49 : GoodIn wsX0_bentPoint (wsX9_at) := ggX0_bentPoint_X9_at
set_option maxRecDepth 20000 in
theorem ggX0_bentPoint_X9_mod : GoodIn wsX0_bentPoint wsX9_mod := goodIn_r _ [10] rfl (by decide +kernel)
set_option maxRecDepth 20000 in
theorem gX0_bentPoint_X9_mod_n53 : GoodIn wsX0_bentPoint (wsX9_mod) := ggX0_bentPoint_X9_mod
theorem dX0_bentPoint_0 : decode cX0_bentPoint 0 = .ok (.iload_n 1, 1) := by decide +kernel
theorem dX0_bentPoint_1 : decode cX0_bentPoint 1 = .ok (.iconst 1, 1) := by decide +kernel
theorem dX0_bentPoint_2 : decode cX0_bentPoint 2 = .ok (.iadd, 1) := by decide +kernel
theorem dX0_bentPoint_3 : decode cX0_bentPoint 3 = .ok (.istore_n 2, 1) := by decide +kernel
theorem dX0_bentPoint_4 : decode cX0_bentPoint 4 = .ok (.aload_n 0, 1) := by decide +kernel
theorem dX0_bentPoint_5 : decode cX0_bentPoint 5 = .ok (.getfield 36, 3) := by decide +kernel
theorem dX0_bentPoint_8 : decode cX0_bentPoint 8 = .ok (.aload_n 0, 1) := by decide +kernel
theorem dX0_bentPoint_9 : decode cX0_bentPoint 9 = .ok (.getfield 39, 3) := by decide +kernel
theorem dX0_bentPoint_12 : decode cX0_bentPoint 12 = .ok (.iload_n 2, 1) := by decide +kernel
theorem dX0_bentPoint_13 : decode cX0_bentPoint 13 = .ok (.imul, 1) := by decide +kernel
theorem dX0_bentPoint_14 : decode cX0_bentPoint 14 = .ok (.iadd, 1) := by decide +kernel
theorem dX0_bentPoint_15 : decode cX0_bentPoint 15 = .ok (.aload_n 0, 1) := by decide +kernel
theorem dX0_bentPoint_16 : decode cX0_bentPoint 16 = .ok (.getfield 42, 3) := by decide +kernel
theorem dX0_bentPoint_19 : decode cX0_bentPoint 19 = .ok (.iload_n 2, 1) := by decide +kernel
theorem dX0_bentPoint_20 : decode cX0_bentPoint 20 = .ok (.imul, 1) := by decide +kernel
theorem dX0_bentPoint_21 : decode cX0_bentPoint 21 = .ok (.iload_n 2, 1) := by decide +kernel
theorem dX0_bentPoint_22 : decode cX0_bentPoint 22 = .ok (.imul, 1) := by decide +kernel
theorem dX0_bentPoint_23 : decode cX0_bentPoint 23 = .ok (.iadd, 1) := by decide +kernel
theorem dX0_bentPoint_24 : decode cX0_bentPoint 24 = .ok (.aload_n 0, 1) := by decide +kernel
theorem dX0_bentPoint_25 : decode cX0_bentPoint 25 = .ok (.getfield 11, 3) := by decide +kernel
theorem dX0_bentPoint_28 : decode cX0_bentPoint 28 = .ok (.iload_n 1, 1) := by decide +kernel
theorem dX0_bentPoint_29 : decode cX0_bentPoint 29 = .ok (.invokestatic 49, 3) := by decide +kernel
theorem dX0_bentPoint_32 : decode cX0_bentPoint 32 = .ok (.iadd, 1) := by decide +kernel
theorem dX0_bentPoint_33 : decode cX0_bentPoint 33 = .ok (.aload_n 0, 1) := by decide +kernel
theorem dX0_bentPoint_34 : decode cX0_bentPoint 34 = .ok (.getfield 18, 3) := by decide +kernel
theorem dX0_bentPoint_37 : decode cX0_bentPoint 37 = .ok (.invokestatic 53, 3) := by decide +kernel
theorem dX0_bentPoint_40 : decode cX0_bentPoint 40 = .ok (.ireturn, 1) := by decide +kernel
set_option maxRecDepth 20000 in
theorem ggX0_takePoints_X0_bentPoint : GoodIn wsX0_takePoints wsX0_bentPoint := goodIn_r _ [7, 8, 9, 10, 11, 12, 13, 14, 15, 16, 17, 20, 21, 22, 23, 24, 25, 26, 27] rfl (by decide +kernel)
set_option maxRecDepth 20000 in
theorem gX0_takePoints_X0_bentPoint : GoodIn wsX0_takePoints (wsV RX0 57 RX0 yX0_bentPoint wsX0_bentPoint) := goodIn_app (goodIn_of _ (by decide +kernel)) ggX0_takePoints_X0_bentPoint
set_option maxRecDepth 20000 in
theorem ggX0_takePoints_X9_put : GoodIn wsX0_takePoints wsX9_put := goodIn_r _ [19] rfl (by decide +kernel)
set_option maxRecDepth 20000 in
theorem gX0_takePoints_X9_put_n61 : GoodIn wsX0_takePoints (wsX9_put) := ggX0_takePoints_X9_put
theorem dX0_takePoints_0 : decode cX0_takePoints 0 = .ok (.iconst 0, 1) := by decide +kernel
theorem dX0_takePoints_1 : decode cX0_takePoints 1 = .ok (.istore_n 1, 1) := by decide +kernel
theorem dX0_takePoints_2 : decode cX0_takePoints 2 = .ok (.iload_n 1, 1) := by decide +kernel
theorem dX0_takePoints_3 : decode cX0_takePoints 3 = .ok (.aload_n 0, 1) := by decide +kernel
