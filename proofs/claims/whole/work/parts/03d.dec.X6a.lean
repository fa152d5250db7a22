theorem dX6_init_0 : decode cX6_init 0 = .ok (.aload_n 0, 1) := by decide +kernel
theorem dX6_init_1 : decode cX6_init 1 = .ok (.invokespecial 3, 3) := by decide +kernel
theorem dX6_init_4 : decode cX6_init 4 = .ok (.aload_n 0, 1) := by decide +kernel
theorem dX6_init_5 : decode cX6_init 5 = .ok (.new 9, 3) := by decide +kernel
theorem dX6_init_8 : decode cX6_init 8 = .ok (.dup, 1) := by decide +kernel
theorem dX6_init_9 : decode cX6_init 9 = .ok (.invokespecial 11, 3) := by decide +kernel
theorem dX6_init_12 : decode cX6_init 12 = .ok (.putfield 12, 3) := by decide +kernel
theorem dX6_init_15 : decode cX6_init 15 = .ok (.aload_n 0, 1) := by decide +kernel
theorem dX6_init_16 : decode cX6_init 16 = .ok (.bipush 8, 2) := by decide +kernel
theorem dX6_init_18 : decode cX6_init 18 = .ok (.newarray .int, 2) := by decide +kernel
theorem dX6_init_20 : decode cX6_init 20 = .ok (.putfield 18, 3) := by decide +kernel
theorem dX6_init_23 : decode cX6_init 23 = .ok (.aload_n 0, 1) := by decide +kernel
theorem dX6_init_24 : decode cX6_init 24 = .ok (.bipush 8, 2) := by decide +kernel
theorem dX6_init_26 : decode cX6_init 26 = .ok (.newarray .int, 2) := by decide +kernel
theorem dX6_init_28 : decode cX6_init 28 = .ok (.putfield 22, 3) := by decide +kernel
theorem dX6_init_31 : decode cX6_init 31 = .ok (.aload_n 0, 1) := by decide +kernel
theorem dX6_init_32 : decode cX6_init 32 = .ok (.bipush 8, 2) := by decide +kernel
theorem dX6_init_34 : decode cX6_init 34 = .ok (.newarray .int, 2) := by decide +kernel
theorem dX6_init_36 : decode cX6_init 36 = .ok (.putfield 25, 3) := by decide +kernel
theorem dX6_init_39 : decode cX6_init 39 = .ok (.aload_n 0, 1) := by decide +kernel
theorem dX6_init_40 : decode cX6_init 40 = .ok (.iconst (-1), 1) := by decide +kernel
theorem dX6_init_41 : decode cX6_init 41 = .ok (.putfield 28, 3) := by decide +kernel
theorem dX6_init_44 : decode cX6_init 44 = .ok (.return_, 1) := by decide +kernel
theorem dX6_giveTo_0 : decode cX6_giveTo 0 = .ok (.aload_n 0, 1) := by decide +kernel
theorem dX6_giveTo_1 : decode cX6_giveTo 1 = .ok (.iconst 1, 1) := by decide +kernel
theorem dX6_giveTo_2 : decode cX6_giveTo 2 = .ok (.putfield 32, 3) := by decide +kernel
theorem dX6_giveTo_5 : decode cX6_giveTo 5 = .ok (.aload_n 0, 1) := by decide +kernel
theorem dX6_giveTo_6 : decode cX6_giveTo 6 = .ok (.iload_n 1, 1) := by decide +kernel
theorem dX6_giveTo_7 : decode cX6_giveTo 7 = .ok (.putfield 28, 3) := by decide +kernel
theorem dX6_giveTo_10 : decode cX6_giveTo 10 = .ok (.aload_n 0, 1) := by decide +kernel
theorem dX6_giveTo_11 : decode cX6_giveTo 11 = .ok (.iload_n 2, 1) := by decide +kernel
theorem dX6_giveTo_12 : decode cX6_giveTo 12 = .ok (.putfield 35, 3) := by decide +kernel
theorem dX6_giveTo_15 : decode cX6_giveTo 15 = .ok (.aload_n 0, 1) := by decide +kernel
theorem dX6_giveTo_16 : decode cX6_giveTo 16 = .ok (.iload_n 3, 1) := by decide +kernel
theorem dX6_giveTo_17 : decode cX6_giveTo 17 = .ok (.putfield 38, 3) := by decide +kernel
theorem dX6_giveTo_20 : decode cX6_giveTo 20 = .ok (.aload_n 0, 1) := by decide +kernel
theorem dX6_giveTo_21 : decode cX6_giveTo 21 = .ok (.iload 4, 2) := by decide +kernel
theorem dX6_giveTo_23 : decode cX6_giveTo 23 = .ok (.putfield 41, 3) := by decide +kernel
theorem dX6_giveTo_26 : decode cX6_giveTo 26 = .ok (.return_, 1) := by decide +kernel
theorem dX6_reopen_0 : decode cX6_reopen 0 = .ok (.aload_n 0, 1) := by decide +kernel
theorem dX6_reopen_1 : decode cX6_reopen 1 = .ok (.iconst 0, 1) := by decide +kernel
theorem dX6_reopen_2 : decode cX6_reopen 2 = .ok (.putfield 32, 3) := by decide +kernel
theorem dX6_reopen_5 : decode cX6_reopen 5 = .ok (.aload_n 0, 1) := by decide +kernel
theorem dX6_reopen_6 : decode cX6_reopen 6 = .ok (.iconst (-1), 1) := by decide +kernel
theorem dX6_reopen_7 : decode cX6_reopen 7 = .ok (.putfield 28, 3) := by decide +kernel
theorem dX6_reopen_10 : decode cX6_reopen 10 = .ok (.aload_n 0, 1) := by decide +kernel
theorem dX6_reopen_11 : decode cX6_reopen 11 = .ok (.iconst 0, 1) := by decide +kernel
theorem dX6_reopen_12 : decode cX6_reopen 12 = .ok (.putfield 44, 3) := by decide +kernel
theorem dX6_reopen_15 : decode cX6_reopen 15 = .ok (.aload_n 0, 1) := by decide +kernel
theorem dX6_reopen_16 : decode cX6_reopen 16 = .ok (.dup, 1) := by decide +kernel
theorem dX6_reopen_17 : decode cX6_reopen 17 = .ok (.getfield 47, 3) := by decide +kernel
theorem dX6_reopen_20 : decode cX6_reopen 20 = .ok (.iconst 1, 1) := by decide +kernel
theorem dX6_reopen_21 : decode cX6_reopen 21 = .ok (.iadd, 1) := by decide +kernel
theorem dX6_reopen_22 : decode cX6_reopen 22 = .ok (.putfield 47, 3) := by decide +kernel
theorem dX6_reopen_25 : decode cX6_reopen 25 = .ok (.return_, 1) := by decide +kernel
theorem dX6_heldCoins_0 : decode cX6_heldCoins 0 = .ok (.aload_n 0, 1) := by decide +kernel
theorem dX6_heldCoins_1 : decode cX6_heldCoins 1 = .ok (.getfield 32, 3) := by decide +kernel
theorem dX6_heldCoins_4 : decode cX6_heldCoins 4 = .ok (.tableswitch 63 1 5 #[36, 36, 46, 63, 58], 36) := by decide +kernel
theorem dX6_heldCoins_40 : decode cX6_heldCoins 40 = .ok (.aload_n 0, 1) := by decide +kernel
theorem dX6_heldCoins_41 : decode cX6_heldCoins 41 = .ok (.getfield 35, 3) := by decide +kernel
theorem dX6_heldCoins_44 : decode cX6_heldCoins 44 = .ok (.aload_n 0, 1) := by decide +kernel
theorem dX6_heldCoins_45 : decode cX6_heldCoins 45 = .ok (.getfield 38, 3) := by decide +kernel
theorem dX6_heldCoins_48 : decode cX6_heldCoins 48 = .ok (.iadd, 1) := by decide +kernel
theorem dX6_heldCoins_49 : decode cX6_heldCoins 49 = .ok (.ireturn, 1) := by decide +kernel
theorem dX6_heldCoins_50 : decode cX6_heldCoins 50 = .ok (.aload_n 0, 1) := by decide +kernel
theorem dX6_heldCoins_51 : decode cX6_heldCoins 51 = .ok (.getfield 35, 3) := by decide +kernel
theorem dX6_heldCoins_54 : decode cX6_heldCoins 54 = .ok (.iconst 2, 1) := by decide +kernel
theorem dX6_heldCoins_55 : decode cX6_heldCoins 55 = .ok (.aload_n 0, 1) := by decide +kernel
theorem dX6_heldCoins_56 : decode cX6_heldCoins 56 = .ok (.getfield 38, 3) := by decide +kernel
theorem dX6_heldCoins_59 : decode cX6_heldCoins 59 = .ok (.imul, 1) := by decide +kernel
theorem dX6_heldCoins_60 : decode cX6_heldCoins 60 = .ok (.iadd, 1) := by decide +kernel
theorem dX6_heldCoins_61 : decode cX6_heldCoins 61 = .ok (.ireturn, 1) := by decide +kernel
theorem dX6_heldCoins_62 : decode cX6_heldCoins 62 = .ok (.aload_n 0, 1) := by decide +kernel
theorem dX6_heldCoins_63 : decode cX6_heldCoins 63 = .ok (.getfield 35, 3) := by decide +kernel
theorem dX6_heldCoins_66 : decode cX6_heldCoins 66 = .ok (.ireturn, 1) := by decide +kernel
theorem dX6_heldCoins_67 : decode cX6_heldCoins 67 = .ok (.iconst 0, 1) := by decide +kernel
theorem dX6_heldCoins_68 : decode cX6_heldCoins 68 = .ok (.ireturn, 1) := by decide +kernel
theorem dX6_hasBid_0 : decode cX6_hasBid 0 = .ok (.iload_n 1, 1) := by decide +kernel
theorem dX6_hasBid_1 : decode cX6_hasBid 1 = .ok (.iconst 0, 1) := by decide +kernel
theorem dX6_hasBid_2 : decode cX6_hasBid 2 = .ok (.bipush 7, 2) := by decide +kernel
theorem dX6_hasBid_4 : decode cX6_hasBid 4 = .ok (.invokestatic 50, 3) := by decide +kernel
theorem dX6_hasBid_7 : decode cX6_hasBid 7 = .ok (.ifCond .eq 16, 3) := by decide +kernel
theorem dX6_hasBid_10 : decode cX6_hasBid 10 = .ok (.aload_n 0, 1) := by decide +kernel
theorem dX6_hasBid_11 : decode cX6_hasBid 11 = .ok (.getfield 22, 3) := by decide +kernel
theorem dX6_hasBid_14 : decode cX6_hasBid 14 = .ok (.iload_n 1, 1) := by decide +kernel
theorem dX6_hasBid_15 : decode cX6_hasBid 15 = .ok (.iaload, 1) := by decide +kernel
theorem dX6_hasBid_16 : decode cX6_hasBid 16 = .ok (.ifCond .le 7, 3) := by decide +kernel
theorem dX6_hasBid_19 : decode cX6_hasBid 19 = .ok (.iconst 1, 1) := by decide +kernel
theorem dX6_hasBid_20 : decode cX6_hasBid 20 = .ok (.goto 4, 3) := by decide +kernel
theorem dX6_hasBid_23 : decode cX6_hasBid 23 = .ok (.iconst 0, 1) := by decide +kernel
theorem dX6_hasBid_24 : decode cX6_hasBid 24 = .ok (.ireturn, 1) := by decide +kernel
theorem dX6_setBid_0 : decode cX6_setBid 0 = .ok (.iload_n 1, 1) := by decide +kernel
theorem dX6_setBid_1 : decode cX6_setBid 1 = .ok (.iconst 0, 1) := by decide +kernel
theorem dX6_setBid_2 : decode cX6_setBid 2 = .ok (.bipush 7, 2) := by decide +kernel
theorem dX6_setBid_4 : decode cX6_setBid 4 = .ok (.invokestatic 50, 3) := by decide +kernel
theorem dX6_setBid_7 : decode cX6_setBid 7 = .ok (.ifCond .eq 25, 3) := by decide +kernel
theorem dX6_setBid_10 : decode cX6_setBid 10 = .ok (.aload_n 0, 1) := by decide +kernel
theorem dX6_setBid_11 : decode cX6_setBid 11 = .ok (.getfield 18, 3) := by decide +kernel
theorem dX6_setBid_14 : decode cX6_setBid 14 = .ok (.iload_n 1, 1) := by decide +kernel
theorem dX6_setBid_15 : decode cX6_setBid 15 = .ok (.iload_n 2, 1) := by decide +kernel
theorem dX6_setBid_16 : decode cX6_setBid 16 = .ok (.iastore, 1) := by decide +kernel
theorem dX6_setBid_17 : decode cX6_setBid 17 = .ok (.aload_n 0, 1) := by decide +kernel
theorem dX6_setBid_18 : decode cX6_setBid 18 = .ok (.getfield 22, 3) := by decide +kernel
theorem dX6_setBid_21 : decode cX6_setBid 21 = .ok (.iload_n 1, 1) := by decide +kernel
theorem dX6_setBid_22 : decode cX6_setBid 22 = .ok (.iload_n 3, 1) := by decide +kernel
theorem dX6_setBid_23 : decode cX6_setBid 23 = .ok (.iastore, 1) := by decide +kernel
theorem dX6_setBid_24 : decode cX6_setBid 24 = .ok (.aload_n 0, 1) := by decide +kernel
theorem dX6_setBid_25 : decode cX6_setBid 25 = .ok (.getfield 25, 3) := by decide +kernel
theorem dX6_setBid_28 : decode cX6_setBid 28 = .ok (.iload_n 1, 1) := by decide +kernel
theorem dX6_setBid_29 : decode cX6_setBid 29 = .ok (.iload 4, 2) := by decide +kernel
theorem dX6_setBid_31 : decode cX6_setBid 31 = .ok (.iastore, 1) := by decide +kernel
theorem dX6_setBid_32 : decode cX6_setBid 32 = .ok (.return_, 1) := by decide +kernel
theorem dX6_dropBids_0 : decode cX6_dropBids 0 = .ok (.iconst 0, 1) := by decide +kernel
theorem dX6_dropBids_1 : decode cX6_dropBids 1 = .ok (.istore_n 1, 1) := by decide +kernel
theorem dX6_dropBids_2 : decode cX6_dropBids 2 = .ok (.iconst 0, 1) := by decide +kernel
theorem dX6_dropBids_3 : decode cX6_dropBids 3 = .ok (.istore_n 2, 1) := by decide +kernel
theorem dX6_dropBids_4 : decode cX6_dropBids 4 = .ok (.iload_n 2, 1) := by decide +kernel
theorem dX6_dropBids_5 : decode cX6_dropBids 5 = .ok (.bipush 8, 2) := by decide +kernel
theorem dX6_dropBids_7 : decode cX6_dropBids 7 = .ok (.if_icmp .ge 28, 3) := by decide +kernel
theorem dX6_dropBids_10 : decode cX6_dropBids 10 = .ok (.aload_n 0, 1) := by decide +kernel
theorem dX6_dropBids_11 : decode cX6_dropBids 11 = .ok (.getfield 22, 3) := by decide +kernel
theorem dX6_dropBids_14 : decode cX6_dropBids 14 = .ok (.iload_n 2, 1) := by decide +kernel
theorem dX6_dropBids_15 : decode cX6_dropBids 15 = .ok (.iaload, 1) := by decide +kernel
theorem dX6_dropBids_16 : decode cX6_dropBids 16 = .ok (.ifCond .le 13, 3) := by decide +kernel
theorem dX6_dropBids_19 : decode cX6_dropBids 19 = .ok (.iinc 1 1, 3) := by decide +kernel
theorem dX6_dropBids_22 : decode cX6_dropBids 22 = .ok (.aload_n 0, 1) := by decide +kernel
theorem dX6_dropBids_23 : decode cX6_dropBids 23 = .ok (.getfield 22, 3) := by decide +kernel
theorem dX6_dropBids_26 : decode cX6_dropBids 26 = .ok (.iload_n 2, 1) := by decide +kernel
theorem dX6_dropBids_27 : decode cX6_dropBids 27 = .ok (.iconst 0, 1) := by decide +kernel
theorem dX6_dropBids_28 : decode cX6_dropBids 28 = .ok (.iastore, 1) := by decide +kernel
theorem dX6_dropBids_29 : decode cX6_dropBids 29 = .ok (.iinc 2 1, 3) := by decide +kernel
theorem dX6_dropBids_32 : decode cX6_dropBids 32 = .ok (.goto (-28), 3) := by decide +kernel
theorem dX6_dropBids_35 : decode cX6_dropBids 35 = .ok (.iload_n 1, 1) := by decide +kernel
theorem dX6_dropBids_36 : decode cX6_dropBids 36 = .ok (.ireturn, 1) := by decide +kernel
theorem dX6_bidCost_0 : decode cX6_bidCost 0 = .ok (.iload_n 1, 1) := by decide +kernel
theorem dX6_bidCost_1 : decode cX6_bidCost 1 = .ok (.iconst 0, 1) := by decide +kernel
theorem dX6_bidCost_2 : decode cX6_bidCost 2 = .ok (.bipush 7, 2) := by decide +kernel
theorem dX6_bidCost_4 : decode cX6_bidCost 4 = .ok (.invokestatic 50, 3) := by decide +kernel
theorem dX6_bidCost_7 : decode cX6_bidCost 7 = .ok (.ifCond .ne 7, 3) := by decide +kernel
theorem dX6_bidCost_10 : decode cX6_bidCost 10 = .ok (.ldc2_w 54, 3) := by decide +kernel
theorem dX6_bidCost_13 : decode cX6_bidCost 13 = .ok (.lreturn, 1) := by decide +kernel
theorem dX6_bidCost_14 : decode cX6_bidCost 14 = .ok (.aload_n 0, 1) := by decide +kernel
theorem dX6_bidCost_15 : decode cX6_bidCost 15 = .ok (.getfield 56, 3) := by decide +kernel
theorem dX6_bidCost_18 : decode cX6_bidCost 18 = .ok (.aload_n 0, 1) := by decide +kernel
theorem dX6_bidCost_19 : decode cX6_bidCost 19 = .ok (.getfield 59, 3) := by decide +kernel
theorem dX6_bidCost_22 : decode cX6_bidCost 22 = .ok (.isub, 1) := by decide +kernel
theorem dX6_bidCost_23 : decode cX6_bidCost 23 = .ok (.i2l, 1) := by decide +kernel
theorem dX6_bidCost_24 : decode cX6_bidCost 24 = .ok (.ldc2_w 62, 3) := by decide +kernel
theorem dX6_bidCost_27 : decode cX6_bidCost 27 = .ok (.lmul, 1) := by decide +kernel
theorem dX6_bidCost_28 : decode cX6_bidCost 28 = .ok (.aload_n 2, 1) := by decide +kernel
theorem dX6_bidCost_29 : decode cX6_bidCost 29 = .ok (.getfield 64, 3) := by decide +kernel
theorem dX6_bidCost_32 : decode cX6_bidCost 32 = .ok (.i2l, 1) := by decide +kernel
theorem dX6_bidCost_33 : decode cX6_bidCost 33 = .ok (.lconst 1, 1) := by decide +kernel
theorem dX6_bidCost_34 : decode cX6_bidCost 34 = .ok (.ladd, 1) := by decide +kernel
theorem dX6_bidCost_35 : decode cX6_bidCost 35 = .ok (.lmul, 1) := by decide +kernel
theorem dX6_bidCost_36 : decode cX6_bidCost 36 = .ok (.lstore_n 3, 1) := by decide +kernel
theorem dX6_bidCost_37 : decode cX6_bidCost 37 = .ok (.ldc2_w 69, 3) := by decide +kernel
theorem dX6_bidCost_40 : decode cX6_bidCost 40 = .ok (.aload_n 2, 1) := by decide +kernel
theorem dX6_bidCost_41 : decode cX6_bidCost 41 = .ok (.getfield 71, 3) := by decide +kernel
theorem dX6_bidCost_44 : decode cX6_bidCost 44 = .ok (.aload_n 2, 1) := by decide +kernel
theorem dX6_bidCost_45 : decode cX6_bidCost 45 = .ok (.getfield 64, 3) := by decide +kernel
theorem dX6_bidCost_48 : decode cX6_bidCost 48 = .ok (.iadd, 1) := by decide +kernel
theorem dX6_bidCost_49 : decode cX6_bidCost 49 = .ok (.i2l, 1) := by decide +kernel
theorem dX6_bidCost_50 : decode cX6_bidCost 50 = .ok (.ldc2_w 69, 3) := by decide +kernel
theorem dX6_bidCost_53 : decode cX6_bidCost 53 = .ok (.ladd, 1) := by decide +kernel
theorem dX6_bidCost_54 : decode cX6_bidCost 54 = .ok (.invokestatic 74, 3) := by decide +kernel
theorem dX6_bidCost_57 : decode cX6_bidCost 57 = .ok (.lstore 5, 2) := by decide +kernel
theorem dX6_bidCost_59 : decode cX6_bidCost 59 = .ok (.ldc2_w 62, 3) := by decide +kernel
theorem dX6_bidCost_62 : decode cX6_bidCost 62 = .ok (.aload_n 0, 1) := by decide +kernel
theorem dX6_bidCost_63 : decode cX6_bidCost 63 = .ok (.getfield 18, 3) := by decide +kernel
theorem dX6_bidCost_66 : decode cX6_bidCost 66 = .ok (.iload_n 1, 1) := by decide +kernel
theorem dX6_bidCost_67 : decode cX6_bidCost 67 = .ok (.iaload, 1) := by decide +kernel
theorem dX6_bidCost_68 : decode cX6_bidCost 68 = .ok (.i2l, 1) := by decide +kernel
theorem dX6_bidCost_69 : decode cX6_bidCost 69 = .ok (.lmul, 1) := by decide +kernel
theorem dX6_bidCost_70 : decode cX6_bidCost 70 = .ok (.lload_n 3, 1) := by decide +kernel
theorem dX6_bidCost_71 : decode cX6_bidCost 71 = .ok (.lload 5, 2) := by decide +kernel
theorem dX6_bidCost_73 : decode cX6_bidCost 73 = .ok (.ldiv, 1) := by decide +kernel
theorem dX6_bidCost_74 : decode cX6_bidCost 74 = .ok (.ladd, 1) := by decide +kernel
theorem dX6_bidCost_75 : decode cX6_bidCost 75 = .ok (.lreturn, 1) := by decide +kernel
