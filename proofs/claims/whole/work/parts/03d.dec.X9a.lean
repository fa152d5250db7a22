theorem dX9_init_0 : decode cX9_init 0 = .ok (.aload_n 0, 1) := by decide +kernel
theorem dX9_init_1 : decode cX9_init 1 = .ok (.invokespecial 3, 3) := by decide +kernel
theorem dX9_init_4 : decode cX9_init 4 = .ok (.aload_n 0, 1) := by decide +kernel
theorem dX9_init_5 : decode cX9_init 5 = .ok (.sipush 200, 3) := by decide +kernel
theorem dX9_init_8 : decode cX9_init 8 = .ok (.newarray .int, 2) := by decide +kernel
theorem dX9_init_10 : decode cX9_init 10 = .ok (.putfield 9, 3) := by decide +kernel
theorem dX9_init_13 : decode cX9_init 13 = .ok (.aload_n 0, 1) := by decide +kernel
theorem dX9_init_14 : decode cX9_init 14 = .ok (.sipush 200, 3) := by decide +kernel
theorem dX9_init_17 : decode cX9_init 17 = .ok (.newarray .int, 2) := by decide +kernel
theorem dX9_init_19 : decode cX9_init 19 = .ok (.putfield 15, 3) := by decide +kernel
theorem dX9_init_22 : decode cX9_init 22 = .ok (.aload_n 0, 1) := by decide +kernel
theorem dX9_init_23 : decode cX9_init 23 = .ok (.bipush 64, 2) := by decide +kernel
theorem dX9_init_25 : decode cX9_init 25 = .ok (.newarray .int, 2) := by decide +kernel
theorem dX9_init_27 : decode cX9_init 27 = .ok (.putfield 18, 3) := by decide +kernel
theorem dX9_init_30 : decode cX9_init 30 = .ok (.aload_n 0, 1) := by decide +kernel
theorem dX9_init_31 : decode cX9_init 31 = .ok (.bipush 7, 2) := by decide +kernel
theorem dX9_init_33 : decode cX9_init 33 = .ok (.bipush 64, 2) := by decide +kernel
theorem dX9_init_35 : decode cX9_init 35 = .ok (.multianewarray 21 2, 4) := by decide +kernel
theorem dX9_init_39 : decode cX9_init 39 = .ok (.putfield 23, 3) := by decide +kernel
theorem dX9_init_42 : decode cX9_init 42 = .ok (.aload_n 0, 1) := by decide +kernel
theorem dX9_init_43 : decode cX9_init 43 = .ok (.bipush 20, 2) := by decide +kernel
theorem dX9_init_45 : decode cX9_init 45 = .ok (.anewarray 26, 3) := by decide +kernel
theorem dX9_init_48 : decode cX9_init 48 = .ok (.putfield 28, 3) := by decide +kernel
theorem dX9_init_51 : decode cX9_init 51 = .ok (.iconst 0, 1) := by decide +kernel
theorem dX9_init_52 : decode cX9_init 52 = .ok (.istore_n 1, 1) := by decide +kernel
theorem dX9_init_53 : decode cX9_init 53 = .ok (.iload_n 1, 1) := by decide +kernel
theorem dX9_init_54 : decode cX9_init 54 = .ok (.bipush 20, 2) := by decide +kernel
theorem dX9_init_56 : decode cX9_init 56 = .ok (.if_icmp .ge 22, 3) := by decide +kernel
theorem dX9_init_59 : decode cX9_init 59 = .ok (.aload_n 0, 1) := by decide +kernel
theorem dX9_init_60 : decode cX9_init 60 = .ok (.getfield 28, 3) := by decide +kernel
theorem dX9_init_63 : decode cX9_init 63 = .ok (.iload_n 1, 1) := by decide +kernel
theorem dX9_init_64 : decode cX9_init 64 = .ok (.new 26, 3) := by decide +kernel
theorem dX9_init_67 : decode cX9_init 67 = .ok (.dup, 1) := by decide +kernel
theorem dX9_init_68 : decode cX9_init 68 = .ok (.invokespecial 32, 3) := by decide +kernel
theorem dX9_init_71 : decode cX9_init 71 = .ok (.aastore, 1) := by decide +kernel
theorem dX9_init_72 : decode cX9_init 72 = .ok (.iinc 1 1, 3) := by decide +kernel
theorem dX9_init_75 : decode cX9_init 75 = .ok (.goto (-22), 3) := by decide +kernel
theorem dX9_init_78 : decode cX9_init 78 = .ok (.return_, 1) := by decide +kernel
theorem dX9_begin_0 : decode cX9_begin 0 = .ok (.aload_n 0, 1) := by decide +kernel
theorem dX9_begin_1 : decode cX9_begin 1 = .ok (.aload_n 1, 1) := by decide +kernel
theorem dX9_begin_2 : decode cX9_begin 2 = .ok (.getfield 33, 3) := by decide +kernel
theorem dX9_begin_5 : decode cX9_begin 5 = .ok (.sipush 200, 3) := by decide +kernel
theorem dX9_begin_8 : decode cX9_begin 8 = .ok (.invokestatic 39, 3) := by decide +kernel
theorem dX9_begin_11 : decode cX9_begin 11 = .ok (.putfield 45, 3) := by decide +kernel
theorem dX9_begin_14 : decode cX9_begin 14 = .ok (.iconst 0, 1) := by decide +kernel
theorem dX9_begin_15 : decode cX9_begin 15 = .ok (.istore 4, 2) := by decide +kernel
theorem dX9_begin_17 : decode cX9_begin 17 = .ok (.iload 4, 2) := by decide +kernel
theorem dX9_begin_19 : decode cX9_begin 19 = .ok (.aload_n 0, 1) := by decide +kernel
theorem dX9_begin_20 : decode cX9_begin 20 = .ok (.getfield 45, 3) := by decide +kernel
theorem dX9_begin_23 : decode cX9_begin 23 = .ok (.if_icmp .ge 37, 3) := by decide +kernel
theorem dX9_begin_26 : decode cX9_begin 26 = .ok (.aload_n 0, 1) := by decide +kernel
theorem dX9_begin_27 : decode cX9_begin 27 = .ok (.getfield 9, 3) := by decide +kernel
theorem dX9_begin_30 : decode cX9_begin 30 = .ok (.iload 4, 2) := by decide +kernel
theorem dX9_begin_32 : decode cX9_begin 32 = .ok (.aload_n 1, 1) := by decide +kernel
theorem dX9_begin_33 : decode cX9_begin 33 = .ok (.getfield 46, 3) := by decide +kernel
theorem dX9_begin_36 : decode cX9_begin 36 = .ok (.iload 4, 2) := by decide +kernel
theorem dX9_begin_38 : decode cX9_begin 38 = .ok (.iaload, 1) := by decide +kernel
theorem dX9_begin_39 : decode cX9_begin 39 = .ok (.iastore, 1) := by decide +kernel
theorem dX9_begin_40 : decode cX9_begin 40 = .ok (.aload_n 0, 1) := by decide +kernel
theorem dX9_begin_41 : decode cX9_begin 41 = .ok (.getfield 15, 3) := by decide +kernel
theorem dX9_begin_44 : decode cX9_begin 44 = .ok (.iload 4, 2) := by decide +kernel
theorem dX9_begin_46 : decode cX9_begin 46 = .ok (.aload_n 1, 1) := by decide +kernel
theorem dX9_begin_47 : decode cX9_begin 47 = .ok (.getfield 47, 3) := by decide +kernel
theorem dX9_begin_50 : decode cX9_begin 50 = .ok (.iload 4, 2) := by decide +kernel
theorem dX9_begin_52 : decode cX9_begin 52 = .ok (.iaload, 1) := by decide +kernel
theorem dX9_begin_53 : decode cX9_begin 53 = .ok (.iastore, 1) := by decide +kernel
theorem dX9_begin_54 : decode cX9_begin 54 = .ok (.iinc 4 1, 3) := by decide +kernel
theorem dX9_begin_57 : decode cX9_begin 57 = .ok (.goto (-40), 3) := by decide +kernel
theorem dX9_begin_60 : decode cX9_begin 60 = .ok (.aload_n 0, 1) := by decide +kernel
theorem dX9_begin_61 : decode cX9_begin 61 = .ok (.iload_n 2, 1) := by decide +kernel
theorem dX9_begin_62 : decode cX9_begin 62 = .ok (.putfield 48, 3) := by decide +kernel
theorem dX9_begin_65 : decode cX9_begin 65 = .ok (.aload_n 0, 1) := by decide +kernel
theorem dX9_begin_66 : decode cX9_begin 66 = .ok (.iload_n 3, 1) := by decide +kernel
theorem dX9_begin_67 : decode cX9_begin 67 = .ok (.putfield 51, 3) := by decide +kernel
theorem dX9_begin_70 : decode cX9_begin 70 = .ok (.return_, 1) := by decide +kernel
theorem dX9_hasCode_0 : decode cX9_hasCode 0 = .ok (.iload_n 1, 1) := by decide +kernel
theorem dX9_hasCode_1 : decode cX9_hasCode 1 = .ok (.ifCond .lt 22, 3) := by decide +kernel
theorem dX9_hasCode_4 : decode cX9_hasCode 4 = .ok (.iload_n 1, 1) := by decide +kernel
theorem dX9_hasCode_5 : decode cX9_hasCode 5 = .ok (.aload_n 0, 1) := by decide +kernel
theorem dX9_hasCode_6 : decode cX9_hasCode 6 = .ok (.getfield 45, 3) := by decide +kernel
theorem dX9_hasCode_9 : decode cX9_hasCode 9 = .ok (.if_icmp .ge 14, 3) := by decide +kernel
theorem dX9_hasCode_12 : decode cX9_hasCode 12 = .ok (.iload_n 1, 1) := by decide +kernel
theorem dX9_hasCode_13 : decode cX9_hasCode 13 = .ok (.sipush 200, 3) := by decide +kernel
theorem dX9_hasCode_16 : decode cX9_hasCode 16 = .ok (.if_icmp .ge 7, 3) := by decide +kernel
theorem dX9_hasCode_19 : decode cX9_hasCode 19 = .ok (.iconst 1, 1) := by decide +kernel
theorem dX9_hasCode_20 : decode cX9_hasCode 20 = .ok (.goto 4, 3) := by decide +kernel
theorem dX9_hasCode_23 : decode cX9_hasCode 23 = .ok (.iconst 0, 1) := by decide +kernel
theorem dX9_hasCode_24 : decode cX9_hasCode 24 = .ok (.ireturn, 1) := by decide +kernel
theorem dX9_hasPiece_0 : decode cX9_hasPiece 0 = .ok (.iload_n 1, 1) := by decide +kernel
theorem dX9_hasPiece_1 : decode cX9_hasPiece 1 = .ok (.ifCond .lt 21, 3) := by decide +kernel
theorem dX9_hasPiece_4 : decode cX9_hasPiece 4 = .ok (.iload_n 1, 1) := by decide +kernel
theorem dX9_hasPiece_5 : decode cX9_hasPiece 5 = .ok (.aload_n 0, 1) := by decide +kernel
theorem dX9_hasPiece_6 : decode cX9_hasPiece 6 = .ok (.getfield 54, 3) := by decide +kernel
theorem dX9_hasPiece_9 : decode cX9_hasPiece 9 = .ok (.if_icmp .ge 13, 3) := by decide +kernel
theorem dX9_hasPiece_12 : decode cX9_hasPiece 12 = .ok (.iload_n 1, 1) := by decide +kernel
theorem dX9_hasPiece_13 : decode cX9_hasPiece 13 = .ok (.bipush 20, 2) := by decide +kernel
theorem dX9_hasPiece_15 : decode cX9_hasPiece 15 = .ok (.if_icmp .ge 7, 3) := by decide +kernel
theorem dX9_hasPiece_18 : decode cX9_hasPiece 18 = .ok (.iconst 1, 1) := by decide +kernel
theorem dX9_hasPiece_19 : decode cX9_hasPiece 19 = .ok (.goto 4, 3) := by decide +kernel
theorem dX9_hasPiece_22 : decode cX9_hasPiece 22 = .ok (.iconst 0, 1) := by decide +kernel
theorem dX9_hasPiece_23 : decode cX9_hasPiece 23 = .ok (.ireturn, 1) := by decide +kernel
theorem dX9_divide_0 : decode cX9_divide 0 = .ok (.iconst 0, 1) := by decide +kernel
theorem dX9_divide_1 : decode cX9_divide 1 = .ok (.istore 4, 2) := by decide +kernel
theorem dX9_divide_3 : decode cX9_divide 3 = .ok (.iload 4, 2) := by decide +kernel
theorem dX9_divide_5 : decode cX9_divide 5 = .ok (.iload_n 1, 1) := by decide +kernel
theorem dX9_divide_6 : decode cX9_divide 6 = .ok (.if_icmp .ge 50, 3) := by decide +kernel
theorem dX9_divide_9 : decode cX9_divide 9 = .ok (.iload 4, 2) := by decide +kernel
theorem dX9_divide_11 : decode cX9_divide 11 = .ok (.bipush 20, 2) := by decide +kernel
theorem dX9_divide_13 : decode cX9_divide 13 = .ok (.if_icmp .ge 43, 3) := by decide +kernel
theorem dX9_divide_16 : decode cX9_divide 16 = .ok (.aload_n 0, 1) := by decide +kernel
theorem dX9_divide_17 : decode cX9_divide 17 = .ok (.getfield 28, 3) := by decide +kernel
theorem dX9_divide_20 : decode cX9_divide 20 = .ok (.iload 4, 2) := by decide +kernel
theorem dX9_divide_22 : decode cX9_divide 22 = .ok (.aaload, 1) := by decide +kernel
theorem dX9_divide_23 : decode cX9_divide 23 = .ok (.iload 4, 2) := by decide +kernel
theorem dX9_divide_25 : decode cX9_divide 25 = .ok (.iload_n 2, 1) := by decide +kernel
theorem dX9_divide_26 : decode cX9_divide 26 = .ok (.imul, 1) := by decide +kernel
theorem dX9_divide_27 : decode cX9_divide 27 = .ok (.putfield 57, 3) := by decide +kernel
theorem dX9_divide_30 : decode cX9_divide 30 = .ok (.aload_n 0, 1) := by decide +kernel
theorem dX9_divide_31 : decode cX9_divide 31 = .ok (.getfield 28, 3) := by decide +kernel
theorem dX9_divide_34 : decode cX9_divide 34 = .ok (.iload 4, 2) := by decide +kernel
theorem dX9_divide_36 : decode cX9_divide 36 = .ok (.aaload, 1) := by decide +kernel
theorem dX9_divide_37 : decode cX9_divide 37 = .ok (.iload_n 3, 1) := by decide +kernel
theorem dX9_divide_38 : decode cX9_divide 38 = .ok (.iload 4, 2) := by decide +kernel
theorem dX9_divide_40 : decode cX9_divide 40 = .ok (.iconst 1, 1) := by decide +kernel
theorem dX9_divide_41 : decode cX9_divide 41 = .ok (.iadd, 1) := by decide +kernel
theorem dX9_divide_42 : decode cX9_divide 42 = .ok (.iload_n 2, 1) := by decide +kernel
theorem dX9_divide_43 : decode cX9_divide 43 = .ok (.imul, 1) := by decide +kernel
theorem dX9_divide_44 : decode cX9_divide 44 = .ok (.invokestatic 39, 3) := by decide +kernel
theorem dX9_divide_47 : decode cX9_divide 47 = .ok (.putfield 60, 3) := by decide +kernel
theorem dX9_divide_50 : decode cX9_divide 50 = .ok (.iinc 4 1, 3) := by decide +kernel
theorem dX9_divide_53 : decode cX9_divide 53 = .ok (.goto (-50), 3) := by decide +kernel
theorem dX9_divide_56 : decode cX9_divide 56 = .ok (.aload_n 0, 1) := by decide +kernel
theorem dX9_divide_57 : decode cX9_divide 57 = .ok (.iload_n 1, 1) := by decide +kernel
theorem dX9_divide_58 : decode cX9_divide 58 = .ok (.putfield 54, 3) := by decide +kernel
theorem dX9_divide_61 : decode cX9_divide 61 = .ok (.return_, 1) := by decide +kernel
theorem dX9_isEndToldAhead_0 : decode cX9_isEndToldAhead 0 = .ok (.iload_n 1, 1) := by decide +kernel
theorem dX9_isEndToldAhead_1 : decode cX9_isEndToldAhead 1 = .ok (.ifCond .le 9, 3) := by decide +kernel
theorem dX9_isEndToldAhead_4 : decode cX9_isEndToldAhead 4 = .ok (.iload_n 1, 1) := by decide +kernel
theorem dX9_isEndToldAhead_5 : decode cX9_isEndToldAhead 5 = .ok (.bipush 20, 2) := by decide +kernel
theorem dX9_isEndToldAhead_7 : decode cX9_isEndToldAhead 7 = .ok (.if_icmp .le 5, 3) := by decide +kernel
theorem dX9_isEndToldAhead_10 : decode cX9_isEndToldAhead 10 = .ok (.iconst 1, 1) := by decide +kernel
theorem dX9_isEndToldAhead_11 : decode cX9_isEndToldAhead 11 = .ok (.ireturn, 1) := by decide +kernel
theorem dX9_isEndToldAhead_12 : decode cX9_isEndToldAhead 12 = .ok (.aload_n 0, 1) := by decide +kernel
theorem dX9_isEndToldAhead_13 : decode cX9_isEndToldAhead 13 = .ok (.getfield 28, 3) := by decide +kernel
theorem dX9_isEndToldAhead_16 : decode cX9_isEndToldAhead 16 = .ok (.iload_n 1, 1) := by decide +kernel
theorem dX9_isEndToldAhead_17 : decode cX9_isEndToldAhead 17 = .ok (.iconst 1, 1) := by decide +kernel
theorem dX9_isEndToldAhead_18 : decode cX9_isEndToldAhead 18 = .ok (.isub, 1) := by decide +kernel
theorem dX9_isEndToldAhead_19 : decode cX9_isEndToldAhead 19 = .ok (.aaload, 1) := by decide +kernel
theorem dX9_isEndToldAhead_20 : decode cX9_isEndToldAhead 20 = .ok (.getfield 63, 3) := by decide +kernel
theorem dX9_isEndToldAhead_23 : decode cX9_isEndToldAhead 23 = .ok (.istore_n 2, 1) := by decide +kernel
theorem dX9_isEndToldAhead_24 : decode cX9_isEndToldAhead 24 = .ok (.iload_n 2, 1) := by decide +kernel
theorem dX9_isEndToldAhead_25 : decode cX9_isEndToldAhead 25 = .ok (.iconst 2, 1) := by decide +kernel
theorem dX9_isEndToldAhead_26 : decode cX9_isEndToldAhead 26 = .ok (.if_icmp .eq 13, 3) := by decide +kernel
theorem dX9_isEndToldAhead_29 : decode cX9_isEndToldAhead 29 = .ok (.iload_n 2, 1) := by decide +kernel
theorem dX9_isEndToldAhead_30 : decode cX9_isEndToldAhead 30 = .ok (.iconst 5, 1) := by decide +kernel
theorem dX9_isEndToldAhead_31 : decode cX9_isEndToldAhead 31 = .ok (.if_icmp .eq 8, 3) := by decide +kernel
theorem dX9_isEndToldAhead_34 : decode cX9_isEndToldAhead 34 = .ok (.iload_n 2, 1) := by decide +kernel
theorem dX9_isEndToldAhead_35 : decode cX9_isEndToldAhead 35 = .ok (.iconst 4, 1) := by decide +kernel
theorem dX9_isEndToldAhead_36 : decode cX9_isEndToldAhead 36 = .ok (.if_icmp .ne 7, 3) := by decide +kernel
theorem dX9_isEndToldAhead_39 : decode cX9_isEndToldAhead 39 = .ok (.iconst 1, 1) := by decide +kernel
theorem dX9_isEndToldAhead_40 : decode cX9_isEndToldAhead 40 = .ok (.goto 4, 3) := by decide +kernel
theorem dX9_isEndToldAhead_43 : decode cX9_isEndToldAhead 43 = .ok (.iconst 0, 1) := by decide +kernel
theorem dX9_isEndToldAhead_44 : decode cX9_isEndToldAhead 44 = .ok (.ireturn, 1) := by decide +kernel
theorem dX9_partOf_0 : decode cX9_partOf 0 = .ok (.iload_n 3, 1) := by decide +kernel
theorem dX9_partOf_1 : decode cX9_partOf 1 = .ok (.ifCond .lt 19, 3) := by decide +kernel
theorem dX9_partOf_4 : decode cX9_partOf 4 = .ok (.iload_n 3, 1) := by decide +kernel
theorem dX9_partOf_5 : decode cX9_partOf 5 = .ok (.bipush 64, 2) := by decide +kernel
theorem dX9_partOf_7 : decode cX9_partOf 7 = .ok (.if_icmp .ge 13, 3) := by decide +kernel
theorem dX9_partOf_10 : decode cX9_partOf 10 = .ok (.iload_n 2, 1) := by decide +kernel
theorem dX9_partOf_11 : decode cX9_partOf 11 = .ok (.ifCond .lt 9, 3) := by decide +kernel
theorem dX9_partOf_14 : decode cX9_partOf 14 = .ok (.iload_n 2, 1) := by decide +kernel
theorem dX9_partOf_15 : decode cX9_partOf 15 = .ok (.bipush 8, 2) := by decide +kernel
theorem dX9_partOf_17 : decode cX9_partOf 17 = .ok (.if_icmp .lt 5, 3) := by decide +kernel
theorem dX9_partOf_20 : decode cX9_partOf 20 = .ok (.iconst 0, 1) := by decide +kernel
theorem dX9_partOf_21 : decode cX9_partOf 21 = .ok (.ireturn, 1) := by decide +kernel
theorem dX9_partOf_22 : decode cX9_partOf 22 = .ok (.iload_n 2, 1) := by decide +kernel
theorem dX9_partOf_23 : decode cX9_partOf 23 = .ok (.iload_n 1, 1) := by decide +kernel
theorem dX9_partOf_24 : decode cX9_partOf 24 = .ok (.iconst 1, 1) := by decide +kernel
theorem dX9_partOf_25 : decode cX9_partOf 25 = .ok (.isub, 1) := by decide +kernel
theorem dX9_partOf_26 : decode cX9_partOf 26 = .ok (.if_icmp .ge 18, 3) := by decide +kernel
theorem dX9_partOf_29 : decode cX9_partOf 29 = .ok (.iload_n 2, 1) := by decide +kernel
theorem dX9_partOf_30 : decode cX9_partOf 30 = .ok (.bipush 7, 2) := by decide +kernel
theorem dX9_partOf_32 : decode cX9_partOf 32 = .ok (.if_icmp .ge 12, 3) := by decide +kernel
theorem dX9_partOf_35 : decode cX9_partOf 35 = .ok (.aload_n 0, 1) := by decide +kernel
theorem dX9_partOf_36 : decode cX9_partOf 36 = .ok (.getfield 23, 3) := by decide +kernel
theorem dX9_partOf_39 : decode cX9_partOf 39 = .ok (.iload_n 2, 1) := by decide +kernel
theorem dX9_partOf_40 : decode cX9_partOf 40 = .ok (.aaload, 1) := by decide +kernel
theorem dX9_partOf_41 : decode cX9_partOf 41 = .ok (.iload_n 3, 1) := by decide +kernel
theorem dX9_partOf_42 : decode cX9_partOf 42 = .ok (.iaload, 1) := by decide +kernel
theorem dX9_partOf_43 : decode cX9_partOf 43 = .ok (.ireturn, 1) := by decide +kernel
theorem dX9_partOf_44 : decode cX9_partOf 44 = .ok (.aload_n 0, 1) := by decide +kernel
theorem dX9_partOf_45 : decode cX9_partOf 45 = .ok (.getfield 18, 3) := by decide +kernel
theorem dX9_partOf_48 : decode cX9_partOf 48 = .ok (.iload_n 3, 1) := by decide +kernel
theorem dX9_partOf_49 : decode cX9_partOf 49 = .ok (.iaload, 1) := by decide +kernel
theorem dX9_partOf_50 : decode cX9_partOf 50 = .ok (.istore 4, 2) := by decide +kernel
theorem dX9_partOf_52 : decode cX9_partOf 52 = .ok (.iconst 0, 1) := by decide +kernel
theorem dX9_partOf_53 : decode cX9_partOf 53 = .ok (.istore 5, 2) := by decide +kernel
theorem dX9_partOf_55 : decode cX9_partOf 55 = .ok (.iload 5, 2) := by decide +kernel
theorem dX9_partOf_57 : decode cX9_partOf 57 = .ok (.iload_n 1, 1) := by decide +kernel
theorem dX9_partOf_58 : decode cX9_partOf 58 = .ok (.iconst 1, 1) := by decide +kernel
theorem dX9_partOf_59 : decode cX9_partOf 59 = .ok (.isub, 1) := by decide +kernel
theorem dX9_partOf_60 : decode cX9_partOf 60 = .ok (.if_icmp .ge 30, 3) := by decide +kernel
theorem dX9_partOf_63 : decode cX9_partOf 63 = .ok (.iload 5, 2) := by decide +kernel
theorem dX9_partOf_65 : decode cX9_partOf 65 = .ok (.bipush 7, 2) := by decide +kernel
theorem dX9_partOf_67 : decode cX9_partOf 67 = .ok (.if_icmp .ge 23, 3) := by decide +kernel
theorem dX9_partOf_70 : decode cX9_partOf 70 = .ok (.iload 4, 2) := by decide +kernel
theorem dX9_partOf_72 : decode cX9_partOf 72 = .ok (.aload_n 0, 1) := by decide +kernel
theorem dX9_partOf_73 : decode cX9_partOf 73 = .ok (.getfield 23, 3) := by decide +kernel
theorem dX9_partOf_76 : decode cX9_partOf 76 = .ok (.iload 5, 2) := by decide +kernel
theorem dX9_partOf_78 : decode cX9_partOf 78 = .ok (.aaload, 1) := by decide +kernel
theorem dX9_partOf_79 : decode cX9_partOf 79 = .ok (.iload_n 3, 1) := by decide +kernel
theorem dX9_partOf_80 : decode cX9_partOf 80 = .ok (.iaload, 1) := by decide +kernel
theorem dX9_partOf_81 : decode cX9_partOf 81 = .ok (.isub, 1) := by decide +kernel
theorem dX9_partOf_82 : decode cX9_partOf 82 = .ok (.istore 4, 2) := by decide +kernel
theorem dX9_partOf_84 : decode cX9_partOf 84 = .ok (.iinc 5 1, 3) := by decide +kernel
theorem dX9_partOf_87 : decode cX9_partOf 87 = .ok (.goto (-32), 3) := by decide +kernel
theorem dX9_partOf_90 : decode cX9_partOf 90 = .ok (.iload 4, 2) := by decide +kernel
theorem dX9_partOf_92 : decode cX9_partOf 92 = .ok (.ireturn, 1) := by decide +kernel
