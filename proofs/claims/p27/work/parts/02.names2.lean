theorem dX2_tuneIn_16 : decode cX2_tuneIn 16 = .ok (.if_icmp .ne 7, 3) := by decide +kernel
theorem dX2_tuneIn_19 : decode cX2_tuneIn 19 = .ok (.iconst 1, 1) := by decide +kernel
theorem dX2_tuneIn_20 : decode cX2_tuneIn 20 = .ok (.goto 4, 3) := by decide +kernel
theorem dX2_tuneIn_23 : decode cX2_tuneIn 23 = .ok (.iconst 0, 1) := by decide +kernel
theorem dX2_tuneIn_24 : decode cX2_tuneIn 24 = .ok (.istore 5, 2) := by decide +kernel
theorem dX2_tuneIn_26 : decode cX2_tuneIn 26 = .ok (.iload 5, 2) := by decide +kernel
theorem dX2_tuneIn_28 : decode cX2_tuneIn 28 = .ok (.ifCond .eq 20, 3) := by decide +kernel
theorem dX2_tuneIn_31 : decode cX2_tuneIn 31 = .ok (.aload_n 0, 1) := by decide +kernel
theorem dX2_tuneIn_32 : decode cX2_tuneIn 32 = .ok (.getfield 32, 3) := by decide +kernel
theorem dX2_tuneIn_35 : decode cX2_tuneIn 35 = .ok (.iload 4, 2) := by decide +kernel
theorem dX2_tuneIn_37 : decode cX2_tuneIn 37 = .ok (.bipush 8, 2) := by decide +kernel
theorem dX2_tuneIn_39 : decode cX2_tuneIn 39 = .ok (.imul, 1) := by decide +kernel
theorem dX2_tuneIn_40 : decode cX2_tuneIn 40 = .ok (.iload_n 2, 1) := by decide +kernel
theorem dX2_tuneIn_41 : decode cX2_tuneIn 41 = .ok (.iadd, 1) := by decide +kernel
theorem dX2_tuneIn_42 : decode cX2_tuneIn 42 = .ok (.invokevirtual 46, 3) := by decide +kernel
theorem dX2_tuneIn_45 : decode cX2_tuneIn 45 = .ok (.goto 8, 3) := by decide +kernel
theorem dX2_tuneIn_48 : decode cX2_tuneIn 48 = .ok (.aload_n 3, 1) := by decide +kernel
theorem dX2_tuneIn_49 : decode cX2_tuneIn 49 = .ok (.iload_n 2, 1) := by decide +kernel
theorem dX2_tuneIn_50 : decode cX2_tuneIn 50 = .ok (.invokevirtual 46, 3) := by decide +kernel
theorem dX2_tuneIn_53 : decode cX2_tuneIn 53 = .ok (.ireturn, 1) := by decide +kernel
set_option maxRecDepth 20000 in
theorem ggX2_sampleAt_X2_fillIndex : GoodIn wsX2_sampleAt wsX2_fillIndex := goodIn_r _ [6] (by decide +kernel) (by decide +kernel)
set_option maxRecDepth 20000 in
theorem gX2_sampleAt_X2_fillIndex : GoodIn wsX2_sampleAt (va_wsS RX2 43 yX2_fillIndex wsX2_fillIndex) := goodIn_app (goodIn_of _ (by decide +kernel)) ggX2_sampleAt_X2_fillIndex
set_option maxRecDepth 20000 in
theorem ggX2_sampleAt_X3_get : GoodIn wsX2_sampleAt wsX3_get := goodIn_r _ [11, 12, 22] (by decide +kernel) (by decide +kernel)
set_option maxRecDepth 20000 in
theorem gX2_sampleAt_X3_get : GoodIn wsX2_sampleAt (wsV RX2 46 RX3 yX3_get wsX3_get) := goodIn_app (goodIn_of _ (by decide +kernel)) ggX2_sampleAt_X3_get
set_option maxRecDepth 20000 in
theorem ggX2_sampleAt_X2_stepIndex : GoodIn wsX2_sampleAt wsX2_stepIndex := goodIn_r _ [15] (by decide +kernel) (by decide +kernel)
set_option maxRecDepth 20000 in
theorem gX2_sampleAt_X2_stepIndex : GoodIn wsX2_sampleAt (va_wsS RX2 35 yX2_stepIndex wsX2_stepIndex) := goodIn_app (goodIn_of _ (by decide +kernel)) ggX2_sampleAt_X2_stepIndex
theorem dX2_sampleAt_0 : decode cX2_sampleAt 0 = .ok (.iload_n 1, 1) := by decide +kernel
theorem dX2_sampleAt_1 : decode cX2_sampleAt 1 = .ok (.bipush 10, 2) := by decide +kernel
theorem dX2_sampleAt_3 : decode cX2_sampleAt 3 = .ok (.idiv, 1) := by decide +kernel
theorem dX2_sampleAt_4 : decode cX2_sampleAt 4 = .ok (.istore 4, 2) := by decide +kernel
theorem dX2_sampleAt_6 : decode cX2_sampleAt 6 = .ok (.iload_n 1, 1) := by decide +kernel
theorem dX2_sampleAt_7 : decode cX2_sampleAt 7 = .ok (.bipush 10, 2) := by decide +kernel
theorem dX2_sampleAt_9 : decode cX2_sampleAt 9 = .ok (.irem, 1) := by decide +kernel
theorem dX2_sampleAt_10 : decode cX2_sampleAt 10 = .ok (.iconst 1, 1) := by decide +kernel
theorem dX2_sampleAt_11 : decode cX2_sampleAt 11 = .ok (.if_icmp .ne 13, 3) := by decide +kernel
theorem dX2_sampleAt_14 : decode cX2_sampleAt 14 = .ok (.iload_n 3, 1) := by decide +kernel
theorem dX2_sampleAt_15 : decode cX2_sampleAt 15 = .ok (.bipush 12, 2) := by decide +kernel
theorem dX2_sampleAt_17 : decode cX2_sampleAt 17 = .ok (.if_icmp .lt 7, 3) := by decide +kernel
theorem dX2_sampleAt_20 : decode cX2_sampleAt 20 = .ok (.iconst 1, 1) := by decide +kernel
theorem dX2_sampleAt_21 : decode cX2_sampleAt 21 = .ok (.goto 4, 3) := by decide +kernel
theorem dX2_sampleAt_24 : decode cX2_sampleAt 24 = .ok (.iconst 0, 1) := by decide +kernel
theorem dX2_sampleAt_25 : decode cX2_sampleAt 25 = .ok (.istore 5, 2) := by decide +kernel
theorem dX2_sampleAt_27 : decode cX2_sampleAt 27 = .ok (.iload 5, 2) := by decide +kernel
theorem dX2_sampleAt_29 : decode cX2_sampleAt 29 = .ok (.ifCond .eq 20, 3) := by decide +kernel
theorem dX2_sampleAt_32 : decode cX2_sampleAt 32 = .ok (.aload_n 0, 1) := by decide +kernel
theorem dX2_sampleAt_33 : decode cX2_sampleAt 33 = .ok (.getfield 20, 3) := by decide +kernel
theorem dX2_sampleAt_36 : decode cX2_sampleAt 36 = .ok (.iload 4, 2) := by decide +kernel
theorem dX2_sampleAt_38 : decode cX2_sampleAt 38 = .ok (.iload_n 2, 1) := by decide +kernel
theorem dX2_sampleAt_39 : decode cX2_sampleAt 39 = .ok (.iload_n 3, 1) := by decide +kernel
theorem dX2_sampleAt_40 : decode cX2_sampleAt 40 = .ok (.invokestatic 43, 3) := by decide +kernel
theorem dX2_sampleAt_43 : decode cX2_sampleAt 43 = .ok (.invokevirtual 46, 3) := by decide +kernel
theorem dX2_sampleAt_46 : decode cX2_sampleAt 46 = .ok (.goto 17, 3) := by decide +kernel
theorem dX2_sampleAt_49 : decode cX2_sampleAt 49 = .ok (.aload_n 0, 1) := by decide +kernel
theorem dX2_sampleAt_50 : decode cX2_sampleAt 50 = .ok (.getfield 14, 3) := by decide +kernel
theorem dX2_sampleAt_53 : decode cX2_sampleAt 53 = .ok (.iload 4, 2) := by decide +kernel
theorem dX2_sampleAt_55 : decode cX2_sampleAt 55 = .ok (.iload_n 2, 1) := by decide +kernel
theorem dX2_sampleAt_56 : decode cX2_sampleAt 56 = .ok (.iload_n 3, 1) := by decide +kernel
theorem dX2_sampleAt_57 : decode cX2_sampleAt 57 = .ok (.invokestatic 35, 3) := by decide +kernel
theorem dX2_sampleAt_60 : decode cX2_sampleAt 60 = .ok (.invokevirtual 46, 3) := by decide +kernel
theorem dX2_sampleAt_63 : decode cX2_sampleAt 63 = .ok (.ireturn, 1) := by decide +kernel
set_option maxRecDepth 20000 in
theorem ggX2_tickOf_X3_get : GoodIn wsX2_tickOf wsX3_get := goodIn_r _ [6, 7, 14] (by decide +kernel) (by decide +kernel)
set_option maxRecDepth 20000 in
theorem gX2_tickOf_X3_get : GoodIn wsX2_tickOf (wsV RX2 46 RX3 yX3_get wsX3_get) := goodIn_app (goodIn_of _ (by decide +kernel)) ggX2_tickOf_X3_get
theorem dX2_tickOf_0 : decode cX2_tickOf 0 = .ok (.iload_n 2, 1) := by decide +kernel
theorem dX2_tickOf_1 : decode cX2_tickOf 1 = .ok (.iconst 2, 1) := by decide +kernel
theorem dX2_tickOf_2 : decode cX2_tickOf 2 = .ok (.irem, 1) := by decide +kernel
theorem dX2_tickOf_3 : decode cX2_tickOf 3 = .ok (.iconst 1, 1) := by decide +kernel
theorem dX2_tickOf_4 : decode cX2_tickOf 4 = .ok (.if_icmp .ne 17, 3) := by decide +kernel
theorem dX2_tickOf_7 : decode cX2_tickOf 7 = .ok (.aload_n 0, 1) := by decide +kernel
theorem dX2_tickOf_8 : decode cX2_tickOf 8 = .ok (.getfield 23, 3) := by decide +kernel
theorem dX2_tickOf_11 : decode cX2_tickOf 11 = .ok (.iload_n 1, 1) := by decide +kernel
theorem dX2_tickOf_12 : decode cX2_tickOf 12 = .ok (.bipush 10, 2) := by decide +kernel
theorem dX2_tickOf_14 : decode cX2_tickOf 14 = .ok (.idiv, 1) := by decide +kernel
theorem dX2_tickOf_15 : decode cX2_tickOf 15 = .ok (.invokevirtual 46, 3) := by decide +kernel
theorem dX2_tickOf_18 : decode cX2_tickOf 18 = .ok (.goto 4, 3) := by decide +kernel
theorem dX2_tickOf_21 : decode cX2_tickOf 21 = .ok (.iconst 0, 1) := by decide +kernel
theorem dX2_tickOf_22 : decode cX2_tickOf 22 = .ok (.istore_n 3, 1) := by decide +kernel
theorem dX2_tickOf_23 : decode cX2_tickOf 23 = .ok (.iload_n 2, 1) := by decide +kernel
theorem dX2_tickOf_24 : decode cX2_tickOf 24 = .ok (.bipush 12, 2) := by decide +kernel
theorem dX2_tickOf_26 : decode cX2_tickOf 26 = .ok (.imul, 1) := by decide +kernel
theorem dX2_tickOf_27 : decode cX2_tickOf 27 = .ok (.iload_n 3, 1) := by decide +kernel
theorem dX2_tickOf_28 : decode cX2_tickOf 28 = .ok (.iadd, 1) := by decide +kernel
theorem dX2_tickOf_29 : decode cX2_tickOf 29 = .ok (.ireturn, 1) := by decide +kernel
set_option maxRecDepth 20000 in
theorem ggX2_stepAt_X2_tickOf : GoodIn wsX2_stepAt wsX2_tickOf := goodIn_r _ [5, 6, 7, 8, 9, 10, 11, 12, 13, 14, 15, 16, 17, 18, 19] (by decide +kernel) (by decide +kernel)
set_option maxRecDepth 20000 in
theorem gX2_stepAt_X2_tickOf : GoodIn wsX2_stepAt (wsV RX2 50 RX2 yX2_tickOf wsX2_tickOf) := goodIn_app (goodIn_of _ (by decide +kernel)) ggX2_stepAt_X2_tickOf
theorem dX2_stepAt_0 : decode cX2_stepAt 0 = .ok (.iload_n 2, 1) := by decide +kernel
theorem dX2_stepAt_1 : decode cX2_stepAt 1 = .ok (.bipush 12, 2) := by decide +kernel
theorem dX2_stepAt_3 : decode cX2_stepAt 3 = .ok (.idiv, 1) := by decide +kernel
theorem dX2_stepAt_4 : decode cX2_stepAt 4 = .ok (.istore_n 3, 1) := by decide +kernel
theorem dX2_stepAt_5 : decode cX2_stepAt 5 = .ok (.aload_n 0, 1) := by decide +kernel
theorem dX2_stepAt_6 : decode cX2_stepAt 6 = .ok (.iload_n 1, 1) := by decide +kernel
theorem dX2_stepAt_7 : decode cX2_stepAt 7 = .ok (.iload_n 3, 1) := by decide +kernel
theorem dX2_stepAt_8 : decode cX2_stepAt 8 = .ok (.invokevirtual 50, 3) := by decide +kernel
theorem dX2_stepAt_11 : decode cX2_stepAt 11 = .ok (.iload_n 2, 1) := by decide +kernel
theorem dX2_stepAt_12 : decode cX2_stepAt 12 = .ok (.if_icmp .ne 7, 3) := by decide +kernel
theorem dX2_stepAt_15 : decode cX2_stepAt 15 = .ok (.iload_n 3, 1) := by decide +kernel
theorem dX2_stepAt_16 : decode cX2_stepAt 16 = .ok (.goto 4, 3) := by decide +kernel
theorem dX2_stepAt_19 : decode cX2_stepAt 19 = .ok (.iconst (-1), 1) := by decide +kernel
theorem dX2_stepAt_20 : decode cX2_stepAt 20 = .ok (.ireturn, 1) := by decide +kernel
set_option maxRecDepth 20000 in
theorem ggX2_countBySteps_X2_countStep : GoodIn wsX2_countBySteps wsX2_countStep := goodIn_r _ [5, 6, 7, 8, 4, 9, 10, 11, 12, 13, 14, 15, 16, 17, 18, 19, 20, 21, 22, 23, 24, 25, 26, 27, 28, 29, 30] (by decide +kernel) (by decide +kernel)
set_option maxRecDepth 20000 in
theorem gX2_countBySteps_X2_countStep : GoodIn wsX2_countBySteps (wsV RX2 53 RX2 yX2_countStep wsX2_countStep) := goodIn_app (goodIn_of _ (by decide +kernel)) ggX2_countBySteps_X2_countStep
theorem dX2_countBySteps_0 : decode cX2_countBySteps 0 = .ok (.iconst 0, 1) := by decide +kernel
theorem dX2_countBySteps_1 : decode cX2_countBySteps 1 = .ok (.istore_n 2, 1) := by decide +kernel
theorem dX2_countBySteps_2 : decode cX2_countBySteps 2 = .ok (.iconst 0, 1) := by decide +kernel
theorem dX2_countBySteps_3 : decode cX2_countBySteps 3 = .ok (.istore_n 3, 1) := by decide +kernel
theorem dX2_countBySteps_4 : decode cX2_countBySteps 4 = .ok (.iload_n 3, 1) := by decide +kernel
theorem dX2_countBySteps_5 : decode cX2_countBySteps 5 = .ok (.bipush 16, 2) := by decide +kernel
theorem dX2_countBySteps_7 : decode cX2_countBySteps 7 = .ok (.if_icmp .ge 18, 3) := by decide +kernel
theorem dX2_countBySteps_10 : decode cX2_countBySteps 10 = .ok (.iload_n 2, 1) := by decide +kernel
theorem dX2_countBySteps_11 : decode cX2_countBySteps 11 = .ok (.aload_n 0, 1) := by decide +kernel
theorem dX2_countBySteps_12 : decode cX2_countBySteps 12 = .ok (.iload_n 1, 1) := by decide +kernel
theorem dX2_countBySteps_13 : decode cX2_countBySteps 13 = .ok (.iload_n 3, 1) := by decide +kernel
theorem dX2_countBySteps_14 : decode cX2_countBySteps 14 = .ok (.invokevirtual 53, 3) := by decide +kernel
theorem dX2_countBySteps_17 : decode cX2_countBySteps 17 = .ok (.iadd, 1) := by decide +kernel
theorem dX2_countBySteps_18 : decode cX2_countBySteps 18 = .ok (.istore_n 2, 1) := by decide +kernel
theorem dX2_countBySteps_19 : decode cX2_countBySteps 19 = .ok (.iinc 3 1, 3) := by decide +kernel
theorem dX2_countBySteps_22 : decode cX2_countBySteps 22 = .ok (.goto (-18), 3) := by decide +kernel
theorem dX2_countBySteps_25 : decode cX2_countBySteps 25 = .ok (.iload_n 2, 1) := by decide +kernel
theorem dX2_countBySteps_26 : decode cX2_countBySteps 26 = .ok (.ireturn, 1) := by decide +kernel
set_option maxRecDepth 20000 in
theorem ggX2_countByTicks_X2_stepAt : GoodIn wsX2_countByTicks wsX2_stepAt := goodIn_r _ [5, 6, 7, 8, 4, 9, 10, 11, 12, 13, 14, 15, 16, 33, 34, 35, 36, 37, 38, 39] (by decide +kernel) (by decide +kernel)
set_option maxRecDepth 20000 in
theorem gX2_countByTicks_X2_stepAt : GoodIn wsX2_countByTicks (wsV RX2 56 RX2 yX2_stepAt wsX2_stepAt) := goodIn_app (goodIn_of _ (by decide +kernel)) ggX2_countByTicks_X2_stepAt
set_option maxRecDepth 20000 in
theorem ggX2_countByTicks_X2_countStep : GoodIn wsX2_countByTicks wsX2_countStep := goodIn_r _ [20, 21, 22, 23, 4, 24, 25, 26, 27, 28, 29, 11, 12, 13, 14, 15, 16, 30, 31, 32, 33, 34, 35, 36, 37, 38, 39] (by decide +kernel) (by decide +kernel)
set_option maxRecDepth 20000 in
theorem gX2_countByTicks_X2_countStep : GoodIn wsX2_countByTicks (wsV RX2 53 RX2 yX2_countStep wsX2_countStep) := goodIn_app (goodIn_of _ (by decide +kernel)) ggX2_countByTicks_X2_countStep
theorem dX2_countByTicks_0 : decode cX2_countByTicks 0 = .ok (.iconst 0, 1) := by decide +kernel
theorem dX2_countByTicks_1 : decode cX2_countByTicks 1 = .ok (.istore_n 2, 1) := by decide +kernel
theorem dX2_countByTicks_2 : decode cX2_countByTicks 2 = .ok (.iconst 0, 1) := by decide +kernel
theorem dX2_countByTicks_3 : decode cX2_countByTicks 3 = .ok (.istore_n 3, 1) := by decide +kernel
theorem dX2_countByTicks_4 : decode cX2_countByTicks 4 = .ok (.iload_n 3, 1) := by decide +kernel
theorem dX2_countByTicks_5 : decode cX2_countByTicks 5 = .ok (.sipush 192, 3) := by decide +kernel
theorem dX2_countByTicks_8 : decode cX2_countByTicks 8 = .ok (.if_icmp .ge 33, 3) := by decide +kernel
theorem dX2_countByTicks_11 : decode cX2_countByTicks 11 = .ok (.aload_n 0, 1) := by decide +kernel
theorem dX2_countByTicks_12 : decode cX2_countByTicks 12 = .ok (.iload_n 1, 1) := by decide +kernel
theorem dX2_countByTicks_13 : decode cX2_countByTicks 13 = .ok (.iload_n 3, 1) := by decide +kernel
theorem dX2_countByTicks_14 : decode cX2_countByTicks 14 = .ok (.invokevirtual 56, 3) := by decide +kernel
theorem dX2_countByTicks_17 : decode cX2_countByTicks 17 = .ok (.istore 4, 2) := by decide +kernel
theorem dX2_countByTicks_19 : decode cX2_countByTicks 19 = .ok (.iload 4, 2) := by decide +kernel
theorem dX2_countByTicks_21 : decode cX2_countByTicks 21 = .ok (.iconst (-1), 1) := by decide +kernel
theorem dX2_countByTicks_22 : decode cX2_countByTicks 22 = .ok (.if_icmp .eq 13, 3) := by decide +kernel
theorem dX2_countByTicks_25 : decode cX2_countByTicks 25 = .ok (.iload_n 2, 1) := by decide +kernel
theorem dX2_countByTicks_26 : decode cX2_countByTicks 26 = .ok (.aload_n 0, 1) := by decide +kernel
theorem dX2_countByTicks_27 : decode cX2_countByTicks 27 = .ok (.iload_n 1, 1) := by decide +kernel
theorem dX2_countByTicks_28 : decode cX2_countByTicks 28 = .ok (.iload 4, 2) := by decide +kernel
theorem dX2_countByTicks_30 : decode cX2_countByTicks 30 = .ok (.invokevirtual 53, 3) := by decide +kernel
theorem dX2_countByTicks_33 : decode cX2_countByTicks 33 = .ok (.iadd, 1) := by decide +kernel
theorem dX2_countByTicks_34 : decode cX2_countByTicks 34 = .ok (.istore_n 2, 1) := by decide +kernel
theorem dX2_countByTicks_35 : decode cX2_countByTicks 35 = .ok (.iinc 3 1, 3) := by decide +kernel
theorem dX2_countByTicks_38 : decode cX2_countByTicks 38 = .ok (.goto (-34), 3) := by decide +kernel
theorem dX2_countByTicks_41 : decode cX2_countByTicks 41 = .ok (.iload_n 2, 1) := by decide +kernel
theorem dX2_countByTicks_42 : decode cX2_countByTicks 42 = .ok (.ireturn, 1) := by decide +kernel
set_option maxRecDepth 20000 in
theorem ggX2_countStep_X2_sampleAt : GoodIn wsX2_countStep wsX2_sampleAt := goodIn_r _ [5, 6, 7, 8, 9, 4, 10, 11, 12, 13, 14, 15, 16, 17, 18, 19, 20, 21, 22, 23, 24, 25, 26] (by decide +kernel) (by decide +kernel)
set_option maxRecDepth 20000 in
theorem gX2_countStep_X2_sampleAt : GoodIn wsX2_countStep (wsV RX2 59 RX2 yX2_sampleAt wsX2_sampleAt) := goodIn_app (goodIn_of _ (by decide +kernel)) ggX2_countStep_X2_sampleAt
theorem dX2_countStep_0 : decode cX2_countStep 0 = .ok (.iconst 0, 1) := by decide +kernel
theorem dX2_countStep_1 : decode cX2_countStep 1 = .ok (.istore_n 3, 1) := by decide +kernel
theorem dX2_countStep_2 : decode cX2_countStep 2 = .ok (.iconst 0, 1) := by decide +kernel
theorem dX2_countStep_3 : decode cX2_countStep 3 = .ok (.istore 4, 2) := by decide +kernel
theorem dX2_countStep_5 : decode cX2_countStep 5 = .ok (.iload 4, 2) := by decide +kernel
theorem dX2_countStep_7 : decode cX2_countStep 7 = .ok (.iconst 4, 1) := by decide +kernel
theorem dX2_countStep_8 : decode cX2_countStep 8 = .ok (.if_icmp .ge 24, 3) := by decide +kernel
theorem dX2_countStep_11 : decode cX2_countStep 11 = .ok (.aload_n 0, 1) := by decide +kernel
theorem dX2_countStep_12 : decode cX2_countStep 12 = .ok (.iload_n 1, 1) := by decide +kernel
theorem dX2_countStep_13 : decode cX2_countStep 13 = .ok (.iload 4, 2) := by decide +kernel
theorem dX2_countStep_15 : decode cX2_countStep 15 = .ok (.iload_n 2, 1) := by decide +kernel
theorem dX2_countStep_16 : decode cX2_countStep 16 = .ok (.invokevirtual 59, 3) := by decide +kernel
theorem dX2_countStep_19 : decode cX2_countStep 19 = .ok (.iconst (-1), 1) := by decide +kernel
theorem dX2_countStep_20 : decode cX2_countStep 20 = .ok (.if_icmp .eq 6, 3) := by decide +kernel
theorem dX2_countStep_23 : decode cX2_countStep 23 = .ok (.iinc 3 1, 3) := by decide +kernel
theorem dX2_countStep_26 : decode cX2_countStep 26 = .ok (.iinc 4 1, 3) := by decide +kernel
theorem dX2_countStep_29 : decode cX2_countStep 29 = .ok (.goto (-24), 3) := by decide +kernel
theorem dX2_countStep_32 : decode cX2_countStep 32 = .ok (.iload_n 3, 1) := by decide +kernel
theorem dX2_countStep_33 : decode cX2_countStep 33 = .ok (.ireturn, 1) := by decide +kernel
theorem dX2_stepIndex_0 : decode cX2_stepIndex 0 = .ok (.iload_n 0, 1) := by decide +kernel
theorem dX2_stepIndex_1 : decode cX2_stepIndex 1 = .ok (.iconst 4, 1) := by decide +kernel
theorem dX2_stepIndex_2 : decode cX2_stepIndex 2 = .ok (.imul, 1) := by decide +kernel
theorem dX2_stepIndex_3 : decode cX2_stepIndex 3 = .ok (.iload_n 1, 1) := by decide +kernel
theorem dX2_stepIndex_4 : decode cX2_stepIndex 4 = .ok (.iadd, 1) := by decide +kernel
theorem dX2_stepIndex_5 : decode cX2_stepIndex 5 = .ok (.bipush 16, 2) := by decide +kernel
theorem dX2_stepIndex_7 : decode cX2_stepIndex 7 = .ok (.imul, 1) := by decide +kernel
theorem dX2_stepIndex_8 : decode cX2_stepIndex 8 = .ok (.iload_n 2, 1) := by decide +kernel
theorem dX2_stepIndex_9 : decode cX2_stepIndex 9 = .ok (.iadd, 1) := by decide +kernel
theorem dX2_stepIndex_10 : decode cX2_stepIndex 10 = .ok (.ireturn, 1) := by decide +kernel
theorem dX2_fillIndex_0 : decode cX2_fillIndex 0 = .ok (.iload_n 0, 1) := by decide +kernel
theorem dX2_fillIndex_1 : decode cX2_fillIndex 1 = .ok (.iconst 4, 1) := by decide +kernel
theorem dX2_fillIndex_2 : decode cX2_fillIndex 2 = .ok (.imul, 1) := by decide +kernel
theorem dX2_fillIndex_3 : decode cX2_fillIndex 3 = .ok (.iload_n 1, 1) := by decide +kernel
theorem dX2_fillIndex_4 : decode cX2_fillIndex 4 = .ok (.iadd, 1) := by decide +kernel
theorem dX2_fillIndex_5 : decode cX2_fillIndex 5 = .ok (.iconst 4, 1) := by decide +kernel
theorem dX2_fillIndex_6 : decode cX2_fillIndex 6 = .ok (.imul, 1) := by decide +kernel
theorem dX2_fillIndex_7 : decode cX2_fillIndex 7 = .ok (.iload_n 2, 1) := by decide +kernel
theorem dX2_fillIndex_8 : decode cX2_fillIndex 8 = .ok (.iadd, 1) := by decide +kernel
theorem dX2_fillIndex_9 : decode cX2_fillIndex 9 = .ok (.bipush 12, 2) := by decide +kernel
theorem dX2_fillIndex_11 : decode cX2_fillIndex 11 = .ok (.isub, 1) := by decide +kernel
theorem dX2_fillIndex_12 : decode cX2_fillIndex 12 = .ok (.ireturn, 1) := by decide +kernel
set_option maxRecDepth 20000 in
theorem ggX3_init_J7_fill_53178 : GoodIn wsX3_init wsJ7_fill_53178 := goodIn_r _ [13] (by decide +kernel) (by decide +kernel)
set_option maxRecDepth 20000 in
theorem gX3_init_J7_fill_53178 : GoodIn wsX3_init (va_wsS RX3 21 yJ7_fill_53178 wsJ7_fill_53178) := goodIn_app (goodIn_of _ (by decide +kernel)) ggX3_init_J7_fill_53178
theorem dX3_init_0 : decode cX3_init 0 = .ok (.aload_n 0, 1) := by decide +kernel
theorem dX3_init_1 : decode cX3_init 1 = .ok (.invokespecial 3, 3) := by decide +kernel
theorem dX3_init_4 : decode cX3_init 4 = .ok (.aload_n 0, 1) := by decide +kernel
theorem dX3_init_5 : decode cX3_init 5 = .ok (.iload_n 1, 1) := by decide +kernel
theorem dX3_init_6 : decode cX3_init 6 = .ok (.iconst 0, 1) := by decide +kernel
theorem dX3_init_7 : decode cX3_init 7 = .ok (.invokestatic 9, 3) := by decide +kernel
theorem dX3_init_10 : decode cX3_init 10 = .ok (.newarray .int, 2) := by decide +kernel
theorem dX3_init_12 : decode cX3_init 12 = .ok (.putfield 15, 3) := by decide +kernel
theorem dX3_init_15 : decode cX3_init 15 = .ok (.aload_n 0, 1) := by decide +kernel
theorem dX3_init_16 : decode cX3_init 16 = .ok (.getfield 15, 3) := by decide +kernel
theorem dX3_init_19 : decode cX3_init 19 = .ok (.iload_n 2, 1) := by decide +kernel
theorem dX3_init_20 : decode cX3_init 20 = .ok (.invokestatic 21, 3) := by decide +kernel
theorem dX3_init_23 : decode cX3_init 23 = .ok (.return_, 1) := by decide +kernel
theorem dX3_get_0 : decode cX3_get 0 = .ok (.iload_n 1, 1) := by decide +kernel
theorem dX3_get_1 : decode cX3_get 1 = .ok (.ifCond .lt 21, 3) := by decide +kernel
theorem dX3_get_4 : decode cX3_get 4 = .ok (.iload_n 1, 1) := by decide +kernel
theorem dX3_get_5 : decode cX3_get 5 = .ok (.aload_n 0, 1) := by decide +kernel
theorem dX3_get_6 : decode cX3_get 6 = .ok (.getfield 15, 3) := by decide +kernel
theorem dX3_get_9 : decode cX3_get 9 = .ok (.arraylength, 1) := by decide +kernel
theorem dX3_get_10 : decode cX3_get 10 = .ok (.if_icmp .ge 12, 3) := by decide +kernel
theorem dX3_get_13 : decode cX3_get 13 = .ok (.aload_n 0, 1) := by decide +kernel
theorem dX3_get_14 : decode cX3_get 14 = .ok (.getfield 15, 3) := by decide +kernel
theorem dX3_get_17 : decode cX3_get 17 = .ok (.iload_n 1, 1) := by decide +kernel
theorem dX3_get_18 : decode cX3_get 18 = .ok (.iaload, 1) := by decide +kernel
theorem dX3_get_19 : decode cX3_get 19 = .ok (.goto 4, 3) := by decide +kernel
theorem dX3_get_22 : decode cX3_get 22 = .ok (.iconst (-1), 1) := by decide +kernel
theorem dX3_get_23 : decode cX3_get 23 = .ok (.ireturn, 1) := by decide +kernel
theorem dX3_replace_0 : decode cX3_replace 0 = .ok (.iload_n 1, 1) := by decide +kernel
theorem dX3_replace_1 : decode cX3_replace 1 = .ok (.ifCond .lt 12, 3) := by decide +kernel
theorem dX3_replace_4 : decode cX3_replace 4 = .ok (.iload_n 1, 1) := by decide +kernel
theorem dX3_replace_5 : decode cX3_replace 5 = .ok (.aload_n 0, 1) := by decide +kernel
theorem dX3_replace_6 : decode cX3_replace 6 = .ok (.getfield 15, 3) := by decide +kernel
theorem dX3_replace_9 : decode cX3_replace 9 = .ok (.arraylength, 1) := by decide +kernel
theorem dX3_replace_10 : decode cX3_replace 10 = .ok (.if_icmp .lt 5, 3) := by decide +kernel
theorem dX3_replace_13 : decode cX3_replace 13 = .ok (.iconst (-1), 1) := by decide +kernel
theorem dX3_replace_14 : decode cX3_replace 14 = .ok (.ireturn, 1) := by decide +kernel
theorem dX3_replace_15 : decode cX3_replace 15 = .ok (.aload_n 0, 1) := by decide +kernel
theorem dX3_replace_16 : decode cX3_replace 16 = .ok (.getfield 15, 3) := by decide +kernel
theorem dX3_replace_19 : decode cX3_replace 19 = .ok (.iload_n 1, 1) := by decide +kernel
theorem dX3_replace_20 : decode cX3_replace 20 = .ok (.iaload, 1) := by decide +kernel
theorem dX3_replace_21 : decode cX3_replace 21 = .ok (.istore_n 3, 1) := by decide +kernel
theorem dX3_replace_22 : decode cX3_replace 22 = .ok (.aload_n 0, 1) := by decide +kernel
theorem dX3_replace_23 : decode cX3_replace 23 = .ok (.getfield 15, 3) := by decide +kernel
theorem dX3_replace_26 : decode cX3_replace 26 = .ok (.iload_n 1, 1) := by decide +kernel
theorem dX3_replace_27 : decode cX3_replace 27 = .ok (.iload_n 2, 1) := by decide +kernel
theorem dX3_replace_28 : decode cX3_replace 28 = .ok (.iastore, 1) := by decide +kernel
theorem dX3_replace_29 : decode cX3_replace 29 = .ok (.iload_n 3, 1) := by decide +kernel
theorem dX3_replace_30 : decode cX3_replace 30 = .ok (.ireturn, 1) := by decide +kernel
set_option maxRecDepth 20000 in
theorem ggX3_setAll_J7_fill_53178 : GoodIn wsX3_setAll wsJ7_fill_53178 := goodIn_r _ [5] (by decide +kernel) (by decide +kernel)
set_option maxRecDepth 20000 in
theorem gX3_setAll_J7_fill_53178 : GoodIn wsX3_setAll (va_wsS RX3 21 yJ7_fill_53178 wsJ7_fill_53178) := goodIn_app (goodIn_of _ (by decide +kernel)) ggX3_setAll_J7_fill_53178
theorem dX3_setAll_0 : decode cX3_setAll 0 = .ok (.aload_n 0, 1) := by decide +kernel
theorem dX3_setAll_1 : decode cX3_setAll 1 = .ok (.getfield 15, 3) := by decide +kernel
theorem dX3_setAll_4 : decode cX3_setAll 4 = .ok (.iload_n 1, 1) := by decide +kernel
theorem dX3_setAll_5 : decode cX3_setAll 5 = .ok (.invokestatic 21, 3) := by decide +kernel
theorem dX3_setAll_8 : decode cX3_setAll 8 = .ok (.return_, 1) := by decide +kernel
set_option maxRecDepth 20000 in
theorem ggX4_init_X3_init : GoodIn wsX4_init wsX3_init := goodIn_r _ [16, 17, 2, 3, 18, 19, 20, 21, 22, 23, 24, 25, 26, 27, 28] (by decide +kernel) (by decide +kernel)
set_option maxRecDepth 20000 in
theorem gX4_init_X3_init : GoodIn wsX4_init (wsX3_init) := ggX4_init_X3_init
theorem dX4_init_0 : decode cX4_init 0 = .ok (.aload_n 0, 1) := by decide +kernel
theorem dX4_init_1 : decode cX4_init 1 = .ok (.invokespecial 3, 3) := by decide +kernel
theorem dX4_init_4 : decode cX4_init 4 = .ok (.aload_n 0, 1) := by decide +kernel
theorem dX4_init_5 : decode cX4_init 5 = .ok (.new 9, 3) := by decide +kernel
theorem dX4_init_8 : decode cX4_init 8 = .ok (.dup, 1) := by decide +kernel
theorem dX4_init_9 : decode cX4_init 9 = .ok (.bipush 8, 2) := by decide +kernel
theorem dX4_init_11 : decode cX4_init 11 = .ok (.iconst (-1), 1) := by decide +kernel
theorem dX4_init_12 : decode cX4_init 12 = .ok (.invokespecial 11, 3) := by decide +kernel
theorem dX4_init_15 : decode cX4_init 15 = .ok (.putfield 14, 3) := by decide +kernel
theorem dX4_init_18 : decode cX4_init 18 = .ok (.aload_n 0, 1) := by decide +kernel
theorem dX4_init_19 : decode cX4_init 19 = .ok (.iconst 0, 1) := by decide +kernel
theorem dX4_init_20 : decode cX4_init 20 = .ok (.putfield 20, 3) := by decide +kernel
theorem dX4_init_23 : decode cX4_init 23 = .ok (.aload_n 0, 1) := by decide +kernel
theorem dX4_init_24 : decode cX4_init 24 = .ok (.iconst 0, 1) := by decide +kernel
theorem dX4_init_25 : decode cX4_init 25 = .ok (.putfield 24, 3) := by decide +kernel
theorem dX4_init_28 : decode cX4_init 28 = .ok (.aload_n 0, 1) := by decide +kernel
theorem dX4_init_29 : decode cX4_init 29 = .ok (.iconst 0, 1) := by decide +kernel
theorem dX4_init_30 : decode cX4_init 30 = .ok (.putfield 28, 3) := by decide +kernel
theorem dX4_init_33 : decode cX4_init 33 = .ok (.aload_n 0, 1) := by decide +kernel
theorem dX4_init_34 : decode cX4_init 34 = .ok (.iconst 0, 1) := by decide +kernel
theorem dX4_init_35 : decode cX4_init 35 = .ok (.putfield 31, 3) := by decide +kernel
theorem dX4_init_38 : decode cX4_init 38 = .ok (.aload_n 0, 1) := by decide +kernel
theorem dX4_init_39 : decode cX4_init 39 = .ok (.iconst 0, 1) := by decide +kernel
theorem dX4_init_40 : decode cX4_init 40 = .ok (.putfield 34, 3) := by decide +kernel
theorem dX4_init_43 : decode cX4_init 43 = .ok (.aload_n 0, 1) := by decide +kernel
theorem dX4_init_44 : decode cX4_init 44 = .ok (.aload_n 1, 1) := by decide +kernel
theorem dX4_init_45 : decode cX4_init 45 = .ok (.putfield 37, 3) := by decide +kernel
theorem dX4_init_48 : decode cX4_init 48 = .ok (.return_, 1) := by decide +kernel
theorem dX4_isFull_0 : decode cX4_isFull 0 = .ok (.aload_n 0, 1) := by decide +kernel
theorem dX4_isFull_1 : decode cX4_isFull 1 = .ok (.getfield 20, 3) := by decide +kernel
theorem dX4_isFull_4 : decode cX4_isFull 4 = .ok (.bipush 8, 2) := by decide +kernel
theorem dX4_isFull_6 : decode cX4_isFull 6 = .ok (.if_icmp .lt 7, 3) := by decide +kernel
theorem dX4_isFull_9 : decode cX4_isFull 9 = .ok (.iconst 1, 1) := by decide +kernel
theorem dX4_isFull_10 : decode cX4_isFull 10 = .ok (.goto 4, 3) := by decide +kernel
theorem dX4_isFull_13 : decode cX4_isFull 13 = .ok (.iconst 0, 1) := by decide +kernel
theorem dX4_isFull_14 : decode cX4_isFull 14 = .ok (.ireturn, 1) := by decide +kernel
set_option maxRecDepth 20000 in
theorem ggX4_append_X3_replace : GoodIn wsX4_append wsX3_replace := goodIn_r _ [7, 8, 16] (by decide +kernel) (by decide +kernel)
set_option maxRecDepth 20000 in
theorem gX4_append_X3_replace : GoodIn wsX4_append (wsV RX4 41 RX3 yX3_replace wsX3_replace) := goodIn_app (goodIn_of _ (by decide +kernel)) ggX4_append_X3_replace
theorem dX4_append_0 : decode cX4_append 0 = .ok (.aload_n 0, 1) := by decide +kernel
theorem dX4_append_1 : decode cX4_append 1 = .ok (.getfield 14, 3) := by decide +kernel
theorem dX4_append_4 : decode cX4_append 4 = .ok (.aload_n 0, 1) := by decide +kernel
theorem dX4_append_5 : decode cX4_append 5 = .ok (.getfield 20, 3) := by decide +kernel
theorem dX4_append_8 : decode cX4_append 8 = .ok (.iload_n 1, 1) := by decide +kernel
theorem dX4_append_9 : decode cX4_append 9 = .ok (.invokevirtual 41, 3) := by decide +kernel
theorem dX4_append_12 : decode cX4_append 12 = .ok (.pop, 1) := by decide +kernel
theorem dX4_append_13 : decode cX4_append 13 = .ok (.aload_n 0, 1) := by decide +kernel
theorem dX4_append_14 : decode cX4_append 14 = .ok (.dup, 1) := by decide +kernel
theorem dX4_append_15 : decode cX4_append 15 = .ok (.getfield 20, 3) := by decide +kernel
theorem dX4_append_18 : decode cX4_append 18 = .ok (.iconst 1, 1) := by decide +kernel
theorem dX4_append_19 : decode cX4_append 19 = .ok (.iadd, 1) := by decide +kernel
theorem dX4_append_20 : decode cX4_append 20 = .ok (.putfield 20, 3) := by decide +kernel
theorem dX4_append_23 : decode cX4_append 23 = .ok (.aload_n 0, 1) := by decide +kernel
theorem dX4_append_24 : decode cX4_append 24 = .ok (.getfield 20, 3) := by decide +kernel
theorem dX4_append_27 : decode cX4_append 27 = .ok (.ireturn, 1) := by decide +kernel
theorem dX4_removeAll_0 : decode cX4_removeAll 0 = .ok (.aload_n 0, 1) := by decide +kernel
theorem dX4_removeAll_1 : decode cX4_removeAll 1 = .ok (.getfield 20, 3) := by decide +kernel
theorem dX4_removeAll_4 : decode cX4_removeAll 4 = .ok (.istore_n 1, 1) := by decide +kernel
theorem dX4_removeAll_5 : decode cX4_removeAll 5 = .ok (.aload_n 0, 1) := by decide +kernel
theorem dX4_removeAll_6 : decode cX4_removeAll 6 = .ok (.iconst 0, 1) := by decide +kernel
theorem dX4_removeAll_7 : decode cX4_removeAll 7 = .ok (.putfield 20, 3) := by decide +kernel
theorem dX4_removeAll_10 : decode cX4_removeAll 10 = .ok (.iload_n 1, 1) := by decide +kernel
theorem dX4_removeAll_11 : decode cX4_removeAll 11 = .ok (.ireturn, 1) := by decide +kernel
set_option maxRecDepth 20000 in
theorem ggX4_canBegin_X4_barsAt : GoodIn wsX4_canBegin wsX4_barsAt := goodIn_r _ [6, 7, 8, 9, 10, 11, 12, 13, 14, 15, 16, 17, 18, 19, 20, 21, 22, 23, 24, 25, 26, 27, 28, 29, 30, 31, 32, 33, 34, 35, 36, 37, 38, 39, 40] (by decide +kernel) (by decide +kernel)
set_option maxRecDepth 20000 in
theorem gX4_canBegin_X4_barsAt : GoodIn wsX4_canBegin (wsV RX4 45 RX4 yX4_barsAt wsX4_barsAt) := goodIn_app (goodIn_of _ (by decide +kernel)) ggX4_canBegin_X4_barsAt
theorem dX4_canBegin_0 : decode cX4_canBegin 0 = .ok (.iconst 0, 1) := by decide +kernel
theorem dX4_canBegin_1 : decode cX4_canBegin 1 = .ok (.istore_n 1, 1) := by decide +kernel
theorem dX4_canBegin_2 : decode cX4_canBegin 2 = .ok (.iload_n 1, 1) := by decide +kernel
theorem dX4_canBegin_3 : decode cX4_canBegin 3 = .ok (.aload_n 0, 1) := by decide +kernel
theorem dX4_canBegin_4 : decode cX4_canBegin 4 = .ok (.getfield 20, 3) := by decide +kernel
theorem dX4_canBegin_7 : decode cX4_canBegin 7 = .ok (.if_icmp .ge 19, 3) := by decide +kernel
theorem dX4_canBegin_10 : decode cX4_canBegin 10 = .ok (.aload_n 0, 1) := by decide +kernel
theorem dX4_canBegin_11 : decode cX4_canBegin 11 = .ok (.iload_n 1, 1) := by decide +kernel
theorem dX4_canBegin_12 : decode cX4_canBegin 12 = .ok (.invokevirtual 45, 3) := by decide +kernel
theorem dX4_canBegin_15 : decode cX4_canBegin 15 = .ok (.ifCond .ne 5, 3) := by decide +kernel
theorem dX4_canBegin_18 : decode cX4_canBegin 18 = .ok (.iconst 0, 1) := by decide +kernel
theorem dX4_canBegin_19 : decode cX4_canBegin 19 = .ok (.ireturn, 1) := by decide +kernel
theorem dX4_canBegin_20 : decode cX4_canBegin 20 = .ok (.iinc 1 1, 3) := by decide +kernel
theorem dX4_canBegin_23 : decode cX4_canBegin 23 = .ok (.goto (-21), 3) := by decide +kernel
theorem dX4_canBegin_26 : decode cX4_canBegin 26 = .ok (.aload_n 0, 1) := by decide +kernel
theorem dX4_canBegin_27 : decode cX4_canBegin 27 = .ok (.getfield 20, 3) := by decide +kernel
theorem dX4_canBegin_30 : decode cX4_canBegin 30 = .ok (.ifCond .le 7, 3) := by decide +kernel
theorem dX4_canBegin_33 : decode cX4_canBegin 33 = .ok (.iconst 1, 1) := by decide +kernel
theorem dX4_canBegin_34 : decode cX4_canBegin 34 = .ok (.goto 4, 3) := by decide +kernel
theorem dX4_canBegin_37 : decode cX4_canBegin 37 = .ok (.iconst 0, 1) := by decide +kernel
theorem dX4_canBegin_38 : decode cX4_canBegin 38 = .ok (.ireturn, 1) := by decide +kernel
set_option maxRecDepth 20000 in
theorem ggX4_countBars_X4_barsAt : GoodIn wsX4_countBars wsX4_barsAt := goodIn_r _ [6, 7, 8, 9, 10, 11, 12, 13, 14, 15, 16, 17, 18, 19, 20, 21, 22, 23, 24, 25, 26, 27, 28, 29, 30, 31, 32, 33, 34, 35, 36, 37, 38, 39, 40] (by decide +kernel) (by decide +kernel)
set_option maxRecDepth 20000 in
theorem gX4_countBars_X4_barsAt : GoodIn wsX4_countBars (wsV RX4 45 RX4 yX4_barsAt wsX4_barsAt) := goodIn_app (goodIn_of _ (by decide +kernel)) ggX4_countBars_X4_barsAt
theorem dX4_countBars_0 : decode cX4_countBars 0 = .ok (.iconst 0, 1) := by decide +kernel
theorem dX4_countBars_1 : decode cX4_countBars 1 = .ok (.istore_n 1, 1) := by decide +kernel
theorem dX4_countBars_2 : decode cX4_countBars 2 = .ok (.iconst 0, 1) := by decide +kernel
theorem dX4_countBars_3 : decode cX4_countBars 3 = .ok (.istore_n 2, 1) := by decide +kernel
theorem dX4_countBars_4 : decode cX4_countBars 4 = .ok (.iload_n 2, 1) := by decide +kernel
theorem dX4_countBars_5 : decode cX4_countBars 5 = .ok (.aload_n 0, 1) := by decide +kernel
theorem dX4_countBars_6 : decode cX4_countBars 6 = .ok (.getfield 20, 3) := by decide +kernel
theorem dX4_countBars_9 : decode cX4_countBars 9 = .ok (.if_icmp .ge 17, 3) := by decide +kernel
theorem dX4_countBars_12 : decode cX4_countBars 12 = .ok (.iload_n 1, 1) := by decide +kernel
theorem dX4_countBars_13 : decode cX4_countBars 13 = .ok (.aload_n 0, 1) := by decide +kernel
theorem dX4_countBars_14 : decode cX4_countBars 14 = .ok (.iload_n 2, 1) := by decide +kernel
theorem dX4_countBars_15 : decode cX4_countBars 15 = .ok (.invokevirtual 45, 3) := by decide +kernel
theorem dX4_countBars_18 : decode cX4_countBars 18 = .ok (.iadd, 1) := by decide +kernel
theorem dX4_countBars_19 : decode cX4_countBars 19 = .ok (.istore_n 1, 1) := by decide +kernel
theorem dX4_countBars_20 : decode cX4_countBars 20 = .ok (.iinc 2 1, 3) := by decide +kernel
theorem dX4_countBars_23 : decode cX4_countBars 23 = .ok (.goto (-19), 3) := by decide +kernel
theorem dX4_countBars_26 : decode cX4_countBars 26 = .ok (.iload_n 1, 1) := by decide +kernel
theorem dX4_countBars_27 : decode cX4_countBars 27 = .ok (.ireturn, 1) := by decide +kernel
theorem dX4_isPlayed_0 : decode cX4_isPlayed 0 = .ok (.aload_n 0, 1) := by decide +kernel
theorem dX4_isPlayed_1 : decode cX4_isPlayed 1 = .ok (.getfield 24, 3) := by decide +kernel
theorem dX4_isPlayed_4 : decode cX4_isPlayed 4 = .ok (.ireturn, 1) := by decide +kernel
theorem dX4_begin_0 : decode cX4_begin 0 = .ok (.aload_n 0, 1) := by decide +kernel
theorem dX4_begin_1 : decode cX4_begin 1 = .ok (.iconst 1, 1) := by decide +kernel
theorem dX4_begin_2 : decode cX4_begin 2 = .ok (.putfield 24, 3) := by decide +kernel
theorem dX4_begin_5 : decode cX4_begin 5 = .ok (.aload_n 0, 1) := by decide +kernel
theorem dX4_begin_6 : decode cX4_begin 6 = .ok (.iconst 0, 1) := by decide +kernel
theorem dX4_begin_7 : decode cX4_begin 7 = .ok (.putfield 28, 3) := by decide +kernel
theorem dX4_begin_10 : decode cX4_begin 10 = .ok (.aload_n 0, 1) := by decide +kernel
theorem dX4_begin_11 : decode cX4_begin 11 = .ok (.iconst 0, 1) := by decide +kernel
theorem dX4_begin_12 : decode cX4_begin 12 = .ok (.putfield 31, 3) := by decide +kernel
theorem dX4_begin_15 : decode cX4_begin 15 = .ok (.aload_n 0, 1) := by decide +kernel
theorem dX4_begin_16 : decode cX4_begin 16 = .ok (.iconst 0, 1) := by decide +kernel
theorem dX4_begin_17 : decode cX4_begin 17 = .ok (.putfield 34, 3) := by decide +kernel
theorem dX4_begin_20 : decode cX4_begin 20 = .ok (.return_, 1) := by decide +kernel
set_option maxRecDepth 20000 in
theorem ggX4_goToNextTick_X4_barsAt : GoodIn wsX4_goToNextTick wsX4_barsAt := goodIn_r _ [8, 9, 10, 11, 12, 13, 14, 15, 16, 17, 18, 19, 20, 21, 22, 23, 30, 31, 32, 33, 34, 35, 36, 37, 38, 39, 40, 41, 42, 43, 44, 45, 46, 47, 48] (by decide +kernel) (by decide +kernel)
set_option maxRecDepth 20000 in
theorem gX4_goToNextTick_X4_barsAt : GoodIn wsX4_goToNextTick (wsV RX4 45 RX4 yX4_barsAt wsX4_barsAt) := goodIn_app (goodIn_of _ (by decide +kernel)) ggX4_goToNextTick_X4_barsAt
set_option maxRecDepth 20000 in
theorem ggX4_goToNextTick_X4_goToNextSong : GoodIn wsX4_goToNextTick wsX4_goToNextSong := goodIn_r _ [27, 3, 2, 1, 28, 29, 30, 31, 32, 33, 34, 35, 36] (by decide +kernel) (by decide +kernel)
set_option maxRecDepth 20000 in
theorem gX4_goToNextTick_X4_goToNextSong : GoodIn wsX4_goToNextTick (wsV RX4 49 RX4 yX4_goToNextSong wsX4_goToNextSong) := goodIn_app (goodIn_of _ (by decide +kernel)) ggX4_goToNextTick_X4_goToNextSong
theorem dX4_goToNextTick_0 : decode cX4_goToNextTick 0 = .ok (.aload_n 0, 1) := by decide +kernel
theorem dX4_goToNextTick_1 : decode cX4_goToNextTick 1 = .ok (.dup, 1) := by decide +kernel
theorem dX4_goToNextTick_2 : decode cX4_goToNextTick 2 = .ok (.getfield 34, 3) := by decide +kernel
theorem dX4_goToNextTick_5 : decode cX4_goToNextTick 5 = .ok (.iconst 1, 1) := by decide +kernel
theorem dX4_goToNextTick_6 : decode cX4_goToNextTick 6 = .ok (.iadd, 1) := by decide +kernel
theorem dX4_goToNextTick_7 : decode cX4_goToNextTick 7 = .ok (.putfield 34, 3) := by decide +kernel
theorem dX4_goToNextTick_10 : decode cX4_goToNextTick 10 = .ok (.aload_n 0, 1) := by decide +kernel
theorem dX4_goToNextTick_11 : decode cX4_goToNextTick 11 = .ok (.getfield 34, 3) := by decide +kernel
theorem dX4_goToNextTick_14 : decode cX4_goToNextTick 14 = .ok (.sipush 192, 3) := by decide +kernel
theorem dX4_goToNextTick_17 : decode cX4_goToNextTick 17 = .ok (.if_icmp .ge 4, 3) := by decide +kernel
theorem dX4_goToNextTick_20 : decode cX4_goToNextTick 20 = .ok (.return_, 1) := by decide +kernel
theorem dX4_goToNextTick_21 : decode cX4_goToNextTick 21 = .ok (.aload_n 0, 1) := by decide +kernel
theorem dX4_goToNextTick_22 : decode cX4_goToNextTick 22 = .ok (.iconst 0, 1) := by decide +kernel
theorem dX4_goToNextTick_23 : decode cX4_goToNextTick 23 = .ok (.putfield 34, 3) := by decide +kernel
theorem dX4_goToNextTick_26 : decode cX4_goToNextTick 26 = .ok (.aload_n 0, 1) := by decide +kernel
theorem dX4_goToNextTick_27 : decode cX4_goToNextTick 27 = .ok (.dup, 1) := by decide +kernel
theorem dX4_goToNextTick_28 : decode cX4_goToNextTick 28 = .ok (.getfield 31, 3) := by decide +kernel
theorem dX4_goToNextTick_31 : decode cX4_goToNextTick 31 = .ok (.iconst 1, 1) := by decide +kernel
theorem dX4_goToNextTick_32 : decode cX4_goToNextTick 32 = .ok (.iadd, 1) := by decide +kernel
theorem dX4_goToNextTick_33 : decode cX4_goToNextTick 33 = .ok (.putfield 31, 3) := by decide +kernel
theorem dX4_goToNextTick_36 : decode cX4_goToNextTick 36 = .ok (.aload_n 0, 1) := by decide +kernel
theorem dX4_goToNextTick_37 : decode cX4_goToNextTick 37 = .ok (.getfield 31, 3) := by decide +kernel
theorem dX4_goToNextTick_40 : decode cX4_goToNextTick 40 = .ok (.aload_n 0, 1) := by decide +kernel
theorem dX4_goToNextTick_41 : decode cX4_goToNextTick 41 = .ok (.aload_n 0, 1) := by decide +kernel
theorem dX4_goToNextTick_42 : decode cX4_goToNextTick 42 = .ok (.getfield 28, 3) := by decide +kernel
theorem dX4_goToNextTick_45 : decode cX4_goToNextTick 45 = .ok (.invokevirtual 45, 3) := by decide +kernel
theorem dX4_goToNextTick_48 : decode cX4_goToNextTick 48 = .ok (.if_icmp .lt 7, 3) := by decide +kernel
theorem dX4_goToNextTick_51 : decode cX4_goToNextTick 51 = .ok (.aload_n 0, 1) := by decide +kernel
theorem dX4_goToNextTick_52 : decode cX4_goToNextTick 52 = .ok (.invokevirtual 49, 3) := by decide +kernel
theorem dX4_goToNextTick_55 : decode cX4_goToNextTick 55 = .ok (.return_, 1) := by decide +kernel
theorem dX4_goToNextSong_0 : decode cX4_goToNextSong 0 = .ok (.aload_n 0, 1) := by decide +kernel
theorem dX4_goToNextSong_1 : decode cX4_goToNextSong 1 = .ok (.dup, 1) := by decide +kernel
theorem dX4_goToNextSong_2 : decode cX4_goToNextSong 2 = .ok (.getfield 28, 3) := by decide +kernel
theorem dX4_goToNextSong_5 : decode cX4_goToNextSong 5 = .ok (.iconst 1, 1) := by decide +kernel
theorem dX4_goToNextSong_6 : decode cX4_goToNextSong 6 = .ok (.iadd, 1) := by decide +kernel
theorem dX4_goToNextSong_7 : decode cX4_goToNextSong 7 = .ok (.putfield 28, 3) := by decide +kernel
theorem dX4_goToNextSong_10 : decode cX4_goToNextSong 10 = .ok (.aload_n 0, 1) := by decide +kernel
theorem dX4_goToNextSong_11 : decode cX4_goToNextSong 11 = .ok (.iconst 0, 1) := by decide +kernel
theorem dX4_goToNextSong_12 : decode cX4_goToNextSong 12 = .ok (.putfield 31, 3) := by decide +kernel
theorem dX4_goToNextSong_15 : decode cX4_goToNextSong 15 = .ok (.aload_n 0, 1) := by decide +kernel
theorem dX4_goToNextSong_16 : decode cX4_goToNextSong 16 = .ok (.iconst 0, 1) := by decide +kernel
theorem dX4_goToNextSong_17 : decode cX4_goToNextSong 17 = .ok (.putfield 34, 3) := by decide +kernel
theorem dX4_goToNextSong_20 : decode cX4_goToNextSong 20 = .ok (.aload_n 0, 1) := by decide +kernel
theorem dX4_goToNextSong_21 : decode cX4_goToNextSong 21 = .ok (.aload_n 0, 1) := by decide +kernel
theorem dX4_goToNextSong_22 : decode cX4_goToNextSong 22 = .ok (.getfield 28, 3) := by decide +kernel
theorem dX4_goToNextSong_25 : decode cX4_goToNextSong 25 = .ok (.aload_n 0, 1) := by decide +kernel
theorem dX4_goToNextSong_26 : decode cX4_goToNextSong 26 = .ok (.getfield 20, 3) := by decide +kernel
theorem dX4_goToNextSong_29 : decode cX4_goToNextSong 29 = .ok (.if_icmp .ge 7, 3) := by decide +kernel
theorem dX4_goToNextSong_32 : decode cX4_goToNextSong 32 = .ok (.iconst 1, 1) := by decide +kernel
theorem dX4_goToNextSong_33 : decode cX4_goToNextSong 33 = .ok (.goto 4, 3) := by decide +kernel
theorem dX4_goToNextSong_36 : decode cX4_goToNextSong 36 = .ok (.iconst 0, 1) := by decide +kernel
theorem dX4_goToNextSong_37 : decode cX4_goToNextSong 37 = .ok (.putfield 24, 3) := by decide +kernel
theorem dX4_goToNextSong_40 : decode cX4_goToNextSong 40 = .ok (.return_, 1) := by decide +kernel
theorem dX4_dueTick_0 : decode cX4_dueTick 0 = .ok (.aload_n 0, 1) := by decide +kernel
theorem dX4_dueTick_1 : decode cX4_dueTick 1 = .ok (.getfield 34, 3) := by decide +kernel
theorem dX4_dueTick_4 : decode cX4_dueTick 4 = .ok (.ireturn, 1) := by decide +kernel
theorem dX4_duePlace_0 : decode cX4_duePlace 0 = .ok (.aload_n 0, 1) := by decide +kernel
theorem dX4_duePlace_1 : decode cX4_duePlace 1 = .ok (.getfield 28, 3) := by decide +kernel
theorem dX4_duePlace_4 : decode cX4_duePlace 4 = .ok (.ireturn, 1) := by decide +kernel
theorem dX4_dueNumber_0 : decode cX4_dueNumber 0 = .ok (.ldc 52, 2) := by decide +kernel
theorem dX4_dueNumber_2 : decode cX4_dueNumber 2 = .ok (.aload_n 0, 1) := by decide +kernel
theorem dX4_dueNumber_3 : decode cX4_dueNumber 3 = .ok (.getfield 28, 3) := by decide +kernel
theorem dX4_dueNumber_6 : decode cX4_dueNumber 6 = .ok (.imul, 1) := by decide +kernel
theorem dX4_dueNumber_7 : decode cX4_dueNumber 7 = .ok (.sipush 1000, 3) := by decide +kernel
theorem dX4_dueNumber_10 : decode cX4_dueNumber 10 = .ok (.aload_n 0, 1) := by decide +kernel
theorem dX4_dueNumber_11 : decode cX4_dueNumber 11 = .ok (.getfield 31, 3) := by decide +kernel
theorem dX4_dueNumber_14 : decode cX4_dueNumber 14 = .ok (.imul, 1) := by decide +kernel
theorem dX4_dueNumber_15 : decode cX4_dueNumber 15 = .ok (.iadd, 1) := by decide +kernel
theorem dX4_dueNumber_16 : decode cX4_dueNumber 16 = .ok (.aload_n 0, 1) := by decide +kernel
theorem dX4_dueNumber_17 : decode cX4_dueNumber 17 = .ok (.getfield 34, 3) := by decide +kernel
theorem dX4_dueNumber_20 : decode cX4_dueNumber 20 = .ok (.iadd, 1) := by decide +kernel
theorem dX4_dueNumber_21 : decode cX4_dueNumber 21 = .ok (.ireturn, 1) := by decide +kernel
set_option maxRecDepth 20000 in
theorem ggX4_codeAhead_X4_barsAt : GoodIn wsX4_codeAhead wsX4_barsAt := goodIn_r _ [10, 4, 5, 11, 12, 13, 14, 15, 16, 17, 18, 19, 20, 21, 22, 23, 38, 39, 40, 41, 42, 43, 44, 45, 46, 47, 48, 49, 50, 51, 52, 53, 54, 55, 56] (by decide +kernel) (by decide +kernel)
set_option maxRecDepth 20000 in
theorem gX4_codeAhead_X4_barsAt : GoodIn wsX4_codeAhead (wsV RX4 45 RX4 yX4_barsAt wsX4_barsAt) := goodIn_app (goodIn_of _ (by decide +kernel)) ggX4_codeAhead_X4_barsAt
set_option maxRecDepth 20000 in
theorem ggX4_codeAhead_X3_get : GoodIn wsX4_codeAhead wsX3_get := goodIn_r _ [15, 16, 45] (by decide +kernel) (by decide +kernel)
set_option maxRecDepth 20000 in
theorem gX4_codeAhead_X3_get : GoodIn wsX4_codeAhead (wsV RX4 53 RX3 yX3_get wsX3_get) := goodIn_app (goodIn_of _ (by decide +kernel)) ggX4_codeAhead_X3_get
set_option maxRecDepth 20000 in
theorem ggX4_codeAhead_X5_codeOf : GoodIn wsX4_codeAhead wsX5_codeOf := goodIn_r _ [27, 28, 29, 30, 23, 12, 13, 14, 15, 16, 31, 32, 33, 34, 35, 36, 37, 46, 47, 48, 49, 50, 51, 52, 53, 54, 55, 56, 45, 57, 58, 59, 60, 61, 62] (by decide +kernel) (by decide +kernel)
set_option maxRecDepth 20000 in
theorem gX4_codeAhead_X5_codeOf : GoodIn wsX4_codeAhead (wsV RX4 56 RX5 yX5_codeOf wsX5_codeOf) := goodIn_app (goodIn_of _ (by decide +kernel)) ggX4_codeAhead_X5_codeOf
theorem dX4_codeAhead_0 : decode cX4_codeAhead 0 = .ok (.aload_n 0, 1) := by decide +kernel
theorem dX4_codeAhead_1 : decode cX4_codeAhead 1 = .ok (.getfield 28, 3) := by decide +kernel
theorem dX4_codeAhead_4 : decode cX4_codeAhead 4 = .ok (.istore_n 2, 1) := by decide +kernel
theorem dX4_codeAhead_5 : decode cX4_codeAhead 5 = .ok (.aload_n 0, 1) := by decide +kernel
theorem dX4_codeAhead_6 : decode cX4_codeAhead 6 = .ok (.getfield 31, 3) := by decide +kernel
theorem dX4_codeAhead_9 : decode cX4_codeAhead 9 = .ok (.iload_n 1, 1) := by decide +kernel
theorem dX4_codeAhead_10 : decode cX4_codeAhead 10 = .ok (.iadd, 1) := by decide +kernel
theorem dX4_codeAhead_11 : decode cX4_codeAhead 11 = .ok (.istore_n 3, 1) := by decide +kernel
theorem dX4_codeAhead_12 : decode cX4_codeAhead 12 = .ok (.iload_n 2, 1) := by decide +kernel
theorem dX4_codeAhead_13 : decode cX4_codeAhead 13 = .ok (.aload_n 0, 1) := by decide +kernel
theorem dX4_codeAhead_14 : decode cX4_codeAhead 14 = .ok (.getfield 20, 3) := by decide +kernel
theorem dX4_codeAhead_17 : decode cX4_codeAhead 17 = .ok (.if_icmp .ge 26, 3) := by decide +kernel
theorem dX4_codeAhead_20 : decode cX4_codeAhead 20 = .ok (.iload_n 3, 1) := by decide +kernel
theorem dX4_codeAhead_21 : decode cX4_codeAhead 21 = .ok (.aload_n 0, 1) := by decide +kernel
theorem dX4_codeAhead_22 : decode cX4_codeAhead 22 = .ok (.iload_n 2, 1) := by decide +kernel
theorem dX4_codeAhead_23 : decode cX4_codeAhead 23 = .ok (.invokevirtual 45, 3) := by decide +kernel
theorem dX4_codeAhead_26 : decode cX4_codeAhead 26 = .ok (.if_icmp .lt 17, 3) := by decide +kernel
theorem dX4_codeAhead_29 : decode cX4_codeAhead 29 = .ok (.iload_n 3, 1) := by decide +kernel
theorem dX4_codeAhead_30 : decode cX4_codeAhead 30 = .ok (.aload_n 0, 1) := by decide +kernel
theorem dX4_codeAhead_31 : decode cX4_codeAhead 31 = .ok (.iload_n 2, 1) := by decide +kernel
theorem dX4_codeAhead_32 : decode cX4_codeAhead 32 = .ok (.invokevirtual 45, 3) := by decide +kernel
theorem dX4_codeAhead_35 : decode cX4_codeAhead 35 = .ok (.isub, 1) := by decide +kernel
theorem dX4_codeAhead_36 : decode cX4_codeAhead 36 = .ok (.istore_n 3, 1) := by decide +kernel
theorem dX4_codeAhead_37 : decode cX4_codeAhead 37 = .ok (.iinc 2 1, 3) := by decide +kernel
theorem dX4_codeAhead_40 : decode cX4_codeAhead 40 = .ok (.goto (-28), 3) := by decide +kernel
theorem dX4_codeAhead_43 : decode cX4_codeAhead 43 = .ok (.iload_n 2, 1) := by decide +kernel
theorem dX4_codeAhead_44 : decode cX4_codeAhead 44 = .ok (.aload_n 0, 1) := by decide +kernel
theorem dX4_codeAhead_45 : decode cX4_codeAhead 45 = .ok (.getfield 20, 3) := by decide +kernel
theorem dX4_codeAhead_48 : decode cX4_codeAhead 48 = .ok (.if_icmp .ge 22, 3) := by decide +kernel
theorem dX4_codeAhead_51 : decode cX4_codeAhead 51 = .ok (.aload_n 0, 1) := by decide +kernel
theorem dX4_codeAhead_52 : decode cX4_codeAhead 52 = .ok (.getfield 37, 3) := by decide +kernel
theorem dX4_codeAhead_55 : decode cX4_codeAhead 55 = .ok (.aload_n 0, 1) := by decide +kernel
theorem dX4_codeAhead_56 : decode cX4_codeAhead 56 = .ok (.getfield 14, 3) := by decide +kernel
theorem dX4_codeAhead_59 : decode cX4_codeAhead 59 = .ok (.iload_n 2, 1) := by decide +kernel
theorem dX4_codeAhead_60 : decode cX4_codeAhead 60 = .ok (.invokevirtual 53, 3) := by decide +kernel
theorem dX4_codeAhead_63 : decode cX4_codeAhead 63 = .ok (.iload_n 3, 1) := by decide +kernel
theorem dX4_codeAhead_64 : decode cX4_codeAhead 64 = .ok (.invokevirtual 56, 3) := by decide +kernel
theorem dX4_codeAhead_67 : decode cX4_codeAhead 67 = .ok (.goto 4, 3) := by decide +kernel
theorem dX4_codeAhead_70 : decode cX4_codeAhead 70 = .ok (.iconst (-1), 1) := by decide +kernel
theorem dX4_codeAhead_71 : decode cX4_codeAhead 71 = .ok (.ireturn, 1) := by decide +kernel
set_option maxRecDepth 20000 in
theorem ggX4_barsAt_X3_get : GoodIn wsX4_barsAt wsX3_get := goodIn_r _ [7, 8, 23] (by decide +kernel) (by decide +kernel)
set_option maxRecDepth 20000 in
theorem gX4_barsAt_X3_get : GoodIn wsX4_barsAt (wsV RX4 53 RX3 yX3_get wsX3_get) := goodIn_app (goodIn_of _ (by decide +kernel)) ggX4_barsAt_X3_get
set_option maxRecDepth 20000 in
theorem ggX4_barsAt_X5_countBars : GoodIn wsX4_barsAt wsX5_countBars := goodIn_r _ [13, 14, 15, 4, 5, 6, 7, 8, 24, 25, 26, 27, 28, 29, 30, 31, 32, 33, 34, 23] (by decide +kernel) (by decide +kernel)
set_option maxRecDepth 20000 in
theorem gX4_barsAt_X5_countBars : GoodIn wsX4_barsAt (wsV RX4 61 RX5 yX5_countBars wsX5_countBars) := goodIn_app (goodIn_of _ (by decide +kernel)) ggX4_barsAt_X5_countBars
theorem dX4_barsAt_0 : decode cX4_barsAt 0 = .ok (.aload_n 0, 1) := by decide +kernel
theorem dX4_barsAt_1 : decode cX4_barsAt 1 = .ok (.getfield 37, 3) := by decide +kernel
theorem dX4_barsAt_4 : decode cX4_barsAt 4 = .ok (.aload_n 0, 1) := by decide +kernel
theorem dX4_barsAt_5 : decode cX4_barsAt 5 = .ok (.getfield 14, 3) := by decide +kernel
theorem dX4_barsAt_8 : decode cX4_barsAt 8 = .ok (.iload_n 1, 1) := by decide +kernel
theorem dX4_barsAt_9 : decode cX4_barsAt 9 = .ok (.invokevirtual 53, 3) := by decide +kernel
theorem dX4_barsAt_12 : decode cX4_barsAt 12 = .ok (.invokevirtual 61, 3) := by decide +kernel
theorem dX4_barsAt_15 : decode cX4_barsAt 15 = .ok (.ireturn, 1) := by decide +kernel
set_option maxRecDepth 20000 in
theorem ggX5_init_X3_init : GoodIn wsX5_init wsX3_init := goodIn_r _ [20, 21, 2, 3, 22, 23, 24, 25, 26, 27, 28, 29, 30, 31, 32] (by decide +kernel) (by decide +kernel)
set_option maxRecDepth 20000 in
theorem gX5_init_X3_init : GoodIn wsX5_init (wsX3_init) := ggX5_init_X3_init
theorem dX5_init_0 : decode cX5_init 0 = .ok (.aload_n 0, 1) := by decide +kernel
theorem dX5_init_1 : decode cX5_init 1 = .ok (.invokespecial 3, 3) := by decide +kernel
theorem dX5_init_4 : decode cX5_init 4 = .ok (.aload_n 0, 1) := by decide +kernel
theorem dX5_init_5 : decode cX5_init 5 = .ok (.new 9, 3) := by decide +kernel
theorem dX5_init_8 : decode cX5_init 8 = .ok (.dup, 1) := by decide +kernel
theorem dX5_init_9 : decode cX5_init 9 = .ok (.bipush 6, 2) := by decide +kernel
theorem dX5_init_11 : decode cX5_init 11 = .ok (.iconst 0, 1) := by decide +kernel
theorem dX5_init_12 : decode cX5_init 12 = .ok (.invokespecial 11, 3) := by decide +kernel
theorem dX5_init_15 : decode cX5_init 15 = .ok (.putfield 14, 3) := by decide +kernel
theorem dX5_init_18 : decode cX5_init 18 = .ok (.aload_n 0, 1) := by decide +kernel
theorem dX5_init_19 : decode cX5_init 19 = .ok (.new 9, 3) := by decide +kernel
theorem dX5_init_22 : decode cX5_init 22 = .ok (.dup, 1) := by decide +kernel
theorem dX5_init_23 : decode cX5_init 23 = .ok (.bipush 48, 2) := by decide +kernel
theorem dX5_init_25 : decode cX5_init 25 = .ok (.iconst (-1), 1) := by decide +kernel
theorem dX5_init_26 : decode cX5_init 26 = .ok (.invokespecial 11, 3) := by decide +kernel
theorem dX5_init_29 : decode cX5_init 29 = .ok (.putfield 20, 3) := by decide +kernel
theorem dX5_init_32 : decode cX5_init 32 = .ok (.aload_n 0, 1) := by decide +kernel
theorem dX5_init_33 : decode cX5_init 33 = .ok (.new 9, 3) := by decide +kernel
theorem dX5_init_36 : decode cX5_init 36 = .ok (.dup, 1) := by decide +kernel
theorem dX5_init_37 : decode cX5_init 37 = .ok (.bipush 48, 2) := by decide +kernel
theorem dX5_init_39 : decode cX5_init 39 = .ok (.iconst 0, 1) := by decide +kernel
theorem dX5_init_40 : decode cX5_init 40 = .ok (.invokespecial 11, 3) := by decide +kernel
theorem dX5_init_43 : decode cX5_init 43 = .ok (.putfield 23, 3) := by decide +kernel
theorem dX5_init_46 : decode cX5_init 46 = .ok (.aload_n 0, 1) := by decide +kernel
theorem dX5_init_47 : decode cX5_init 47 = .ok (.new 9, 3) := by decide +kernel
theorem dX5_init_50 : decode cX5_init 50 = .ok (.dup, 1) := by decide +kernel
theorem dX5_init_51 : decode cX5_init 51 = .ok (.bipush 48, 2) := by decide +kernel
theorem dX5_init_53 : decode cX5_init 53 = .ok (.iconst (-1), 1) := by decide +kernel
theorem dX5_init_54 : decode cX5_init 54 = .ok (.invokespecial 11, 3) := by decide +kernel
theorem dX5_init_57 : decode cX5_init 57 = .ok (.putfield 26, 3) := by decide +kernel
theorem dX5_init_60 : decode cX5_init 60 = .ok (.aload_n 0, 1) := by decide +kernel
theorem dX5_init_61 : decode cX5_init 61 = .ok (.new 9, 3) := by decide +kernel
theorem dX5_init_64 : decode cX5_init 64 = .ok (.dup, 1) := by decide +kernel
theorem dX5_init_65 : decode cX5_init 65 = .ok (.bipush 48, 2) := by decide +kernel
theorem dX5_init_67 : decode cX5_init 67 = .ok (.iconst 0, 1) := by decide +kernel
theorem dX5_init_68 : decode cX5_init 68 = .ok (.invokespecial 11, 3) := by decide +kernel
theorem dX5_init_71 : decode cX5_init 71 = .ok (.putfield 29, 3) := by decide +kernel
theorem dX5_init_74 : decode cX5_init 74 = .ok (.aload_n 0, 1) := by decide +kernel
theorem dX5_init_75 : decode cX5_init 75 = .ok (.new 9, 3) := by decide +kernel
theorem dX5_init_78 : decode cX5_init 78 = .ok (.dup, 1) := by decide +kernel
theorem dX5_init_79 : decode cX5_init 79 = .ok (.bipush 6, 2) := by decide +kernel
theorem dX5_init_81 : decode cX5_init 81 = .ok (.iconst 0, 1) := by decide +kernel
theorem dX5_init_82 : decode cX5_init 82 = .ok (.invokespecial 11, 3) := by decide +kernel
theorem dX5_init_85 : decode cX5_init 85 = .ok (.putfield 32, 3) := by decide +kernel
theorem dX5_init_88 : decode cX5_init 88 = .ok (.aload_n 0, 1) := by decide +kernel
theorem dX5_init_89 : decode cX5_init 89 = .ok (.new 9, 3) := by decide +kernel
theorem dX5_init_92 : decode cX5_init 92 = .ok (.dup, 1) := by decide +kernel
theorem dX5_init_93 : decode cX5_init 93 = .ok (.sipush 384, 3) := by decide +kernel
theorem dX5_init_96 : decode cX5_init 96 = .ok (.iconst (-1), 1) := by decide +kernel
theorem dX5_init_97 : decode cX5_init 97 = .ok (.invokespecial 11, 3) := by decide +kernel
theorem dX5_init_100 : decode cX5_init 100 = .ok (.putfield 35, 3) := by decide +kernel
theorem dX5_init_103 : decode cX5_init 103 = .ok (.aload_n 0, 1) := by decide +kernel
theorem dX5_init_104 : decode cX5_init 104 = .ok (.new 9, 3) := by decide +kernel
theorem dX5_init_107 : decode cX5_init 107 = .ok (.dup, 1) := by decide +kernel
theorem dX5_init_108 : decode cX5_init 108 = .ok (.sipush 384, 3) := by decide +kernel
theorem dX5_init_111 : decode cX5_init 111 = .ok (.iconst 0, 1) := by decide +kernel
theorem dX5_init_112 : decode cX5_init 112 = .ok (.invokespecial 11, 3) := by decide +kernel
theorem dX5_init_115 : decode cX5_init 115 = .ok (.putfield 38, 3) := by decide +kernel
theorem dX5_init_118 : decode cX5_init 118 = .ok (.aload_n 0, 1) := by decide +kernel
theorem dX5_init_119 : decode cX5_init 119 = .ok (.new 9, 3) := by decide +kernel
theorem dX5_init_122 : decode cX5_init 122 = .ok (.dup, 1) := by decide +kernel
theorem dX5_init_123 : decode cX5_init 123 = .ok (.bipush 8, 2) := by decide +kernel
theorem dX5_init_125 : decode cX5_init 125 = .ok (.iconst 0, 1) := by decide +kernel
theorem dX5_init_126 : decode cX5_init 126 = .ok (.invokespecial 11, 3) := by decide +kernel
theorem dX5_init_129 : decode cX5_init 129 = .ok (.putfield 41, 3) := by decide +kernel
theorem dX5_init_132 : decode cX5_init 132 = .ok (.aload_n 0, 1) := by decide +kernel
theorem dX5_init_133 : decode cX5_init 133 = .ok (.new 9, 3) := by decide +kernel
theorem dX5_init_136 : decode cX5_init 136 = .ok (.dup, 1) := by decide +kernel
theorem dX5_init_137 : decode cX5_init 137 = .ok (.bipush 12, 2) := by decide +kernel
theorem dX5_init_139 : decode cX5_init 139 = .ok (.iconst 0, 1) := by decide +kernel
theorem dX5_init_140 : decode cX5_init 140 = .ok (.invokespecial 11, 3) := by decide +kernel
theorem dX5_init_143 : decode cX5_init 143 = .ok (.putfield 44, 3) := by decide +kernel
theorem dX5_init_146 : decode cX5_init 146 = .ok (.aload_n 0, 1) := by decide +kernel
theorem dX5_init_147 : decode cX5_init 147 = .ok (.aload_n 1, 1) := by decide +kernel
theorem dX5_init_148 : decode cX5_init 148 = .ok (.putfield 47, 3) := by decide +kernel
theorem dX5_init_151 : decode cX5_init 151 = .ok (.return_, 1) := by decide +kernel
set_option maxRecDepth 20000 in
theorem ggX5_countEntries_X3_get : GoodIn wsX5_countEntries wsX3_get := goodIn_r _ [6, 7, 19] (by decide +kernel) (by decide +kernel)
set_option maxRecDepth 20000 in
theorem gX5_countEntries_X3_get : GoodIn wsX5_countEntries (wsV RX5 51 RX3 yX3_get wsX3_get) := goodIn_app (goodIn_of _ (by decide +kernel)) ggX5_countEntries_X3_get
theorem dX5_countEntries_0 : decode cX5_countEntries 0 = .ok (.aload_n 0, 1) := by decide +kernel
theorem dX5_countEntries_1 : decode cX5_countEntries 1 = .ok (.getfield 14, 3) := by decide +kernel
theorem dX5_countEntries_4 : decode cX5_countEntries 4 = .ok (.iload_n 1, 1) := by decide +kernel
theorem dX5_countEntries_5 : decode cX5_countEntries 5 = .ok (.invokevirtual 51, 3) := by decide +kernel
theorem dX5_countEntries_8 : decode cX5_countEntries 8 = .ok (.ireturn, 1) := by decide +kernel
set_option maxRecDepth 20000 in
theorem ggX5_countBars_X3_get : GoodIn wsX5_countBars wsX3_get := goodIn_r _ [6, 7, 19] (by decide +kernel) (by decide +kernel)
set_option maxRecDepth 20000 in
theorem gX5_countBars_X3_get : GoodIn wsX5_countBars (wsV RX5 51 RX3 yX3_get wsX3_get) := goodIn_app (goodIn_of _ (by decide +kernel)) ggX5_countBars_X3_get
theorem dX5_countBars_0 : decode cX5_countBars 0 = .ok (.aload_n 0, 1) := by decide +kernel
theorem dX5_countBars_1 : decode cX5_countBars 1 = .ok (.getfield 32, 3) := by decide +kernel
theorem dX5_countBars_4 : decode cX5_countBars 4 = .ok (.iload_n 1, 1) := by decide +kernel
theorem dX5_countBars_5 : decode cX5_countBars 5 = .ok (.invokevirtual 51, 3) := by decide +kernel
theorem dX5_countBars_8 : decode cX5_countBars 8 = .ok (.ireturn, 1) := by decide +kernel
set_option maxRecDepth 20000 in
theorem ggX5_codeOf_X3_get : GoodIn wsX5_codeOf wsX3_get := goodIn_r _ [8, 9, 28] (by decide +kernel) (by decide +kernel)
set_option maxRecDepth 20000 in
theorem gX5_codeOf_X3_get : GoodIn wsX5_codeOf (wsV RX5 51 RX3 yX3_get wsX3_get) := goodIn_app (goodIn_of _ (by decide +kernel)) ggX5_codeOf_X3_get
set_option maxRecDepth 20000 in
theorem ggX5_codeOf_X2_codeFor : GoodIn wsX5_codeOf wsX2_codeFor := goodIn_r _ [14, 15, 16, 5, 6, 7, 8, 9, 29, 30, 31, 32, 33, 34, 28] (by decide +kernel) (by decide +kernel)
set_option maxRecDepth 20000 in
theorem gX5_codeOf_X2_codeFor : GoodIn wsX5_codeOf (wsV RX5 55 RX2 yX2_codeFor wsX2_codeFor) := goodIn_app (goodIn_of _ (by decide +kernel)) ggX5_codeOf_X2_codeFor
theorem dX5_codeOf_0 : decode cX5_codeOf 0 = .ok (.iload_n 1, 1) := by decide +kernel
theorem dX5_codeOf_1 : decode cX5_codeOf 1 = .ok (.bipush 64, 2) := by decide +kernel
theorem dX5_codeOf_3 : decode cX5_codeOf 3 = .ok (.imul, 1) := by decide +kernel
theorem dX5_codeOf_4 : decode cX5_codeOf 4 = .ok (.iload_n 2, 1) := by decide +kernel
theorem dX5_codeOf_5 : decode cX5_codeOf 5 = .ok (.iadd, 1) := by decide +kernel
theorem dX5_codeOf_6 : decode cX5_codeOf 6 = .ok (.istore_n 3, 1) := by decide +kernel
theorem dX5_codeOf_7 : decode cX5_codeOf 7 = .ok (.aload_n 0, 1) := by decide +kernel
theorem dX5_codeOf_8 : decode cX5_codeOf 8 = .ok (.getfield 47, 3) := by decide +kernel
theorem dX5_codeOf_11 : decode cX5_codeOf 11 = .ok (.aload_n 0, 1) := by decide +kernel
theorem dX5_codeOf_12 : decode cX5_codeOf 12 = .ok (.getfield 35, 3) := by decide +kernel
theorem dX5_codeOf_15 : decode cX5_codeOf 15 = .ok (.iload_n 3, 1) := by decide +kernel
theorem dX5_codeOf_16 : decode cX5_codeOf 16 = .ok (.invokevirtual 51, 3) := by decide +kernel
theorem dX5_codeOf_19 : decode cX5_codeOf 19 = .ok (.aload_n 0, 1) := by decide +kernel
theorem dX5_codeOf_20 : decode cX5_codeOf 20 = .ok (.getfield 38, 3) := by decide +kernel
theorem dX5_codeOf_23 : decode cX5_codeOf 23 = .ok (.iload_n 3, 1) := by decide +kernel
theorem dX5_codeOf_24 : decode cX5_codeOf 24 = .ok (.invokevirtual 51, 3) := by decide +kernel
theorem dX5_codeOf_27 : decode cX5_codeOf 27 = .ok (.invokevirtual 55, 3) := by decide +kernel
theorem dX5_codeOf_30 : decode cX5_codeOf 30 = .ok (.ireturn, 1) := by decide +kernel
set_option maxRecDepth 20000 in
theorem ggX5_append_X3_get : GoodIn wsX5_append wsX3_get := goodIn_r _ [8, 9, 53] (by decide +kernel) (by decide +kernel)
set_option maxRecDepth 20000 in
theorem gX5_append_X3_get : GoodIn wsX5_append (wsV RX5 51 RX3 yX3_get wsX3_get) := goodIn_app (goodIn_of _ (by decide +kernel)) ggX5_append_X3_get
set_option maxRecDepth 20000 in
theorem ggX5_append_X3_replace : GoodIn wsX5_append wsX3_replace := goodIn_r _ [13, 9, 53] (by decide +kernel) (by decide +kernel)
set_option maxRecDepth 20000 in
theorem gX5_append_X3_replace : GoodIn wsX5_append (wsV RX5 61 RX3 yX3_replace wsX3_replace) := goodIn_app (goodIn_of _ (by decide +kernel)) ggX5_append_X3_replace
set_option maxRecDepth 20000 in
theorem ggX5_append_X5_layBars : GoodIn wsX5_append wsX5_layBars := goodIn_r _ [18, 19, 20, 1, 3, 21, 22, 23, 24, 7, 25, 9, 26, 27, 28, 29, 4, 5, 6, 8, 30, 31, 32, 17, 33, 2, 34, 35, 10, 11, 12, 13, 36, 37, 38, 39, 40, 41, 42, 43, 44, 45, 46, 47, 48, 49, 50, 51, 52, 53] (by decide +kernel) (by decide +kernel)
set_option maxRecDepth 20000 in
theorem gX5_append_X5_layBars : GoodIn wsX5_append (wsV RX5 64 RX5 yX5_layBars wsX5_layBars) := goodIn_app (goodIn_of _ (by decide +kernel)) ggX5_append_X5_layBars
theorem dX5_append_0 : decode cX5_append 0 = .ok (.aload_n 0, 1) := by decide +kernel
theorem dX5_append_1 : decode cX5_append 1 = .ok (.getfield 14, 3) := by decide +kernel
theorem dX5_append_4 : decode cX5_append 4 = .ok (.iload_n 1, 1) := by decide +kernel
theorem dX5_append_5 : decode cX5_append 5 = .ok (.invokevirtual 51, 3) := by decide +kernel
theorem dX5_append_8 : decode cX5_append 8 = .ok (.istore 4, 2) := by decide +kernel
theorem dX5_append_10 : decode cX5_append 10 = .ok (.aload_n 0, 1) := by decide +kernel
theorem dX5_append_11 : decode cX5_append 11 = .ok (.getfield 20, 3) := by decide +kernel
theorem dX5_append_14 : decode cX5_append 14 = .ok (.iload_n 1, 1) := by decide +kernel
theorem dX5_append_15 : decode cX5_append 15 = .ok (.bipush 8, 2) := by decide +kernel
theorem dX5_append_17 : decode cX5_append 17 = .ok (.imul, 1) := by decide +kernel
theorem dX5_append_18 : decode cX5_append 18 = .ok (.iload 4, 2) := by decide +kernel
theorem dX5_append_20 : decode cX5_append 20 = .ok (.iadd, 1) := by decide +kernel
theorem dX5_append_21 : decode cX5_append 21 = .ok (.iload_n 2, 1) := by decide +kernel
theorem dX5_append_22 : decode cX5_append 22 = .ok (.invokevirtual 61, 3) := by decide +kernel
theorem dX5_append_25 : decode cX5_append 25 = .ok (.pop, 1) := by decide +kernel
theorem dX5_append_26 : decode cX5_append 26 = .ok (.aload_n 0, 1) := by decide +kernel
theorem dX5_append_27 : decode cX5_append 27 = .ok (.getfield 23, 3) := by decide +kernel
theorem dX5_append_30 : decode cX5_append 30 = .ok (.iload_n 1, 1) := by decide +kernel
theorem dX5_append_31 : decode cX5_append 31 = .ok (.bipush 8, 2) := by decide +kernel
theorem dX5_append_33 : decode cX5_append 33 = .ok (.imul, 1) := by decide +kernel
theorem dX5_append_34 : decode cX5_append 34 = .ok (.iload 4, 2) := by decide +kernel
theorem dX5_append_36 : decode cX5_append 36 = .ok (.iadd, 1) := by decide +kernel
theorem dX5_append_37 : decode cX5_append 37 = .ok (.iload_n 3, 1) := by decide +kernel
theorem dX5_append_38 : decode cX5_append 38 = .ok (.invokevirtual 61, 3) := by decide +kernel
theorem dX5_append_41 : decode cX5_append 41 = .ok (.pop, 1) := by decide +kernel
theorem dX5_append_42 : decode cX5_append 42 = .ok (.aload_n 0, 1) := by decide +kernel
theorem dX5_append_43 : decode cX5_append 43 = .ok (.getfield 14, 3) := by decide +kernel
theorem dX5_append_46 : decode cX5_append 46 = .ok (.iload_n 1, 1) := by decide +kernel
theorem dX5_append_47 : decode cX5_append 47 = .ok (.iload 4, 2) := by decide +kernel
theorem dX5_append_49 : decode cX5_append 49 = .ok (.iconst 1, 1) := by decide +kernel
theorem dX5_append_50 : decode cX5_append 50 = .ok (.iadd, 1) := by decide +kernel
theorem dX5_append_51 : decode cX5_append 51 = .ok (.invokevirtual 61, 3) := by decide +kernel
theorem dX5_append_54 : decode cX5_append 54 = .ok (.pop, 1) := by decide +kernel
theorem dX5_append_55 : decode cX5_append 55 = .ok (.aload_n 0, 1) := by decide +kernel
theorem dX5_append_56 : decode cX5_append 56 = .ok (.iload_n 1, 1) := by decide +kernel
theorem dX5_append_57 : decode cX5_append 57 = .ok (.invokevirtual 64, 3) := by decide +kernel
theorem dX5_append_60 : decode cX5_append 60 = .ok (.iload 4, 2) := by decide +kernel
theorem dX5_append_62 : decode cX5_append 62 = .ok (.ireturn, 1) := by decide +kernel
set_option maxRecDepth 20000 in
theorem ggX5_giveJump_X3_replace : GoodIn wsX5_giveJump wsX3_replace := goodIn_r _ [7, 8, 53] (by decide +kernel) (by decide +kernel)
set_option maxRecDepth 20000 in
theorem gX5_giveJump_X3_replace : GoodIn wsX5_giveJump (wsV RX5 61 RX3 yX3_replace wsX3_replace) := goodIn_app (goodIn_of _ (by decide +kernel)) ggX5_giveJump_X3_replace
set_option maxRecDepth 20000 in
theorem ggX5_giveJump_X5_layBars : GoodIn wsX5_giveJump wsX5_layBars := goodIn_r _ [13, 14, 15, 16, 17, 18, 19, 20, 21, 6, 22, 8, 23, 24, 25, 26, 27, 28, 29, 30, 31, 32, 33, 12, 34, 35, 36, 37, 3, 4, 5, 7, 38, 39, 40, 41, 2, 1, 42, 43, 44, 45, 46, 47, 48, 49, 50, 51, 52, 53] (by decide +kernel) (by decide +kernel)
set_option maxRecDepth 20000 in
theorem gX5_giveJump_X5_layBars : GoodIn wsX5_giveJump (wsV RX5 64 RX5 yX5_layBars wsX5_layBars) := goodIn_app (goodIn_of _ (by decide +kernel)) ggX5_giveJump_X5_layBars
theorem dX5_giveJump_0 : decode cX5_giveJump 0 = .ok (.aload_n 0, 1) := by decide +kernel
theorem dX5_giveJump_1 : decode cX5_giveJump 1 = .ok (.getfield 26, 3) := by decide +kernel
theorem dX5_giveJump_4 : decode cX5_giveJump 4 = .ok (.iload_n 1, 1) := by decide +kernel
theorem dX5_giveJump_5 : decode cX5_giveJump 5 = .ok (.bipush 8, 2) := by decide +kernel
theorem dX5_giveJump_7 : decode cX5_giveJump 7 = .ok (.imul, 1) := by decide +kernel
theorem dX5_giveJump_8 : decode cX5_giveJump 8 = .ok (.iload_n 2, 1) := by decide +kernel
theorem dX5_giveJump_9 : decode cX5_giveJump 9 = .ok (.iadd, 1) := by decide +kernel
theorem dX5_giveJump_10 : decode cX5_giveJump 10 = .ok (.iload_n 3, 1) := by decide +kernel
theorem dX5_giveJump_11 : decode cX5_giveJump 11 = .ok (.invokevirtual 61, 3) := by decide +kernel
theorem dX5_giveJump_14 : decode cX5_giveJump 14 = .ok (.pop, 1) := by decide +kernel
theorem dX5_giveJump_15 : decode cX5_giveJump 15 = .ok (.aload_n 0, 1) := by decide +kernel
theorem dX5_giveJump_16 : decode cX5_giveJump 16 = .ok (.getfield 29, 3) := by decide +kernel
theorem dX5_giveJump_19 : decode cX5_giveJump 19 = .ok (.iload_n 1, 1) := by decide +kernel
theorem dX5_giveJump_20 : decode cX5_giveJump 20 = .ok (.bipush 8, 2) := by decide +kernel
theorem dX5_giveJump_22 : decode cX5_giveJump 22 = .ok (.imul, 1) := by decide +kernel
theorem dX5_giveJump_23 : decode cX5_giveJump 23 = .ok (.iload_n 2, 1) := by decide +kernel
theorem dX5_giveJump_24 : decode cX5_giveJump 24 = .ok (.iadd, 1) := by decide +kernel
theorem dX5_giveJump_25 : decode cX5_giveJump 25 = .ok (.iload 4, 2) := by decide +kernel
theorem dX5_giveJump_27 : decode cX5_giveJump 27 = .ok (.invokevirtual 61, 3) := by decide +kernel
theorem dX5_giveJump_30 : decode cX5_giveJump 30 = .ok (.pop, 1) := by decide +kernel
theorem dX5_giveJump_31 : decode cX5_giveJump 31 = .ok (.aload_n 0, 1) := by decide +kernel
theorem dX5_giveJump_32 : decode cX5_giveJump 32 = .ok (.iload_n 1, 1) := by decide +kernel
theorem dX5_giveJump_33 : decode cX5_giveJump 33 = .ok (.invokevirtual 64, 3) := by decide +kernel
theorem dX5_giveJump_36 : decode cX5_giveJump 36 = .ok (.return_, 1) := by decide +kernel
set_option maxRecDepth 20000 in
theorem ggX5_layBars_X3_setAll : GoodIn wsX5_layBars wsX3_setAll := goodIn_r _ [10, 11, 12, 13, 14, 15, 49] (by decide +kernel) (by decide +kernel)
set_option maxRecDepth 20000 in
theorem gX5_layBars_X3_setAll : GoodIn wsX5_layBars (wsV RX5 68 RX3 yX3_setAll wsX3_setAll) := goodIn_app (goodIn_of _ (by decide +kernel)) ggX5_layBars_X3_setAll
set_option maxRecDepth 20000 in
theorem ggX5_layBars_X3_get : GoodIn wsX5_layBars wsX3_get := goodIn_r _ [19, 11, 49] (by decide +kernel) (by decide +kernel)
set_option maxRecDepth 20000 in
theorem gX5_layBars_X3_get : GoodIn wsX5_layBars (wsV RX5 51 RX3 yX3_get wsX3_get) := goodIn_app (goodIn_of _ (by decide +kernel)) ggX5_layBars_X3_get
set_option maxRecDepth 20000 in
theorem ggX5_layBars_X5_layBar : GoodIn wsX5_layBars wsX5_layBar := goodIn_r _ [24, 25, 2, 26, 27, 16, 17, 18, 9, 19, 11, 28, 29, 30, 31, 38, 39, 40, 41, 42, 43, 44, 45, 46, 47, 48, 49] (by decide +kernel) (by decide +kernel)
set_option maxRecDepth 20000 in
theorem gX5_layBars_X5_layBar : GoodIn wsX5_layBars (wsV RX5 71 RX5 yX5_layBar wsX5_layBar) := goodIn_app (goodIn_of _ (by decide +kernel)) ggX5_layBars_X5_layBar
set_option maxRecDepth 20000 in
theorem ggX5_layBars_X5_leaveEntry : GoodIn wsX5_layBars wsX5_leaveEntry := goodIn_r _ [35, 1, 36, 37, 16, 17, 18, 9, 19, 11, 28, 29, 30, 31, 38, 39, 40, 41, 42, 43, 44, 45, 46, 47, 48, 49] (by decide +kernel) (by decide +kernel)
set_option maxRecDepth 20000 in
theorem gX5_layBars_X5_leaveEntry : GoodIn wsX5_layBars (wsV RX5 75 RX5 yX5_leaveEntry wsX5_leaveEntry) := goodIn_app (goodIn_of _ (by decide +kernel)) ggX5_layBars_X5_leaveEntry
set_option maxRecDepth 20000 in
theorem ggX5_layBars_X3_replace : GoodIn wsX5_layBars wsX3_replace := goodIn_r _ [31, 11, 49] (by decide +kernel) (by decide +kernel)
set_option maxRecDepth 20000 in
theorem gX5_layBars_X3_replace : GoodIn wsX5_layBars (wsV RX5 61 RX3 yX3_replace wsX3_replace) := goodIn_app (goodIn_of _ (by decide +kernel)) ggX5_layBars_X3_replace
theorem dX5_layBars_0 : decode cX5_layBars 0 = .ok (.aload_n 0, 1) := by decide +kernel
theorem dX5_layBars_1 : decode cX5_layBars 1 = .ok (.getfield 41, 3) := by decide +kernel
theorem dX5_layBars_4 : decode cX5_layBars 4 = .ok (.iconst 0, 1) := by decide +kernel
theorem dX5_layBars_5 : decode cX5_layBars 5 = .ok (.invokevirtual 68, 3) := by decide +kernel
theorem dX5_layBars_8 : decode cX5_layBars 8 = .ok (.aload_n 0, 1) := by decide +kernel
theorem dX5_layBars_9 : decode cX5_layBars 9 = .ok (.getfield 44, 3) := by decide +kernel
theorem dX5_layBars_12 : decode cX5_layBars 12 = .ok (.iconst 0, 1) := by decide +kernel
theorem dX5_layBars_13 : decode cX5_layBars 13 = .ok (.invokevirtual 68, 3) := by decide +kernel
theorem dX5_layBars_16 : decode cX5_layBars 16 = .ok (.iconst 0, 1) := by decide +kernel
theorem dX5_layBars_17 : decode cX5_layBars 17 = .ok (.istore_n 2, 1) := by decide +kernel
theorem dX5_layBars_18 : decode cX5_layBars 18 = .ok (.iconst 0, 1) := by decide +kernel
theorem dX5_layBars_19 : decode cX5_layBars 19 = .ok (.istore_n 3, 1) := by decide +kernel
theorem dX5_layBars_20 : decode cX5_layBars 20 = .ok (.iconst 0, 1) := by decide +kernel
theorem dX5_layBars_21 : decode cX5_layBars 21 = .ok (.istore 4, 2) := by decide +kernel
theorem dX5_layBars_23 : decode cX5_layBars 23 = .ok (.iload_n 2, 1) := by decide +kernel
theorem dX5_layBars_24 : decode cX5_layBars 24 = .ok (.bipush 64, 2) := by decide +kernel
theorem dX5_layBars_26 : decode cX5_layBars 26 = .ok (.if_icmp .ge 59, 3) := by decide +kernel
theorem dX5_layBars_29 : decode cX5_layBars 29 = .ok (.iload_n 3, 1) := by decide +kernel
theorem dX5_layBars_30 : decode cX5_layBars 30 = .ok (.aload_n 0, 1) := by decide +kernel
theorem dX5_layBars_31 : decode cX5_layBars 31 = .ok (.getfield 14, 3) := by decide +kernel
theorem dX5_layBars_34 : decode cX5_layBars 34 = .ok (.iload_n 1, 1) := by decide +kernel
theorem dX5_layBars_35 : decode cX5_layBars 35 = .ok (.invokevirtual 51, 3) := by decide +kernel
theorem dX5_layBars_38 : decode cX5_layBars 38 = .ok (.if_icmp .ge 47, 3) := by decide +kernel
theorem dX5_layBars_41 : decode cX5_layBars 41 = .ok (.aload_n 0, 1) := by decide +kernel
theorem dX5_layBars_42 : decode cX5_layBars 42 = .ok (.iload_n 1, 1) := by decide +kernel
theorem dX5_layBars_43 : decode cX5_layBars 43 = .ok (.iload_n 2, 1) := by decide +kernel
theorem dX5_layBars_44 : decode cX5_layBars 44 = .ok (.iload_n 3, 1) := by decide +kernel
theorem dX5_layBars_45 : decode cX5_layBars 45 = .ok (.invokevirtual 71, 3) := by decide +kernel
theorem dX5_layBars_48 : decode cX5_layBars 48 = .ok (.iinc 2 1, 3) := by decide +kernel
theorem dX5_layBars_51 : decode cX5_layBars 51 = .ok (.iinc 4 1, 3) := by decide +kernel
theorem dX5_layBars_54 : decode cX5_layBars 54 = .ok (.iload 4, 2) := by decide +kernel
theorem dX5_layBars_56 : decode cX5_layBars 56 = .ok (.aload_n 0, 1) := by decide +kernel
theorem dX5_layBars_57 : decode cX5_layBars 57 = .ok (.getfield 23, 3) := by decide +kernel
theorem dX5_layBars_60 : decode cX5_layBars 60 = .ok (.iload_n 1, 1) := by decide +kernel
theorem dX5_layBars_61 : decode cX5_layBars 61 = .ok (.bipush 8, 2) := by decide +kernel
theorem dX5_layBars_63 : decode cX5_layBars 63 = .ok (.imul, 1) := by decide +kernel
theorem dX5_layBars_64 : decode cX5_layBars 64 = .ok (.iload_n 3, 1) := by decide +kernel
theorem dX5_layBars_65 : decode cX5_layBars 65 = .ok (.iadd, 1) := by decide +kernel
theorem dX5_layBars_66 : decode cX5_layBars 66 = .ok (.invokevirtual 51, 3) := by decide +kernel
theorem dX5_layBars_69 : decode cX5_layBars 69 = .ok (.if_icmp .lt (-46), 3) := by decide +kernel
theorem dX5_layBars_72 : decode cX5_layBars 72 = .ok (.iconst 0, 1) := by decide +kernel
theorem dX5_layBars_73 : decode cX5_layBars 73 = .ok (.istore 4, 2) := by decide +kernel
theorem dX5_layBars_75 : decode cX5_layBars 75 = .ok (.aload_n 0, 1) := by decide +kernel
theorem dX5_layBars_76 : decode cX5_layBars 76 = .ok (.iload_n 1, 1) := by decide +kernel
theorem dX5_layBars_77 : decode cX5_layBars 77 = .ok (.iload_n 3, 1) := by decide +kernel
theorem dX5_layBars_78 : decode cX5_layBars 78 = .ok (.invokevirtual 75, 3) := by decide +kernel
theorem dX5_layBars_81 : decode cX5_layBars 81 = .ok (.istore_n 3, 1) := by decide +kernel
theorem dX5_layBars_82 : decode cX5_layBars 82 = .ok (.goto (-59), 3) := by decide +kernel
theorem dX5_layBars_85 : decode cX5_layBars 85 = .ok (.aload_n 0, 1) := by decide +kernel
theorem dX5_layBars_86 : decode cX5_layBars 86 = .ok (.getfield 32, 3) := by decide +kernel
theorem dX5_layBars_89 : decode cX5_layBars 89 = .ok (.iload_n 1, 1) := by decide +kernel
theorem dX5_layBars_90 : decode cX5_layBars 90 = .ok (.iload_n 2, 1) := by decide +kernel
theorem dX5_layBars_91 : decode cX5_layBars 91 = .ok (.invokevirtual 61, 3) := by decide +kernel
theorem dX5_layBars_94 : decode cX5_layBars 94 = .ok (.pop, 1) := by decide +kernel
theorem dX5_layBars_95 : decode cX5_layBars 95 = .ok (.return_, 1) := by decide +kernel
set_option maxRecDepth 20000 in
theorem ggX5_layBar_X3_get : GoodIn wsX5_layBar wsX3_get := goodIn_r _ [9, 10, 26] (by decide +kernel) (by decide +kernel)
set_option maxRecDepth 20000 in
theorem gX5_layBar_X3_get : GoodIn wsX5_layBar (wsV RX5 51 RX3 yX3_get wsX3_get) := goodIn_app (goodIn_of _ (by decide +kernel)) ggX5_layBar_X3_get
set_option maxRecDepth 20000 in
theorem ggX5_layBar_X3_replace : GoodIn wsX5_layBar wsX3_replace := goodIn_r _ [14, 10, 26] (by decide +kernel) (by decide +kernel)
set_option maxRecDepth 20000 in
theorem gX5_layBar_X3_replace : GoodIn wsX5_layBar (wsV RX5 61 RX3 yX3_replace wsX3_replace) := goodIn_app (goodIn_of _ (by decide +kernel)) ggX5_layBar_X3_replace
theorem dX5_layBar_0 : decode cX5_layBar 0 = .ok (.aload_n 0, 1) := by decide +kernel
theorem dX5_layBar_1 : decode cX5_layBar 1 = .ok (.getfield 20, 3) := by decide +kernel
theorem dX5_layBar_4 : decode cX5_layBar 4 = .ok (.iload_n 1, 1) := by decide +kernel
theorem dX5_layBar_5 : decode cX5_layBar 5 = .ok (.bipush 8, 2) := by decide +kernel
theorem dX5_layBar_7 : decode cX5_layBar 7 = .ok (.imul, 1) := by decide +kernel
theorem dX5_layBar_8 : decode cX5_layBar 8 = .ok (.iload_n 3, 1) := by decide +kernel
theorem dX5_layBar_9 : decode cX5_layBar 9 = .ok (.iadd, 1) := by decide +kernel
theorem dX5_layBar_10 : decode cX5_layBar 10 = .ok (.invokevirtual 51, 3) := by decide +kernel
theorem dX5_layBar_13 : decode cX5_layBar 13 = .ok (.istore 4, 2) := by decide +kernel
theorem dX5_layBar_15 : decode cX5_layBar 15 = .ok (.aload_n 0, 1) := by decide +kernel
theorem dX5_layBar_16 : decode cX5_layBar 16 = .ok (.getfield 44, 3) := by decide +kernel
theorem dX5_layBar_19 : decode cX5_layBar 19 = .ok (.iload 4, 2) := by decide +kernel
theorem dX5_layBar_21 : decode cX5_layBar 21 = .ok (.invokevirtual 51, 3) := by decide +kernel
theorem dX5_layBar_24 : decode cX5_layBar 24 = .ok (.iconst 1, 1) := by decide +kernel
theorem dX5_layBar_25 : decode cX5_layBar 25 = .ok (.iadd, 1) := by decide +kernel
theorem dX5_layBar_26 : decode cX5_layBar 26 = .ok (.istore 5, 2) := by decide +kernel
theorem dX5_layBar_28 : decode cX5_layBar 28 = .ok (.aload_n 0, 1) := by decide +kernel
theorem dX5_layBar_29 : decode cX5_layBar 29 = .ok (.getfield 44, 3) := by decide +kernel
theorem dX5_layBar_32 : decode cX5_layBar 32 = .ok (.iload 4, 2) := by decide +kernel
theorem dX5_layBar_34 : decode cX5_layBar 34 = .ok (.iload 5, 2) := by decide +kernel
theorem dX5_layBar_36 : decode cX5_layBar 36 = .ok (.invokevirtual 61, 3) := by decide +kernel
theorem dX5_layBar_39 : decode cX5_layBar 39 = .ok (.pop, 1) := by decide +kernel
theorem dX5_layBar_40 : decode cX5_layBar 40 = .ok (.aload_n 0, 1) := by decide +kernel
theorem dX5_layBar_41 : decode cX5_layBar 41 = .ok (.getfield 35, 3) := by decide +kernel
theorem dX5_layBar_44 : decode cX5_layBar 44 = .ok (.iload_n 1, 1) := by decide +kernel
theorem dX5_layBar_45 : decode cX5_layBar 45 = .ok (.bipush 64, 2) := by decide +kernel
theorem dX5_layBar_47 : decode cX5_layBar 47 = .ok (.imul, 1) := by decide +kernel
theorem dX5_layBar_48 : decode cX5_layBar 48 = .ok (.iload_n 2, 1) := by decide +kernel
theorem dX5_layBar_49 : decode cX5_layBar 49 = .ok (.iadd, 1) := by decide +kernel
theorem dX5_layBar_50 : decode cX5_layBar 50 = .ok (.iload 4, 2) := by decide +kernel
theorem dX5_layBar_52 : decode cX5_layBar 52 = .ok (.invokevirtual 61, 3) := by decide +kernel
theorem dX5_layBar_55 : decode cX5_layBar 55 = .ok (.pop, 1) := by decide +kernel
theorem dX5_layBar_56 : decode cX5_layBar 56 = .ok (.aload_n 0, 1) := by decide +kernel
theorem dX5_layBar_57 : decode cX5_layBar 57 = .ok (.getfield 38, 3) := by decide +kernel
theorem dX5_layBar_60 : decode cX5_layBar 60 = .ok (.iload_n 1, 1) := by decide +kernel
theorem dX5_layBar_61 : decode cX5_layBar 61 = .ok (.bipush 64, 2) := by decide +kernel
theorem dX5_layBar_63 : decode cX5_layBar 63 = .ok (.imul, 1) := by decide +kernel
theorem dX5_layBar_64 : decode cX5_layBar 64 = .ok (.iload_n 2, 1) := by decide +kernel
theorem dX5_layBar_65 : decode cX5_layBar 65 = .ok (.iadd, 1) := by decide +kernel
theorem dX5_layBar_66 : decode cX5_layBar 66 = .ok (.iload 5, 2) := by decide +kernel
theorem dX5_layBar_68 : decode cX5_layBar 68 = .ok (.invokevirtual 61, 3) := by decide +kernel
theorem dX5_layBar_71 : decode cX5_layBar 71 = .ok (.pop, 1) := by decide +kernel
theorem dX5_layBar_72 : decode cX5_layBar 72 = .ok (.return_, 1) := by decide +kernel
set_option maxRecDepth 20000 in
theorem ggX5_leaveEntry_X3_get : GoodIn wsX5_leaveEntry wsX3_get := goodIn_r _ [8, 9, 25] (by decide +kernel) (by decide +kernel)
set_option maxRecDepth 20000 in
theorem gX5_leaveEntry_X3_get : GoodIn wsX5_leaveEntry (wsV RX5 51 RX3 yX3_get wsX3_get) := goodIn_app (goodIn_of _ (by decide +kernel)) ggX5_leaveEntry_X3_get
set_option maxRecDepth 20000 in
theorem ggX5_leaveEntry_X3_replace : GoodIn wsX5_leaveEntry wsX3_replace := goodIn_r _ [13, 9, 25] (by decide +kernel) (by decide +kernel)
set_option maxRecDepth 20000 in
theorem gX5_leaveEntry_X3_replace : GoodIn wsX5_leaveEntry (wsV RX5 61 RX3 yX3_replace wsX3_replace) := goodIn_app (goodIn_of _ (by decide +kernel)) ggX5_leaveEntry_X3_replace
theorem dX5_leaveEntry_0 : decode cX5_leaveEntry 0 = .ok (.aload_n 0, 1) := by decide +kernel
theorem dX5_leaveEntry_1 : decode cX5_leaveEntry 1 = .ok (.getfield 41, 3) := by decide +kernel
theorem dX5_leaveEntry_4 : decode cX5_leaveEntry 4 = .ok (.iload_n 2, 1) := by decide +kernel
theorem dX5_leaveEntry_5 : decode cX5_leaveEntry 5 = .ok (.invokevirtual 51, 3) := by decide +kernel
theorem dX5_leaveEntry_8 : decode cX5_leaveEntry 8 = .ok (.istore_n 3, 1) := by decide +kernel
theorem dX5_leaveEntry_9 : decode cX5_leaveEntry 9 = .ok (.iload_n 3, 1) := by decide +kernel
theorem dX5_leaveEntry_10 : decode cX5_leaveEntry 10 = .ok (.aload_n 0, 1) := by decide +kernel
theorem dX5_leaveEntry_11 : decode cX5_leaveEntry 11 = .ok (.getfield 29, 3) := by decide +kernel
theorem dX5_leaveEntry_14 : decode cX5_leaveEntry 14 = .ok (.iload_n 1, 1) := by decide +kernel
theorem dX5_leaveEntry_15 : decode cX5_leaveEntry 15 = .ok (.bipush 8, 2) := by decide +kernel
theorem dX5_leaveEntry_17 : decode cX5_leaveEntry 17 = .ok (.imul, 1) := by decide +kernel
theorem dX5_leaveEntry_18 : decode cX5_leaveEntry 18 = .ok (.iload_n 2, 1) := by decide +kernel
theorem dX5_leaveEntry_19 : decode cX5_leaveEntry 19 = .ok (.iadd, 1) := by decide +kernel
theorem dX5_leaveEntry_20 : decode cX5_leaveEntry 20 = .ok (.invokevirtual 51, 3) := by decide +kernel
theorem dX5_leaveEntry_23 : decode cX5_leaveEntry 23 = .ok (.if_icmp .lt 7, 3) := by decide +kernel
theorem dX5_leaveEntry_26 : decode cX5_leaveEntry 26 = .ok (.iload_n 2, 1) := by decide +kernel
theorem dX5_leaveEntry_27 : decode cX5_leaveEntry 27 = .ok (.iconst 1, 1) := by decide +kernel
theorem dX5_leaveEntry_28 : decode cX5_leaveEntry 28 = .ok (.iadd, 1) := by decide +kernel
theorem dX5_leaveEntry_29 : decode cX5_leaveEntry 29 = .ok (.ireturn, 1) := by decide +kernel
theorem dX5_leaveEntry_30 : decode cX5_leaveEntry 30 = .ok (.aload_n 0, 1) := by decide +kernel
theorem dX5_leaveEntry_31 : decode cX5_leaveEntry 31 = .ok (.getfield 41, 3) := by decide +kernel
theorem dX5_leaveEntry_34 : decode cX5_leaveEntry 34 = .ok (.iload_n 2, 1) := by decide +kernel
theorem dX5_leaveEntry_35 : decode cX5_leaveEntry 35 = .ok (.iload_n 3, 1) := by decide +kernel
theorem dX5_leaveEntry_36 : decode cX5_leaveEntry 36 = .ok (.iconst 1, 1) := by decide +kernel
theorem dX5_leaveEntry_37 : decode cX5_leaveEntry 37 = .ok (.iadd, 1) := by decide +kernel
theorem dX5_leaveEntry_38 : decode cX5_leaveEntry 38 = .ok (.invokevirtual 61, 3) := by decide +kernel
theorem dX5_leaveEntry_41 : decode cX5_leaveEntry 41 = .ok (.pop, 1) := by decide +kernel
theorem dX5_leaveEntry_42 : decode cX5_leaveEntry 42 = .ok (.aload_n 0, 1) := by decide +kernel
theorem dX5_leaveEntry_43 : decode cX5_leaveEntry 43 = .ok (.getfield 26, 3) := by decide +kernel
theorem dX5_leaveEntry_46 : decode cX5_leaveEntry 46 = .ok (.iload_n 1, 1) := by decide +kernel
theorem dX5_leaveEntry_47 : decode cX5_leaveEntry 47 = .ok (.bipush 8, 2) := by decide +kernel
theorem dX5_leaveEntry_49 : decode cX5_leaveEntry 49 = .ok (.imul, 1) := by decide +kernel
theorem dX5_leaveEntry_50 : decode cX5_leaveEntry 50 = .ok (.iload_n 2, 1) := by decide +kernel
theorem dX5_leaveEntry_51 : decode cX5_leaveEntry 51 = .ok (.iadd, 1) := by decide +kernel
theorem dX5_leaveEntry_52 : decode cX5_leaveEntry 52 = .ok (.invokevirtual 51, 3) := by decide +kernel
theorem dX5_leaveEntry_55 : decode cX5_leaveEntry 55 = .ok (.ireturn, 1) := by decide +kernel
set_option maxRecDepth 20000 in
theorem ggX6_init_X3_init : GoodIn wsX6_init wsX3_init := goodIn_r _ [35, 36, 2, 3, 37, 38, 39, 40, 41, 42, 43, 44, 45, 46, 109] (by decide +kernel) (by decide +kernel)
set_option maxRecDepth 20000 in
theorem gX6_init_X3_init : GoodIn wsX6_init (wsX3_init) := ggX6_init_X3_init
set_option maxRecDepth 20000 in
theorem ggX6_init_X2_init : GoodIn wsX6_init wsX2_init := goodIn_r _ [48, 49, 2, 3, 50, 5, 6, 51, 52, 53, 54, 55, 56, 57, 34, 35, 36, 37, 38, 39, 40, 41, 42, 43, 44, 45, 46, 109, 121, 122, 123, 124, 125, 126] (by decide +kernel) (by decide +kernel)
set_option maxRecDepth 20000 in
theorem gX6_init_X2_init_n23 : GoodIn wsX6_init (wsX2_init) := ggX6_init_X2_init
set_option maxRecDepth 20000 in
theorem ggX6_init_X5_init : GoodIn wsX6_init wsX5_init := goodIn_r _ [60, 61, 2, 3, 62, 5, 6, 63, 64, 65, 66, 67, 68, 69, 70, 71, 72, 73, 74, 34, 35, 36, 37, 38, 39, 40, 41, 42, 43, 44, 45, 46, 109, 127, 128, 129, 130, 131, 132, 133, 134, 135, 136, 137] (by decide +kernel) (by decide +kernel)
set_option maxRecDepth 20000 in
theorem gX6_init_X5_init : GoodIn wsX6_init (wsX5_init) := ggX6_init_X5_init
set_option maxRecDepth 20000 in
theorem ggX6_init_X4_init : GoodIn wsX6_init wsX4_init := goodIn_r _ [77, 78, 2, 3, 79, 5, 6, 80, 81, 82, 83, 84, 85, 86, 87, 34, 35, 36, 37, 38, 39, 40, 41, 42, 43, 44, 45, 46, 109, 138, 139, 140, 141, 142, 143, 144] (by decide +kernel) (by decide +kernel)
set_option maxRecDepth 20000 in
theorem gX6_init_X4_init : GoodIn wsX6_init (wsX4_init) := ggX6_init_X4_init
set_option maxRecDepth 20000 in
theorem ggX6_init_X0_init : GoodIn wsX6_init wsX0_init := goodIn_r _ [90, 91, 2, 3, 92, 5, 6, 93, 94, 95, 96, 34, 35, 36, 37, 38, 39, 40, 41, 42, 43, 44, 45, 46, 109, 145, 146, 147] (by decide +kernel) (by decide +kernel)
set_option maxRecDepth 20000 in
theorem gX6_init_X0_init : GoodIn wsX6_init (wsX0_init) := ggX6_init_X0_init
set_option maxRecDepth 20000 in
theorem ggX6_init_X1_init : GoodIn wsX6_init wsX1_init := goodIn_r _ [99, 100, 2, 3, 101, 5, 6, 102, 103, 104, 105, 106, 107, 108, 34, 35, 36, 37, 38, 39, 40, 41, 42, 43, 44, 45, 46, 109, 148, 149, 150, 151, 152, 153] (by decide +kernel) (by decide +kernel)
set_option maxRecDepth 20000 in
theorem gX6_init_X1_init : GoodIn wsX6_init (wsX1_init) := ggX6_init_X1_init
theorem dX6_init_0 : decode cX6_init 0 = .ok (.aload_n 0, 1) := by decide +kernel
theorem dX6_init_1 : decode cX6_init 1 = .ok (.invokespecial 3, 3) := by decide +kernel
theorem dX6_init_4 : decode cX6_init 4 = .ok (.aload_n 0, 1) := by decide +kernel
theorem dX6_init_5 : decode cX6_init 5 = .ok (.new 9, 3) := by decide +kernel
theorem dX6_init_8 : decode cX6_init 8 = .ok (.dup, 1) := by decide +kernel
theorem dX6_init_9 : decode cX6_init 9 = .ok (.bipush 8, 2) := by decide +kernel
theorem dX6_init_11 : decode cX6_init 11 = .ok (.iconst 1, 1) := by decide +kernel
theorem dX6_init_12 : decode cX6_init 12 = .ok (.invokespecial 11, 3) := by decide +kernel
theorem dX6_init_15 : decode cX6_init 15 = .ok (.putfield 14, 3) := by decide +kernel
theorem dX6_init_18 : decode cX6_init 18 = .ok (.aload_n 0, 1) := by decide +kernel
theorem dX6_init_19 : decode cX6_init 19 = .ok (.new 9, 3) := by decide +kernel
theorem dX6_init_22 : decode cX6_init 22 = .ok (.dup, 1) := by decide +kernel
theorem dX6_init_23 : decode cX6_init 23 = .ok (.bipush 8, 2) := by decide +kernel
theorem dX6_init_25 : decode cX6_init 25 = .ok (.iconst 0, 1) := by decide +kernel
theorem dX6_init_26 : decode cX6_init 26 = .ok (.invokespecial 11, 3) := by decide +kernel
theorem dX6_init_29 : decode cX6_init 29 = .ok (.putfield 18, 3) := by decide +kernel
theorem dX6_init_32 : decode cX6_init 32 = .ok (.aload_n 0, 1) := by decide +kernel
theorem dX6_init_33 : decode cX6_init 33 = .ok (.new 21, 3) := by decide +kernel
theorem dX6_init_36 : decode cX6_init 36 = .ok (.dup, 1) := by decide +kernel
theorem dX6_init_37 : decode cX6_init 37 = .ok (.invokespecial 23, 3) := by decide +kernel
theorem dX6_init_40 : decode cX6_init 40 = .ok (.putfield 24, 3) := by decide +kernel
theorem dX6_init_43 : decode cX6_init 43 = .ok (.aload_n 0, 1) := by decide +kernel
theorem dX6_init_44 : decode cX6_init 44 = .ok (.new 28, 3) := by decide +kernel
theorem dX6_init_47 : decode cX6_init 47 = .ok (.dup, 1) := by decide +kernel
theorem dX6_init_48 : decode cX6_init 48 = .ok (.aload_n 0, 1) := by decide +kernel
theorem dX6_init_49 : decode cX6_init 49 = .ok (.getfield 24, 3) := by decide +kernel
theorem dX6_init_52 : decode cX6_init 52 = .ok (.invokespecial 30, 3) := by decide +kernel
theorem dX6_init_55 : decode cX6_init 55 = .ok (.putfield 33, 3) := by decide +kernel
theorem dX6_init_58 : decode cX6_init 58 = .ok (.aload_n 0, 1) := by decide +kernel
theorem dX6_init_59 : decode cX6_init 59 = .ok (.new 37, 3) := by decide +kernel
theorem dX6_init_62 : decode cX6_init 62 = .ok (.dup, 1) := by decide +kernel
theorem dX6_init_63 : decode cX6_init 63 = .ok (.aload_n 0, 1) := by decide +kernel
theorem dX6_init_64 : decode cX6_init 64 = .ok (.getfield 33, 3) := by decide +kernel
theorem dX6_init_67 : decode cX6_init 67 = .ok (.invokespecial 39, 3) := by decide +kernel
theorem dX6_init_70 : decode cX6_init 70 = .ok (.putfield 42, 3) := by decide +kernel
theorem dX6_init_73 : decode cX6_init 73 = .ok (.aload_n 0, 1) := by decide +kernel
theorem dX6_init_74 : decode cX6_init 74 = .ok (.new 46, 3) := by decide +kernel
theorem dX6_init_77 : decode cX6_init 77 = .ok (.dup, 1) := by decide +kernel
theorem dX6_init_78 : decode cX6_init 78 = .ok (.aload_n 0, 1) := by decide +kernel
theorem dX6_init_79 : decode cX6_init 79 = .ok (.getfield 24, 3) := by decide +kernel
theorem dX6_init_82 : decode cX6_init 82 = .ok (.invokespecial 48, 3) := by decide +kernel
theorem dX6_init_85 : decode cX6_init 85 = .ok (.putfield 49, 3) := by decide +kernel
theorem dX6_init_88 : decode cX6_init 88 = .ok (.aload_n 0, 1) := by decide +kernel
theorem dX6_init_89 : decode cX6_init 89 = .ok (.new 53, 3) := by decide +kernel
theorem dX6_init_92 : decode cX6_init 92 = .ok (.dup, 1) := by decide +kernel
theorem dX6_init_93 : decode cX6_init 93 = .ok (.aload_n 0, 1) := by decide +kernel
theorem dX6_init_94 : decode cX6_init 94 = .ok (.getfield 14, 3) := by decide +kernel
theorem dX6_init_97 : decode cX6_init 97 = .ok (.aload_n 0, 1) := by decide +kernel
theorem dX6_init_98 : decode cX6_init 98 = .ok (.getfield 49, 3) := by decide +kernel
theorem dX6_init_101 : decode cX6_init 101 = .ok (.invokespecial 55, 3) := by decide +kernel
theorem dX6_init_104 : decode cX6_init 104 = .ok (.putfield 58, 3) := by decide +kernel
theorem dX6_init_107 : decode cX6_init 107 = .ok (.aload_n 0, 1) := by decide +kernel
theorem dX6_init_108 : decode cX6_init 108 = .ok (.iconst (-1), 1) := by decide +kernel
theorem dX6_init_109 : decode cX6_init 109 = .ok (.putfield 62, 3) := by decide +kernel
theorem dX6_init_112 : decode cX6_init 112 = .ok (.aload_n 0, 1) := by decide +kernel
theorem dX6_init_113 : decode cX6_init 113 = .ok (.iconst 0, 1) := by decide +kernel
theorem dX6_init_114 : decode cX6_init 114 = .ok (.putfield 66, 3) := by decide +kernel
theorem dX6_init_117 : decode cX6_init 117 = .ok (.aload_n 0, 1) := by decide +kernel
theorem dX6_init_118 : decode cX6_init 118 = .ok (.iconst 0, 1) := by decide +kernel
theorem dX6_init_119 : decode cX6_init 119 = .ok (.putfield 69, 3) := by decide +kernel
theorem dX6_init_122 : decode cX6_init 122 = .ok (.aload_n 0, 1) := by decide +kernel
theorem dX6_init_123 : decode cX6_init 123 = .ok (.iconst 0, 1) := by decide +kernel
theorem dX6_init_124 : decode cX6_init 124 = .ok (.putfield 72, 3) := by decide +kernel
theorem dX6_init_127 : decode cX6_init 127 = .ok (.return_, 1) := by decide +kernel
set_option maxRecDepth 20000 in
theorem ggX6_setSize_X6_needSample : GoodIn wsX6_setSize wsX6_needSample := goodIn_ca (goodIn_r _ [5, 6, 7, 4, 8, 9, 10] (by decide +kernel) (by decide +kernel)) (goodIn_sub (fun _ h => List.mem_cons_of_mem _ (List.mem_append_left _ (List.mem_append_left _ (List.mem_append_right _ h)))) (by decide +kernel))
set_option maxRecDepth 20000 in
theorem gX6_setSize_X6_needSample : GoodIn wsX6_setSize (va_wsS RX6 75 yX6_needSample wsX6_needSample) := goodIn_app (goodIn_of _ (by decide +kernel)) ggX6_setSize_X6_needSample
set_option maxRecDepth 20000 in
theorem ggX6_setSize_X6_needRange : GoodIn wsX6_setSize wsX6_needRange := goodIn_ca (goodIn_r _ [13, 14, 15] (by decide +kernel) (by decide +kernel)) (goodIn_sub (fun _ h => List.mem_cons_of_mem _ (List.mem_append_left _ (List.mem_append_right _ h))) (by decide +kernel))
set_option maxRecDepth 20000 in
theorem gX6_setSize_X6_needRange : GoodIn wsX6_setSize (va_wsS RX6 79 yX6_needRange wsX6_needRange) := goodIn_app (goodIn_of _ (by decide +kernel)) ggX6_setSize_X6_needRange
set_option maxRecDepth 20000 in
theorem ggX6_setSize_X6_needNotPlayed : GoodIn wsX6_setSize wsX6_needNotPlayed := goodIn_ca (goodIn_r _ [19, 20, 21, 22, 23, 24, 25, 26, 27, 28, 35, 36, 37, 38, 39, 40, 41, 42, 43, 44, 45, 46, 47, 48, 49, 50, 51, 52] (by decide +kernel) (by decide +kernel)) (goodIn_sub (fun _ h => List.mem_cons_of_mem _ (List.mem_append_right _ h)) (by decide +kernel))
set_option maxRecDepth 20000 in
theorem gX6_setSize_X6_needNotPlayed : GoodIn wsX6_setSize (wsV RX6 83 RX6 yX6_needNotPlayed wsX6_needNotPlayed) := goodIn_app (goodIn_of _ (by decide +kernel)) ggX6_setSize_X6_needNotPlayed
set_option maxRecDepth 20000 in
theorem ggX6_setSize_X3_replace : GoodIn wsX6_setSize wsX3_replace := goodIn_r _ [33, 34, 53] (by decide +kernel) (by decide +kernel)
set_option maxRecDepth 20000 in
theorem gX6_setSize_X3_replace : GoodIn wsX6_setSize (wsV RX6 86 RX3 yX3_replace wsX3_replace) := goodIn_app (goodIn_of _ (by decide +kernel)) ggX6_setSize_X3_replace
theorem dX6_setSize_0 : decode cX6_setSize 0 = .ok (.iload_n 1, 1) := by decide +kernel
theorem dX6_setSize_1 : decode cX6_setSize 1 = .ok (.invokestatic 75, 3) := by decide +kernel
theorem dX6_setSize_4 : decode cX6_setSize 4 = .ok (.iload_n 2, 1) := by decide +kernel
theorem dX6_setSize_5 : decode cX6_setSize 5 = .ok (.iconst 1, 1) := by decide +kernel
theorem dX6_setSize_6 : decode cX6_setSize 6 = .ok (.bipush 6, 2) := by decide +kernel
theorem dX6_setSize_8 : decode cX6_setSize 8 = .ok (.invokestatic 79, 3) := by decide +kernel
theorem dX6_setSize_11 : decode cX6_setSize 11 = .ok (.aload_n 0, 1) := by decide +kernel
theorem dX6_setSize_12 : decode cX6_setSize 12 = .ok (.invokevirtual 83, 3) := by decide +kernel
theorem dX6_setSize_15 : decode cX6_setSize 15 = .ok (.aload_n 0, 1) := by decide +kernel
theorem dX6_setSize_16 : decode cX6_setSize 16 = .ok (.getfield 14, 3) := by decide +kernel
theorem dX6_setSize_19 : decode cX6_setSize 19 = .ok (.iload_n 1, 1) := by decide +kernel
theorem dX6_setSize_20 : decode cX6_setSize 20 = .ok (.iload_n 2, 1) := by decide +kernel
theorem dX6_setSize_21 : decode cX6_setSize 21 = .ok (.invokevirtual 86, 3) := by decide +kernel
theorem dX6_setSize_24 : decode cX6_setSize 24 = .ok (.ireturn, 1) := by decide +kernel
set_option maxRecDepth 20000 in
theorem ggX6_tune_X6_needSample : GoodIn wsX6_tune wsX6_needSample := goodIn_ca (goodIn_r _ [5, 6, 7, 4, 8, 9, 10] (by decide +kernel) (by decide +kernel)) (goodIn_sub (fun _ h => List.mem_cons_of_mem _ (List.mem_append_left _ (List.mem_append_right _ h))) (by decide +kernel))
set_option maxRecDepth 20000 in
theorem gX6_tune_X6_needSample : GoodIn wsX6_tune (va_wsS RX6 75 yX6_needSample wsX6_needSample) := goodIn_app (goodIn_of _ (by decide +kernel)) ggX6_tune_X6_needSample
set_option maxRecDepth 20000 in
theorem ggX6_tune_X6_needRange : GoodIn wsX6_tune wsX6_needRange := goodIn_ca (goodIn_r _ [13, 14, 15] (by decide +kernel) (by decide +kernel)) (goodIn_sub (fun _ h => List.mem_cons_of_mem _ (List.mem_append_right _ h)) (by decide +kernel))
set_option maxRecDepth 20000 in
theorem gX6_tune_X6_needRange : GoodIn wsX6_tune (va_wsS RX6 79 yX6_needRange wsX6_needRange) := goodIn_app (goodIn_of _ (by decide +kernel)) ggX6_tune_X6_needRange
set_option maxRecDepth 20000 in
theorem ggX6_tune_X3_replace : GoodIn wsX6_tune wsX3_replace := goodIn_r _ [20, 21, 33] (by decide +kernel) (by decide +kernel)
set_option maxRecDepth 20000 in
theorem gX6_tune_X3_replace : GoodIn wsX6_tune (wsV RX6 86 RX3 yX3_replace wsX3_replace) := goodIn_app (goodIn_of _ (by decide +kernel)) ggX6_tune_X3_replace
theorem dX6_tune_0 : decode cX6_tune 0 = .ok (.iload_n 1, 1) := by decide +kernel
theorem dX6_tune_1 : decode cX6_tune 1 = .ok (.invokestatic 75, 3) := by decide +kernel
theorem dX6_tune_4 : decode cX6_tune 4 = .ok (.iload_n 2, 1) := by decide +kernel
theorem dX6_tune_5 : decode cX6_tune 5 = .ok (.bipush (-12), 2) := by decide +kernel
theorem dX6_tune_7 : decode cX6_tune 7 = .ok (.bipush 12, 2) := by decide +kernel
theorem dX6_tune_9 : decode cX6_tune 9 = .ok (.invokestatic 79, 3) := by decide +kernel
theorem dX6_tune_12 : decode cX6_tune 12 = .ok (.aload_n 0, 1) := by decide +kernel
theorem dX6_tune_13 : decode cX6_tune 13 = .ok (.getfield 18, 3) := by decide +kernel
theorem dX6_tune_16 : decode cX6_tune 16 = .ok (.iload_n 1, 1) := by decide +kernel
theorem dX6_tune_17 : decode cX6_tune 17 = .ok (.iload_n 2, 1) := by decide +kernel
theorem dX6_tune_18 : decode cX6_tune 18 = .ok (.invokevirtual 86, 3) := by decide +kernel
theorem dX6_tune_21 : decode cX6_tune 21 = .ok (.ireturn, 1) := by decide +kernel
set_option maxRecDepth 20000 in
theorem ggX6_setStep_X6_needPattern : GoodIn wsX6_setStep wsX6_needPattern := goodIn_ca (goodIn_r _ [5, 6, 7, 4, 8, 9, 10] (by decide +kernel) (by decide +kernel)) (goodIn_sub (fun _ h => List.mem_cons_of_mem _ (List.mem_append_left _ (List.mem_append_right _ h))) (by decide +kernel))
set_option maxRecDepth 20000 in
theorem gX6_setStep_X6_needPattern : GoodIn wsX6_setStep (va_wsS RX6 90 yX6_needPattern wsX6_needPattern) := goodIn_app (goodIn_of _ (by decide +kernel)) ggX6_setStep_X6_needPattern
set_option maxRecDepth 20000 in
theorem ggX6_setStep_X6_needIndex : GoodIn wsX6_setStep wsX6_needIndex := goodIn_ca (goodIn_r _ [8, 9, 10] (by decide +kernel) (by decide +kernel)) (goodIn_sub (fun _ h => List.mem_cons_of_mem _ (List.mem_append_left _ (List.mem_append_right _ h))) (by decide +kernel))
set_option maxRecDepth 20000 in
theorem gX6_setStep_X6_needIndex : GoodIn wsX6_setStep (va_wsS RX6 93 yX6_needIndex wsX6_needIndex) := goodIn_app (goodIn_of _ (by decide +kernel)) ggX6_setStep_X6_needIndex
set_option maxRecDepth 20000 in
theorem ggX6_setStep_X6_needNotPlayed : GoodIn wsX6_setStep wsX6_needNotPlayed := goodIn_ca (goodIn_r _ [14, 15, 16, 17, 18, 19, 20, 21, 22, 23, 39, 40, 41, 42, 43, 44, 45, 46, 47, 48, 49, 50, 51, 52, 53, 54, 55, 56] (by decide +kernel) (by decide +kernel)) (goodIn_sub (fun _ h => List.mem_cons_of_mem _ (List.mem_append_right _ h)) (by decide +kernel))
set_option maxRecDepth 20000 in
theorem gX6_setStep_X6_needNotPlayed : GoodIn wsX6_setStep (wsV RX6 83 RX6 yX6_needNotPlayed wsX6_needNotPlayed) := goodIn_app (goodIn_of _ (by decide +kernel)) ggX6_setStep_X6_needNotPlayed
set_option maxRecDepth 20000 in
theorem ggX6_setStep_X2_replaceStep : GoodIn wsX6_setStep wsX2_replaceStep := goodIn_r _ [28, 29, 30, 31, 27, 32, 33, 34, 35, 36, 37, 38, 57, 58, 59, 60, 61, 62, 63] (by decide +kernel) (by decide +kernel)
set_option maxRecDepth 20000 in
theorem gX6_setStep_X2_replaceStep : GoodIn wsX6_setStep (wsV RX6 96 RX2 yX2_replaceStep wsX2_replaceStep) := goodIn_app (goodIn_of _ (by decide +kernel)) ggX6_setStep_X2_replaceStep
theorem dX6_setStep_0 : decode cX6_setStep 0 = .ok (.iload_n 1, 1) := by decide +kernel
theorem dX6_setStep_1 : decode cX6_setStep 1 = .ok (.invokestatic 90, 3) := by decide +kernel
theorem dX6_setStep_4 : decode cX6_setStep 4 = .ok (.iload_n 2, 1) := by decide +kernel
theorem dX6_setStep_5 : decode cX6_setStep 5 = .ok (.iconst 0, 1) := by decide +kernel
theorem dX6_setStep_6 : decode cX6_setStep 6 = .ok (.iconst 3, 1) := by decide +kernel
theorem dX6_setStep_7 : decode cX6_setStep 7 = .ok (.invokestatic 93, 3) := by decide +kernel
theorem dX6_setStep_10 : decode cX6_setStep 10 = .ok (.iload_n 3, 1) := by decide +kernel
theorem dX6_setStep_11 : decode cX6_setStep 11 = .ok (.iconst 0, 1) := by decide +kernel
theorem dX6_setStep_12 : decode cX6_setStep 12 = .ok (.bipush 15, 2) := by decide +kernel
theorem dX6_setStep_14 : decode cX6_setStep 14 = .ok (.invokestatic 93, 3) := by decide +kernel
theorem dX6_setStep_17 : decode cX6_setStep 17 = .ok (.iload 4, 2) := by decide +kernel
theorem dX6_setStep_19 : decode cX6_setStep 19 = .ok (.iconst (-1), 1) := by decide +kernel
theorem dX6_setStep_20 : decode cX6_setStep 20 = .ok (.bipush 7, 2) := by decide +kernel
theorem dX6_setStep_22 : decode cX6_setStep 22 = .ok (.invokestatic 93, 3) := by decide +kernel
theorem dX6_setStep_25 : decode cX6_setStep 25 = .ok (.aload_n 0, 1) := by decide +kernel
theorem dX6_setStep_26 : decode cX6_setStep 26 = .ok (.invokevirtual 83, 3) := by decide +kernel
theorem dX6_setStep_29 : decode cX6_setStep 29 = .ok (.aload_n 0, 1) := by decide +kernel
theorem dX6_setStep_30 : decode cX6_setStep 30 = .ok (.getfield 24, 3) := by decide +kernel
theorem dX6_setStep_33 : decode cX6_setStep 33 = .ok (.iload_n 1, 1) := by decide +kernel
theorem dX6_setStep_34 : decode cX6_setStep 34 = .ok (.iload_n 2, 1) := by decide +kernel
theorem dX6_setStep_35 : decode cX6_setStep 35 = .ok (.iload_n 3, 1) := by decide +kernel
theorem dX6_setStep_36 : decode cX6_setStep 36 = .ok (.iload 4, 2) := by decide +kernel
theorem dX6_setStep_38 : decode cX6_setStep 38 = .ok (.invokevirtual 96, 3) := by decide +kernel
theorem dX6_setStep_41 : decode cX6_setStep 41 = .ok (.ireturn, 1) := by decide +kernel
set_option maxRecDepth 20000 in
theorem ggX6_setFill_X6_needPattern : GoodIn wsX6_setFill wsX6_needPattern := goodIn_ca (goodIn_r _ [5, 6, 7, 4, 8, 9, 10] (by decide +kernel) (by decide +kernel)) (goodIn_sub (fun _ h => List.mem_cons_of_mem _ (List.mem_append_left _ (List.mem_append_right _ h))) (by decide +kernel))
set_option maxRecDepth 20000 in
theorem gX6_setFill_X6_needPattern : GoodIn wsX6_setFill (va_wsS RX6 90 yX6_needPattern wsX6_needPattern) := goodIn_app (goodIn_of _ (by decide +kernel)) ggX6_setFill_X6_needPattern
set_option maxRecDepth 20000 in
theorem ggX6_setFill_X6_needIndex : GoodIn wsX6_setFill wsX6_needIndex := goodIn_ca (goodIn_r _ [8, 9, 10] (by decide +kernel) (by decide +kernel)) (goodIn_sub (fun _ h => List.mem_cons_of_mem _ (List.mem_append_left _ (List.mem_append_right _ h))) (by decide +kernel))
set_option maxRecDepth 20000 in
theorem gX6_setFill_X6_needIndex : GoodIn wsX6_setFill (va_wsS RX6 93 yX6_needIndex wsX6_needIndex) := goodIn_app (goodIn_of _ (by decide +kernel)) ggX6_setFill_X6_needIndex
set_option maxRecDepth 20000 in
theorem ggX6_setFill_X6_needNotPlayed : GoodIn wsX6_setFill wsX6_needNotPlayed := goodIn_ca (goodIn_r _ [14, 15, 16, 17, 18, 19, 20, 21, 22, 23, 39, 40, 41, 42, 43, 44, 45, 46, 47, 48, 49, 50, 51, 52, 53, 54, 55, 56] (by decide +kernel) (by decide +kernel)) (goodIn_sub (fun _ h => List.mem_cons_of_mem _ (List.mem_append_right _ h)) (by decide +kernel))
set_option maxRecDepth 20000 in
theorem gX6_setFill_X6_needNotPlayed : GoodIn wsX6_setFill (wsV RX6 83 RX6 yX6_needNotPlayed wsX6_needNotPlayed) := goodIn_app (goodIn_of _ (by decide +kernel)) ggX6_setFill_X6_needNotPlayed
set_option maxRecDepth 20000 in
theorem ggX6_setFill_X2_replaceFill : GoodIn wsX6_setFill wsX2_replaceFill := goodIn_r _ [28, 29, 30, 31, 27, 32, 33, 34, 35, 36, 37, 38, 57, 58, 59, 60, 61, 62, 63] (by decide +kernel) (by decide +kernel)
set_option maxRecDepth 20000 in
theorem gX6_setFill_X2_replaceFill : GoodIn wsX6_setFill (wsV RX6 100 RX2 yX2_replaceFill wsX2_replaceFill) := goodIn_app (goodIn_of _ (by decide +kernel)) ggX6_setFill_X2_replaceFill
theorem dX6_setFill_0 : decode cX6_setFill 0 = .ok (.iload_n 1, 1) := by decide +kernel
theorem dX6_setFill_1 : decode cX6_setFill 1 = .ok (.invokestatic 90, 3) := by decide +kernel
theorem dX6_setFill_4 : decode cX6_setFill 4 = .ok (.iload_n 2, 1) := by decide +kernel
theorem dX6_setFill_5 : decode cX6_setFill 5 = .ok (.iconst 0, 1) := by decide +kernel
theorem dX6_setFill_6 : decode cX6_setFill 6 = .ok (.iconst 3, 1) := by decide +kernel
theorem dX6_setFill_7 : decode cX6_setFill 7 = .ok (.invokestatic 93, 3) := by decide +kernel
theorem dX6_setFill_10 : decode cX6_setFill 10 = .ok (.iload_n 3, 1) := by decide +kernel
theorem dX6_setFill_11 : decode cX6_setFill 11 = .ok (.bipush 12, 2) := by decide +kernel
theorem dX6_setFill_13 : decode cX6_setFill 13 = .ok (.bipush 15, 2) := by decide +kernel
theorem dX6_setFill_15 : decode cX6_setFill 15 = .ok (.invokestatic 93, 3) := by decide +kernel
theorem dX6_setFill_18 : decode cX6_setFill 18 = .ok (.iload 4, 2) := by decide +kernel
theorem dX6_setFill_20 : decode cX6_setFill 20 = .ok (.iconst (-1), 1) := by decide +kernel
theorem dX6_setFill_21 : decode cX6_setFill 21 = .ok (.bipush 7, 2) := by decide +kernel
theorem dX6_setFill_23 : decode cX6_setFill 23 = .ok (.invokestatic 93, 3) := by decide +kernel
theorem dX6_setFill_26 : decode cX6_setFill 26 = .ok (.aload_n 0, 1) := by decide +kernel
theorem dX6_setFill_27 : decode cX6_setFill 27 = .ok (.invokevirtual 83, 3) := by decide +kernel
theorem dX6_setFill_30 : decode cX6_setFill 30 = .ok (.aload_n 0, 1) := by decide +kernel
theorem dX6_setFill_31 : decode cX6_setFill 31 = .ok (.getfield 24, 3) := by decide +kernel
theorem dX6_setFill_34 : decode cX6_setFill 34 = .ok (.iload_n 1, 1) := by decide +kernel
theorem dX6_setFill_35 : decode cX6_setFill 35 = .ok (.iload_n 2, 1) := by decide +kernel
theorem dX6_setFill_36 : decode cX6_setFill 36 = .ok (.iload_n 3, 1) := by decide +kernel
theorem dX6_setFill_37 : decode cX6_setFill 37 = .ok (.iload 4, 2) := by decide +kernel
theorem dX6_setFill_39 : decode cX6_setFill 39 = .ok (.invokevirtual 100, 3) := by decide +kernel
theorem dX6_setFill_42 : decode cX6_setFill 42 = .ok (.ireturn, 1) := by decide +kernel
set_option maxRecDepth 20000 in
theorem ggX6_setFeel_X6_needPattern : GoodIn wsX6_setFeel wsX6_needPattern := goodIn_ca (goodIn_r _ [5, 6, 7, 4, 8, 9, 10] (by decide +kernel) (by decide +kernel)) (goodIn_sub (fun _ h => List.mem_cons_of_mem _ (List.mem_append_left _ (List.mem_append_left _ (List.mem_append_right _ h)))) (by decide +kernel))
set_option maxRecDepth 20000 in
theorem gX6_setFeel_X6_needPattern : GoodIn wsX6_setFeel (va_wsS RX6 90 yX6_needPattern wsX6_needPattern) := goodIn_app (goodIn_of _ (by decide +kernel)) ggX6_setFeel_X6_needPattern
set_option maxRecDepth 20000 in
theorem ggX6_setFeel_X6_needRange : GoodIn wsX6_setFeel wsX6_needRange := goodIn_ca (goodIn_r _ [13, 14, 15] (by decide +kernel) (by decide +kernel)) (goodIn_sub (fun _ h => List.mem_cons_of_mem _ (List.mem_append_left _ (List.mem_append_right _ h))) (by decide +kernel))
set_option maxRecDepth 20000 in
theorem gX6_setFeel_X6_needRange : GoodIn wsX6_setFeel (va_wsS RX6 79 yX6_needRange wsX6_needRange) := goodIn_app (goodIn_of _ (by decide +kernel)) ggX6_setFeel_X6_needRange
set_option maxRecDepth 20000 in
theorem ggX6_setFeel_X6_needNotPlayed : GoodIn wsX6_setFeel wsX6_needNotPlayed := goodIn_ca (goodIn_r _ [19, 20, 21, 22, 23, 24, 25, 26, 27, 28, 42, 43, 44, 45, 46, 47, 48, 49, 50, 51, 52, 53, 54, 55, 56, 57, 58, 59] (by decide +kernel) (by decide +kernel)) (goodIn_sub (fun _ h => List.mem_cons_of_mem _ (List.mem_append_right _ h)) (by decide +kernel))
set_option maxRecDepth 20000 in
theorem gX6_setFeel_X6_needNotPlayed : GoodIn wsX6_setFeel (wsV RX6 83 RX6 yX6_needNotPlayed wsX6_needNotPlayed) := goodIn_app (goodIn_of _ (by decide +kernel)) ggX6_setFeel_X6_needNotPlayed
set_option maxRecDepth 20000 in
theorem ggX6_setFeel_X2_replaceFeel : GoodIn wsX6_setFeel wsX2_replaceFeel := goodIn_r _ [33, 34, 35, 36, 37, 38, 39, 40, 41, 60, 61, 62, 63, 64, 65, 66] (by decide +kernel) (by decide +kernel)
set_option maxRecDepth 20000 in
theorem gX6_setFeel_X2_replaceFeel : GoodIn wsX6_setFeel (wsV RX6 103 RX2 yX2_replaceFeel wsX2_replaceFeel) := goodIn_app (goodIn_of _ (by decide +kernel)) ggX6_setFeel_X2_replaceFeel
theorem dX6_setFeel_0 : decode cX6_setFeel 0 = .ok (.iload_n 1, 1) := by decide +kernel
theorem dX6_setFeel_1 : decode cX6_setFeel 1 = .ok (.invokestatic 90, 3) := by decide +kernel
theorem dX6_setFeel_4 : decode cX6_setFeel 4 = .ok (.iload_n 2, 1) := by decide +kernel
theorem dX6_setFeel_5 : decode cX6_setFeel 5 = .ok (.iconst 0, 1) := by decide +kernel
theorem dX6_setFeel_6 : decode cX6_setFeel 6 = .ok (.bipush 6, 2) := by decide +kernel
theorem dX6_setFeel_8 : decode cX6_setFeel 8 = .ok (.invokestatic 79, 3) := by decide +kernel
theorem dX6_setFeel_11 : decode cX6_setFeel 11 = .ok (.iload_n 3, 1) := by decide +kernel
theorem dX6_setFeel_12 : decode cX6_setFeel 12 = .ok (.ifCond .eq 10, 3) := by decide +kernel
theorem dX6_setFeel_15 : decode cX6_setFeel 15 = .ok (.iload_n 3, 1) := by decide +kernel
theorem dX6_setFeel_16 : decode cX6_setFeel 16 = .ok (.iconst 2, 1) := by decide +kernel
theorem dX6_setFeel_17 : decode cX6_setFeel 17 = .ok (.bipush 8, 2) := by decide +kernel
theorem dX6_setFeel_19 : decode cX6_setFeel 19 = .ok (.invokestatic 79, 3) := by decide +kernel
theorem dX6_setFeel_22 : decode cX6_setFeel 22 = .ok (.aload_n 0, 1) := by decide +kernel
theorem dX6_setFeel_23 : decode cX6_setFeel 23 = .ok (.invokevirtual 83, 3) := by decide +kernel
theorem dX6_setFeel_26 : decode cX6_setFeel 26 = .ok (.aload_n 0, 1) := by decide +kernel
theorem dX6_setFeel_27 : decode cX6_setFeel 27 = .ok (.getfield 24, 3) := by decide +kernel
theorem dX6_setFeel_30 : decode cX6_setFeel 30 = .ok (.iload_n 1, 1) := by decide +kernel
theorem dX6_setFeel_31 : decode cX6_setFeel 31 = .ok (.iload_n 2, 1) := by decide +kernel
theorem dX6_setFeel_32 : decode cX6_setFeel 32 = .ok (.iload_n 3, 1) := by decide +kernel
theorem dX6_setFeel_33 : decode cX6_setFeel 33 = .ok (.invokevirtual 103, 3) := by decide +kernel
theorem dX6_setFeel_36 : decode cX6_setFeel 36 = .ok (.ireturn, 1) := by decide +kernel
set_option maxRecDepth 20000 in
theorem ggX6_freeze_X6_needPattern : GoodIn wsX6_freeze wsX6_needPattern := goodIn_ca (goodIn_r _ [6, 7, 8, 5, 9, 10, 11] (by decide +kernel) (by decide +kernel)) (goodIn_sub (fun _ h => List.mem_cons_of_mem _ (List.mem_append_right _ h)) (by decide +kernel))
set_option maxRecDepth 20000 in
theorem gX6_freeze_X6_needPattern : GoodIn wsX6_freeze (va_wsS RX6 90 yX6_needPattern wsX6_needPattern) := goodIn_app (goodIn_of _ (by decide +kernel)) ggX6_freeze_X6_needPattern
set_option maxRecDepth 20000 in
theorem ggX6_freeze_X2_replaceFrozen : GoodIn wsX6_freeze wsX2_replaceFrozen := goodIn_r _ [16, 17, 18, 19, 20, 21, 22, 23, 24, 25, 26, 27, 28, 40, 41, 42, 43, 44, 45, 46] (by decide +kernel) (by decide +kernel)
set_option maxRecDepth 20000 in
theorem gX6_freeze_X2_replaceFrozen : GoodIn wsX6_freeze (wsV RX6 107 RX2 yX2_replaceFrozen wsX2_replaceFrozen) := goodIn_app (goodIn_of _ (by decide +kernel)) ggX6_freeze_X2_replaceFrozen
theorem dX6_freeze_0 : decode cX6_freeze 0 = .ok (.iload_n 1, 1) := by decide +kernel
theorem dX6_freeze_1 : decode cX6_freeze 1 = .ok (.invokestatic 90, 3) := by decide +kernel
theorem dX6_freeze_4 : decode cX6_freeze 4 = .ok (.aload_n 0, 1) := by decide +kernel
theorem dX6_freeze_5 : decode cX6_freeze 5 = .ok (.getfield 24, 3) := by decide +kernel
theorem dX6_freeze_8 : decode cX6_freeze 8 = .ok (.iload_n 1, 1) := by decide +kernel
theorem dX6_freeze_9 : decode cX6_freeze 9 = .ok (.iload_n 2, 1) := by decide +kernel
theorem dX6_freeze_10 : decode cX6_freeze 10 = .ok (.aload_n 0, 1) := by decide +kernel
theorem dX6_freeze_11 : decode cX6_freeze 11 = .ok (.getfield 18, 3) := by decide +kernel
theorem dX6_freeze_14 : decode cX6_freeze 14 = .ok (.invokevirtual 107, 3) := by decide +kernel
theorem dX6_freeze_17 : decode cX6_freeze 17 = .ok (.ireturn, 1) := by decide +kernel
set_option maxRecDepth 20000 in
theorem ggX6_addEntry_X6_needSong : GoodIn wsX6_addEntry wsX6_needSong := goodIn_ca (goodIn_r _ [7, 8, 9, 6, 10, 11, 12] (by decide +kernel) (by decide +kernel)) (goodIn_sub (fun _ h => List.mem_cons_of_mem _ (List.mem_append_left _ (List.mem_append_right _ h))) (by decide +kernel))
set_option maxRecDepth 20000 in
theorem gX6_addEntry_X6_needSong : GoodIn wsX6_addEntry (va_wsS RX6 111 yX6_needSong wsX6_needSong) := goodIn_app (goodIn_of _ (by decide +kernel)) ggX6_addEntry_X6_needSong
set_option maxRecDepth 20000 in
theorem ggX6_addEntry_X6_needPattern : GoodIn wsX6_addEntry wsX6_needPattern := goodIn_ca (goodIn_r _ [15, 8, 9, 6, 10, 11, 12] (by decide +kernel) (by decide +kernel)) (goodIn_sub (fun _ h => List.mem_cons_of_mem _ (List.mem_append_left _ (List.mem_append_right _ h))) (by decide +kernel))
set_option maxRecDepth 20000 in
theorem gX6_addEntry_X6_needPattern : GoodIn wsX6_addEntry (va_wsS RX6 90 yX6_needPattern wsX6_needPattern) := goodIn_app (goodIn_of _ (by decide +kernel)) ggX6_addEntry_X6_needPattern
set_option maxRecDepth 20000 in
theorem ggX6_addEntry_X6_needRange : GoodIn wsX6_addEntry wsX6_needRange := goodIn_ca (goodIn_r _ [18, 19, 20] (by decide +kernel) (by decide +kernel)) (goodIn_sub (fun _ h => List.mem_cons_of_mem _ (List.mem_append_right _ h)) (by decide +kernel))
set_option maxRecDepth 20000 in
theorem gX6_addEntry_X6_needRange : GoodIn wsX6_addEntry (va_wsS RX6 79 yX6_needRange wsX6_needRange) := goodIn_app (goodIn_of _ (by decide +kernel)) ggX6_addEntry_X6_needRange
set_option maxRecDepth 20000 in
theorem ggX6_addEntry_X6_needNotPlayed : GoodIn wsX6_addEntry wsX6_needNotPlayed := goodIn_ca (goodIn_r _ [24, 1, 2, 25, 26, 27, 28, 29, 30, 31, 81, 82, 83, 84, 85, 86, 87, 88, 89, 90, 91, 92, 93, 94, 95, 96, 97, 98] (by decide +kernel) (by decide +kernel)) (goodIn_sub (fun _ h => List.mem_cons_of_mem _ (List.mem_append_left _ (List.mem_append_left _ (List.mem_append_right _ h)))) (by decide +kernel))
set_option maxRecDepth 20000 in
theorem gX6_addEntry_X6_needNotPlayed : GoodIn wsX6_addEntry (wsV RX6 83 RX6 yX6_needNotPlayed wsX6_needNotPlayed) := goodIn_app (goodIn_of _ (by decide +kernel)) ggX6_addEntry_X6_needNotPlayed
set_option maxRecDepth 20000 in
theorem ggX6_addEntry_X5_countEntries : GoodIn wsX6_addEntry wsX5_countEntries := goodIn_r _ [36, 37, 38, 39, 40, 41, 42, 43, 99, 100, 101, 102, 103, 104, 105, 106, 107, 108, 109, 110] (by decide +kernel) (by decide +kernel)
set_option maxRecDepth 20000 in
theorem gX6_addEntry_X5_countEntries : GoodIn wsX6_addEntry (wsV RX6 114 RX5 yX5_countEntries wsX5_countEntries) := goodIn_app (goodIn_of _ (by decide +kernel)) ggX6_addEntry_X5_countEntries
set_option maxRecDepth 20000 in
theorem ggX6_addEntry_X5_append : GoodIn wsX6_addEntry wsX5_append := goodIn_r _ [47, 37, 48, 49, 38, 39, 40, 41, 42, 43, 50, 51, 52, 53, 54, 55, 56, 35, 57, 58, 59, 60, 61, 62, 63, 64, 65, 66, 67, 68, 69, 70, 71, 72, 73, 74, 75, 76, 77, 78, 79, 80, 99, 100, 101, 102, 103, 104, 105, 106, 107, 108, 109, 110] (by decide +kernel) (by decide +kernel)
set_option maxRecDepth 20000 in
theorem gX6_addEntry_X5_append : GoodIn wsX6_addEntry (wsV RX6 125 RX5 yX5_append wsX5_append) := goodIn_app (goodIn_of _ (by decide +kernel)) ggX6_addEntry_X5_append
theorem dX6_addEntry_0 : decode cX6_addEntry 0 = .ok (.iload_n 1, 1) := by decide +kernel
theorem dX6_addEntry_1 : decode cX6_addEntry 1 = .ok (.invokestatic 111, 3) := by decide +kernel
theorem dX6_addEntry_4 : decode cX6_addEntry 4 = .ok (.iload_n 2, 1) := by decide +kernel
theorem dX6_addEntry_5 : decode cX6_addEntry 5 = .ok (.invokestatic 90, 3) := by decide +kernel
theorem dX6_addEntry_8 : decode cX6_addEntry 8 = .ok (.iload_n 3, 1) := by decide +kernel
theorem dX6_addEntry_9 : decode cX6_addEntry 9 = .ok (.iconst 1, 1) := by decide +kernel
theorem dX6_addEntry_10 : decode cX6_addEntry 10 = .ok (.iconst 4, 1) := by decide +kernel
theorem dX6_addEntry_11 : decode cX6_addEntry 11 = .ok (.invokestatic 79, 3) := by decide +kernel
theorem dX6_addEntry_14 : decode cX6_addEntry 14 = .ok (.aload_n 0, 1) := by decide +kernel
theorem dX6_addEntry_15 : decode cX6_addEntry 15 = .ok (.invokevirtual 83, 3) := by decide +kernel
theorem dX6_addEntry_18 : decode cX6_addEntry 18 = .ok (.aload_n 0, 1) := by decide +kernel
theorem dX6_addEntry_19 : decode cX6_addEntry 19 = .ok (.getfield 33, 3) := by decide +kernel
theorem dX6_addEntry_22 : decode cX6_addEntry 22 = .ok (.iload_n 1, 1) := by decide +kernel
theorem dX6_addEntry_23 : decode cX6_addEntry 23 = .ok (.invokevirtual 114, 3) := by decide +kernel
theorem dX6_addEntry_26 : decode cX6_addEntry 26 = .ok (.bipush 8, 2) := by decide +kernel
theorem dX6_addEntry_28 : decode cX6_addEntry 28 = .ok (.if_icmp .lt 13, 3) := by decide +kernel
theorem dX6_addEntry_31 : decode cX6_addEntry 31 = .ok (.new 118, 3) := by decide +kernel
theorem dX6_addEntry_34 : decode cX6_addEntry 34 = .ok (.dup, 1) := by decide +kernel
theorem dX6_addEntry_35 : decode cX6_addEntry 35 = .ok (.ldc 120, 2) := by decide +kernel
theorem dX6_addEntry_37 : decode cX6_addEntry 37 = .ok (.invokespecial 122, 3) := by decide +kernel
theorem dX6_addEntry_40 : decode cX6_addEntry 40 = .ok (.athrow, 1) := by decide +kernel
theorem dX6_addEntry_41 : decode cX6_addEntry 41 = .ok (.aload_n 0, 1) := by decide +kernel
theorem dX6_addEntry_42 : decode cX6_addEntry 42 = .ok (.getfield 33, 3) := by decide +kernel
theorem dX6_addEntry_45 : decode cX6_addEntry 45 = .ok (.iload_n 1, 1) := by decide +kernel
theorem dX6_addEntry_46 : decode cX6_addEntry 46 = .ok (.iload_n 2, 1) := by decide +kernel
theorem dX6_addEntry_47 : decode cX6_addEntry 47 = .ok (.iload_n 3, 1) := by decide +kernel
theorem dX6_addEntry_48 : decode cX6_addEntry 48 = .ok (.invokevirtual 125, 3) := by decide +kernel
theorem dX6_addEntry_51 : decode cX6_addEntry 51 = .ok (.ireturn, 1) := by decide +kernel
set_option maxRecDepth 20000 in
theorem ggX6_jump_X6_needSong : GoodIn wsX6_jump wsX6_needSong := goodIn_ca (goodIn_r _ [5, 6, 7, 4, 8, 9, 10] (by decide +kernel) (by decide +kernel)) (goodIn_sub (fun _ h => List.mem_cons_of_mem _ (List.mem_append_left _ (List.mem_append_left _ (List.mem_append_right _ h)))) (by decide +kernel))
set_option maxRecDepth 20000 in
theorem gX6_jump_X6_needSong : GoodIn wsX6_jump (va_wsS RX6 111 yX6_needSong wsX6_needSong) := goodIn_app (goodIn_of _ (by decide +kernel)) ggX6_jump_X6_needSong
set_option maxRecDepth 20000 in
theorem ggX6_jump_X5_countEntries : GoodIn wsX6_jump wsX5_countEntries := goodIn_r _ [15, 16, 17, 18, 19, 20, 21, 22, 93, 94, 95, 96, 97, 98, 99, 100, 101, 102, 103, 104] (by decide +kernel) (by decide +kernel)
set_option maxRecDepth 20000 in
theorem gX6_jump_X5_countEntries : GoodIn wsX6_jump (wsV RX6 114 RX5 yX5_countEntries wsX5_countEntries) := goodIn_app (goodIn_of _ (by decide +kernel)) ggX6_jump_X5_countEntries
set_option maxRecDepth 20000 in
theorem ggX6_jump_X6_needIndex : GoodIn wsX6_jump wsX6_needIndex := goodIn_ca (goodIn_r _ [8, 9, 10] (by decide +kernel) (by decide +kernel)) (goodIn_sub (fun _ h => List.mem_cons_of_mem _ (List.mem_append_left _ (List.mem_append_left _ (List.mem_append_right _ h)))) (by decide +kernel))
set_option maxRecDepth 20000 in
theorem gX6_jump_X6_needIndex : GoodIn wsX6_jump (va_wsS RX6 93 yX6_needIndex wsX6_needIndex) := goodIn_app (goodIn_of _ (by decide +kernel)) ggX6_jump_X6_needIndex
set_option maxRecDepth 20000 in
theorem ggX6_jump_X6_needRange : GoodIn wsX6_jump wsX6_needRange := goodIn_ca (goodIn_r _ [25, 26, 27] (by decide +kernel) (by decide +kernel)) (goodIn_sub (fun _ h => List.mem_cons_of_mem _ (List.mem_append_left _ (List.mem_append_right _ h))) (by decide +kernel))
set_option maxRecDepth 20000 in
theorem gX6_jump_X6_needRange : GoodIn wsX6_jump (va_wsS RX6 79 yX6_needRange wsX6_needRange) := goodIn_app (goodIn_of _ (by decide +kernel)) ggX6_jump_X6_needRange
set_option maxRecDepth 20000 in
theorem ggX6_jump_X6_needNotPlayed : GoodIn wsX6_jump wsX6_needNotPlayed := goodIn_ca (goodIn_r _ [31, 32, 33, 34, 35, 36, 37, 38, 39, 40, 82, 83, 84, 85, 86, 87, 88, 89, 90, 91, 92, 105, 106, 107, 108, 109, 110, 111] (by decide +kernel) (by decide +kernel)) (goodIn_sub (fun _ h => List.mem_cons_of_mem _ (List.mem_append_right _ h)) (by decide +kernel))
set_option maxRecDepth 20000 in
theorem gX6_jump_X6_needNotPlayed : GoodIn wsX6_jump (wsV RX6 83 RX6 yX6_needNotPlayed wsX6_needNotPlayed) := goodIn_app (goodIn_of _ (by decide +kernel)) ggX6_jump_X6_needNotPlayed
set_option maxRecDepth 20000 in
theorem ggX6_jump_X5_giveJump : GoodIn wsX6_jump wsX5_giveJump := goodIn_r _ [44, 45, 46, 47, 48, 49, 20, 50, 22, 51, 52, 53, 14, 54, 55, 56, 16, 57, 58, 59, 60, 61, 62, 63, 64, 65, 66, 17, 18, 19, 21, 67, 68, 69, 70, 71, 72, 73, 74, 75, 76, 77, 93, 94, 95, 96, 97, 98, 99, 100, 101, 102, 103, 104] (by decide +kernel) (by decide +kernel)
set_option maxRecDepth 20000 in
theorem gX6_jump_X5_giveJump : GoodIn wsX6_jump (wsV RX6 128 RX5 yX5_giveJump wsX5_giveJump) := goodIn_app (goodIn_of _ (by decide +kernel)) ggX6_jump_X5_giveJump
set_option maxRecDepth 20000 in
theorem ggX6_jump_X5_countBars : GoodIn wsX6_jump wsX5_countBars := goodIn_r _ [81, 58, 17, 18, 19, 20, 21, 22, 93, 94, 95, 96, 97, 98, 99, 100, 101, 102, 103, 104] (by decide +kernel) (by decide +kernel)
set_option maxRecDepth 20000 in
theorem gX6_jump_X5_countBars : GoodIn wsX6_jump (wsV RX6 132 RX5 yX5_countBars wsX5_countBars) := goodIn_app (goodIn_of _ (by decide +kernel)) ggX6_jump_X5_countBars
theorem dX6_jump_0 : decode cX6_jump 0 = .ok (.iload_n 1, 1) := by decide +kernel
theorem dX6_jump_1 : decode cX6_jump 1 = .ok (.invokestatic 111, 3) := by decide +kernel
theorem dX6_jump_4 : decode cX6_jump 4 = .ok (.iload_n 2, 1) := by decide +kernel
theorem dX6_jump_5 : decode cX6_jump 5 = .ok (.iconst 0, 1) := by decide +kernel
theorem dX6_jump_6 : decode cX6_jump 6 = .ok (.aload_n 0, 1) := by decide +kernel
theorem dX6_jump_7 : decode cX6_jump 7 = .ok (.getfield 33, 3) := by decide +kernel
theorem dX6_jump_10 : decode cX6_jump 10 = .ok (.iload_n 1, 1) := by decide +kernel
theorem dX6_jump_11 : decode cX6_jump 11 = .ok (.invokevirtual 114, 3) := by decide +kernel
theorem dX6_jump_14 : decode cX6_jump 14 = .ok (.iconst 1, 1) := by decide +kernel
theorem dX6_jump_15 : decode cX6_jump 15 = .ok (.isub, 1) := by decide +kernel
theorem dX6_jump_16 : decode cX6_jump 16 = .ok (.invokestatic 93, 3) := by decide +kernel
theorem dX6_jump_19 : decode cX6_jump 19 = .ok (.iload_n 3, 1) := by decide +kernel
theorem dX6_jump_20 : decode cX6_jump 20 = .ok (.iconst 0, 1) := by decide +kernel
theorem dX6_jump_21 : decode cX6_jump 21 = .ok (.aload_n 0, 1) := by decide +kernel
theorem dX6_jump_22 : decode cX6_jump 22 = .ok (.getfield 33, 3) := by decide +kernel
theorem dX6_jump_25 : decode cX6_jump 25 = .ok (.iload_n 1, 1) := by decide +kernel
theorem dX6_jump_26 : decode cX6_jump 26 = .ok (.invokevirtual 114, 3) := by decide +kernel
theorem dX6_jump_29 : decode cX6_jump 29 = .ok (.iconst 1, 1) := by decide +kernel
theorem dX6_jump_30 : decode cX6_jump 30 = .ok (.isub, 1) := by decide +kernel
theorem dX6_jump_31 : decode cX6_jump 31 = .ok (.invokestatic 93, 3) := by decide +kernel
theorem dX6_jump_34 : decode cX6_jump 34 = .ok (.iload 4, 2) := by decide +kernel
theorem dX6_jump_36 : decode cX6_jump 36 = .ok (.iconst 0, 1) := by decide +kernel
theorem dX6_jump_37 : decode cX6_jump 37 = .ok (.iconst 3, 1) := by decide +kernel
theorem dX6_jump_38 : decode cX6_jump 38 = .ok (.invokestatic 79, 3) := by decide +kernel
theorem dX6_jump_41 : decode cX6_jump 41 = .ok (.aload_n 0, 1) := by decide +kernel
theorem dX6_jump_42 : decode cX6_jump 42 = .ok (.invokevirtual 83, 3) := by decide +kernel
theorem dX6_jump_45 : decode cX6_jump 45 = .ok (.aload_n 0, 1) := by decide +kernel
theorem dX6_jump_46 : decode cX6_jump 46 = .ok (.getfield 33, 3) := by decide +kernel
theorem dX6_jump_49 : decode cX6_jump 49 = .ok (.iload_n 1, 1) := by decide +kernel
theorem dX6_jump_50 : decode cX6_jump 50 = .ok (.iload_n 2, 1) := by decide +kernel
theorem dX6_jump_51 : decode cX6_jump 51 = .ok (.iload_n 3, 1) := by decide +kernel
theorem dX6_jump_52 : decode cX6_jump 52 = .ok (.iload 4, 2) := by decide +kernel
theorem dX6_jump_54 : decode cX6_jump 54 = .ok (.invokevirtual 128, 3) := by decide +kernel
theorem dX6_jump_57 : decode cX6_jump 57 = .ok (.aload_n 0, 1) := by decide +kernel
theorem dX6_jump_58 : decode cX6_jump 58 = .ok (.getfield 33, 3) := by decide +kernel
theorem dX6_jump_61 : decode cX6_jump 61 = .ok (.iload_n 1, 1) := by decide +kernel
theorem dX6_jump_62 : decode cX6_jump 62 = .ok (.invokevirtual 132, 3) := by decide +kernel
theorem dX6_jump_65 : decode cX6_jump 65 = .ok (.ireturn, 1) := by decide +kernel
set_option maxRecDepth 20000 in
theorem ggX6_bars_X6_needSong : GoodIn wsX6_bars wsX6_needSong := goodIn_ca (goodIn_r _ [5, 6, 7, 4, 8, 9, 10] (by decide +kernel) (by decide +kernel)) (goodIn_sub (fun _ h => List.mem_cons_of_mem _ (List.mem_append_right _ h)) (by decide +kernel))
set_option maxRecDepth 20000 in
theorem gX6_bars_X6_needSong : GoodIn wsX6_bars (va_wsS RX6 111 yX6_needSong wsX6_needSong) := goodIn_app (goodIn_of _ (by decide +kernel)) ggX6_bars_X6_needSong
set_option maxRecDepth 20000 in
theorem ggX6_bars_X5_countBars : GoodIn wsX6_bars wsX5_countBars := goodIn_r _ [15, 16, 17, 18, 19, 20, 21, 22, 34, 35, 36, 37, 38, 39, 40, 41, 42, 43, 44, 45] (by decide +kernel) (by decide +kernel)
set_option maxRecDepth 20000 in
theorem gX6_bars_X5_countBars : GoodIn wsX6_bars (wsV RX6 132 RX5 yX5_countBars wsX5_countBars) := goodIn_app (goodIn_of _ (by decide +kernel)) ggX6_bars_X5_countBars
theorem dX6_bars_0 : decode cX6_bars 0 = .ok (.iload_n 1, 1) := by decide +kernel
theorem dX6_bars_1 : decode cX6_bars 1 = .ok (.invokestatic 111, 3) := by decide +kernel
theorem dX6_bars_4 : decode cX6_bars 4 = .ok (.aload_n 0, 1) := by decide +kernel
theorem dX6_bars_5 : decode cX6_bars 5 = .ok (.getfield 33, 3) := by decide +kernel
theorem dX6_bars_8 : decode cX6_bars 8 = .ok (.iload_n 1, 1) := by decide +kernel
theorem dX6_bars_9 : decode cX6_bars 9 = .ok (.invokevirtual 132, 3) := by decide +kernel
theorem dX6_bars_12 : decode cX6_bars 12 = .ok (.ireturn, 1) := by decide +kernel
set_option maxRecDepth 20000 in
theorem ggX6_barAt_X6_needSong : GoodIn wsX6_barAt wsX6_needSong := goodIn_ca (goodIn_r _ [5, 6, 7, 4, 8, 9, 10] (by decide +kernel) (by decide +kernel)) (goodIn_sub (fun _ h => List.mem_cons_of_mem _ (List.mem_append_right _ h)) (by decide +kernel))
set_option maxRecDepth 20000 in
theorem gX6_barAt_X6_needSong : GoodIn wsX6_barAt (va_wsS RX6 111 yX6_needSong wsX6_needSong) := goodIn_app (goodIn_of _ (by decide +kernel)) ggX6_barAt_X6_needSong
set_option maxRecDepth 20000 in
theorem ggX6_barAt_X5_countBars : GoodIn wsX6_barAt wsX5_countBars := goodIn_r _ [15, 16, 17, 18, 19, 20, 21, 22, 48, 49, 50, 51, 52, 53, 54, 55, 56, 57, 58, 59] (by decide +kernel) (by decide +kernel)
set_option maxRecDepth 20000 in
theorem gX6_barAt_X5_countBars : GoodIn wsX6_barAt (wsV RX6 132 RX5 yX5_countBars wsX5_countBars) := goodIn_app (goodIn_of _ (by decide +kernel)) ggX6_barAt_X5_countBars
set_option maxRecDepth 20000 in
theorem ggX6_barAt_X6_needIndex : GoodIn wsX6_barAt wsX6_needIndex := goodIn_ca (goodIn_r _ [8, 9, 10] (by decide +kernel) (by decide +kernel)) (goodIn_sub (fun _ h => List.mem_cons_of_mem _ (List.mem_append_right _ h)) (by decide +kernel))
set_option maxRecDepth 20000 in
theorem gX6_barAt_X6_needIndex : GoodIn wsX6_barAt (va_wsS RX6 93 yX6_needIndex wsX6_needIndex) := goodIn_app (goodIn_of _ (by decide +kernel)) ggX6_barAt_X6_needIndex
set_option maxRecDepth 20000 in
theorem ggX6_barAt_X5_codeOf : GoodIn wsX6_barAt wsX5_codeOf := goodIn_r _ [26, 27, 28, 29, 17, 18, 19, 20, 21, 22, 30, 31, 32, 33, 34, 35, 36, 48, 49, 50, 51, 52, 53, 54, 55, 56, 57, 58, 59, 60, 61, 62, 63, 64, 65] (by decide +kernel) (by decide +kernel)
set_option maxRecDepth 20000 in
theorem gX6_barAt_X5_codeOf : GoodIn wsX6_barAt (wsV RX6 135 RX5 yX5_codeOf wsX5_codeOf) := goodIn_app (goodIn_of _ (by decide +kernel)) ggX6_barAt_X5_codeOf
theorem dX6_barAt_0 : decode cX6_barAt 0 = .ok (.iload_n 1, 1) := by decide +kernel
theorem dX6_barAt_1 : decode cX6_barAt 1 = .ok (.invokestatic 111, 3) := by decide +kernel
theorem dX6_barAt_4 : decode cX6_barAt 4 = .ok (.iload_n 2, 1) := by decide +kernel
theorem dX6_barAt_5 : decode cX6_barAt 5 = .ok (.iconst 0, 1) := by decide +kernel
theorem dX6_barAt_6 : decode cX6_barAt 6 = .ok (.aload_n 0, 1) := by decide +kernel
theorem dX6_barAt_7 : decode cX6_barAt 7 = .ok (.getfield 33, 3) := by decide +kernel
theorem dX6_barAt_10 : decode cX6_barAt 10 = .ok (.iload_n 1, 1) := by decide +kernel
theorem dX6_barAt_11 : decode cX6_barAt 11 = .ok (.invokevirtual 132, 3) := by decide +kernel
theorem dX6_barAt_14 : decode cX6_barAt 14 = .ok (.iconst 1, 1) := by decide +kernel
theorem dX6_barAt_15 : decode cX6_barAt 15 = .ok (.isub, 1) := by decide +kernel
theorem dX6_barAt_16 : decode cX6_barAt 16 = .ok (.invokestatic 93, 3) := by decide +kernel
theorem dX6_barAt_19 : decode cX6_barAt 19 = .ok (.aload_n 0, 1) := by decide +kernel
theorem dX6_barAt_20 : decode cX6_barAt 20 = .ok (.getfield 33, 3) := by decide +kernel
theorem dX6_barAt_23 : decode cX6_barAt 23 = .ok (.iload_n 1, 1) := by decide +kernel
theorem dX6_barAt_24 : decode cX6_barAt 24 = .ok (.iload_n 2, 1) := by decide +kernel
theorem dX6_barAt_25 : decode cX6_barAt 25 = .ok (.invokevirtual 135, 3) := by decide +kernel
theorem dX6_barAt_28 : decode cX6_barAt 28 = .ok (.ireturn, 1) := by decide +kernel
set_option maxRecDepth 20000 in
theorem ggX6_beats_X6_needSong : GoodIn wsX6_beats wsX6_needSong := goodIn_ca (goodIn_r _ [6, 7, 8, 5, 9, 10, 11] (by decide +kernel) (by decide +kernel)) (goodIn_sub (fun _ h => List.mem_cons_of_mem _ (List.mem_append_right _ h)) (by decide +kernel))
set_option maxRecDepth 20000 in
theorem gX6_beats_X6_needSong : GoodIn wsX6_beats (va_wsS RX6 111 yX6_needSong wsX6_needSong) := goodIn_app (goodIn_of _ (by decide +kernel)) ggX6_beats_X6_needSong
set_option maxRecDepth 20000 in
theorem ggX6_beats_X5_countBars : GoodIn wsX6_beats wsX5_countBars := goodIn_r _ [16, 17, 18, 19, 20, 21, 22, 23, 69, 70, 71, 72, 73, 74, 75, 76, 77, 78, 79, 80] (by decide +kernel) (by decide +kernel)
set_option maxRecDepth 20000 in
theorem gX6_beats_X5_countBars : GoodIn wsX6_beats (wsV RX6 132 RX5 yX5_countBars wsX5_countBars) := goodIn_app (goodIn_of _ (by decide +kernel)) ggX6_beats_X5_countBars
set_option maxRecDepth 20000 in
theorem ggX6_beats_X5_codeOf : GoodIn wsX6_beats wsX5_codeOf := goodIn_r _ [27, 28, 29, 30, 18, 19, 20, 21, 22, 23, 31, 32, 33, 34, 35, 36, 37, 69, 70, 71, 72, 73, 74, 75, 76, 77, 78, 79, 80, 81, 82, 83, 84, 85, 86] (by decide +kernel) (by decide +kernel)
set_option maxRecDepth 20000 in
theorem gX6_beats_X5_codeOf : GoodIn wsX6_beats (wsV RX6 135 RX5 yX5_codeOf wsX5_codeOf) := goodIn_app (goodIn_of _ (by decide +kernel)) ggX6_beats_X5_codeOf
set_option maxRecDepth 20000 in
theorem ggX6_beats_X2_countBySteps : GoodIn wsX6_beats wsX2_countBySteps := goodIn_r _ [41, 42, 43, 44, 34, 45, 46, 47, 48, 49, 50, 51, 52, 53, 54, 37, 19, 20, 21, 22, 23, 55, 56, 57, 81, 82, 83, 84, 85, 86, 80] (by decide +kernel) (by decide +kernel)
set_option maxRecDepth 20000 in
theorem gX6_beats_X2_countBySteps : GoodIn wsX6_beats (wsV RX6 138 RX2 yX2_countBySteps wsX2_countBySteps) := goodIn_app (goodIn_of _ (by decide +kernel)) ggX6_beats_X2_countBySteps
theorem dX6_beats_0 : decode cX6_beats 0 = .ok (.iload_n 1, 1) := by decide +kernel
theorem dX6_beats_1 : decode cX6_beats 1 = .ok (.invokestatic 111, 3) := by decide +kernel
theorem dX6_beats_4 : decode cX6_beats 4 = .ok (.iconst 0, 1) := by decide +kernel
theorem dX6_beats_5 : decode cX6_beats 5 = .ok (.istore_n 2, 1) := by decide +kernel
theorem dX6_beats_6 : decode cX6_beats 6 = .ok (.aload_n 0, 1) := by decide +kernel
theorem dX6_beats_7 : decode cX6_beats 7 = .ok (.getfield 33, 3) := by decide +kernel
theorem dX6_beats_10 : decode cX6_beats 10 = .ok (.iload_n 1, 1) := by decide +kernel
theorem dX6_beats_11 : decode cX6_beats 11 = .ok (.invokevirtual 132, 3) := by decide +kernel
theorem dX6_beats_14 : decode cX6_beats 14 = .ok (.istore_n 3, 1) := by decide +kernel
theorem dX6_beats_15 : decode cX6_beats 15 = .ok (.iconst 0, 1) := by decide +kernel
theorem dX6_beats_16 : decode cX6_beats 16 = .ok (.istore 4, 2) := by decide +kernel
theorem dX6_beats_18 : decode cX6_beats 18 = .ok (.iload 4, 2) := by decide +kernel
theorem dX6_beats_20 : decode cX6_beats 20 = .ok (.iload_n 3, 1) := by decide +kernel
theorem dX6_beats_21 : decode cX6_beats 21 = .ok (.if_icmp .ge 29, 3) := by decide +kernel
theorem dX6_beats_24 : decode cX6_beats 24 = .ok (.iload_n 2, 1) := by decide +kernel
theorem dX6_beats_25 : decode cX6_beats 25 = .ok (.aload_n 0, 1) := by decide +kernel
theorem dX6_beats_26 : decode cX6_beats 26 = .ok (.getfield 24, 3) := by decide +kernel
theorem dX6_beats_29 : decode cX6_beats 29 = .ok (.aload_n 0, 1) := by decide +kernel
theorem dX6_beats_30 : decode cX6_beats 30 = .ok (.getfield 33, 3) := by decide +kernel
theorem dX6_beats_33 : decode cX6_beats 33 = .ok (.iload_n 1, 1) := by decide +kernel
theorem dX6_beats_34 : decode cX6_beats 34 = .ok (.iload 4, 2) := by decide +kernel
theorem dX6_beats_36 : decode cX6_beats 36 = .ok (.invokevirtual 135, 3) := by decide +kernel
theorem dX6_beats_39 : decode cX6_beats 39 = .ok (.invokevirtual 138, 3) := by decide +kernel
theorem dX6_beats_42 : decode cX6_beats 42 = .ok (.iadd, 1) := by decide +kernel
theorem dX6_beats_43 : decode cX6_beats 43 = .ok (.istore_n 2, 1) := by decide +kernel
theorem dX6_beats_44 : decode cX6_beats 44 = .ok (.iinc 4 1, 3) := by decide +kernel
theorem dX6_beats_47 : decode cX6_beats 47 = .ok (.goto (-29), 3) := by decide +kernel
theorem dX6_beats_50 : decode cX6_beats 50 = .ok (.iload_n 2, 1) := by decide +kernel
theorem dX6_beats_51 : decode cX6_beats 51 = .ok (.ireturn, 1) := by decide +kernel
set_option maxRecDepth 20000 in
theorem ggX6_beatsByTicks_X6_needSong : GoodIn wsX6_beatsByTicks wsX6_needSong := goodIn_ca (goodIn_r _ [6, 7, 8, 5, 9, 10, 11] (by decide +kernel) (by decide +kernel)) (goodIn_sub (fun _ h => List.mem_cons_of_mem _ (List.mem_append_right _ h)) (by decide +kernel))
set_option maxRecDepth 20000 in
theorem gX6_beatsByTicks_X6_needSong : GoodIn wsX6_beatsByTicks (va_wsS RX6 111 yX6_needSong wsX6_needSong) := goodIn_app (goodIn_of _ (by decide +kernel)) ggX6_beatsByTicks_X6_needSong
set_option maxRecDepth 20000 in
theorem ggX6_beatsByTicks_X5_countBars : GoodIn wsX6_beatsByTicks wsX5_countBars := goodIn_r _ [16, 17, 18, 19, 20, 21, 22, 23, 78, 79, 80, 81, 82, 83, 84, 85, 86, 87, 88, 89] (by decide +kernel) (by decide +kernel)
set_option maxRecDepth 20000 in
theorem gX6_beatsByTicks_X5_countBars : GoodIn wsX6_beatsByTicks (wsV RX6 132 RX5 yX5_countBars wsX5_countBars) := goodIn_app (goodIn_of _ (by decide +kernel)) ggX6_beatsByTicks_X5_countBars
set_option maxRecDepth 20000 in
theorem ggX6_beatsByTicks_X5_codeOf : GoodIn wsX6_beatsByTicks wsX5_codeOf := goodIn_r _ [27, 28, 29, 30, 18, 19, 20, 21, 22, 23, 31, 32, 33, 34, 35, 36, 37, 78, 79, 80, 81, 82, 83, 84, 85, 86, 87, 88, 89, 90, 91, 92, 93, 94, 95] (by decide +kernel) (by decide +kernel)
set_option maxRecDepth 20000 in
theorem gX6_beatsByTicks_X5_codeOf : GoodIn wsX6_beatsByTicks (wsV RX6 135 RX5 yX5_codeOf wsX5_codeOf) := goodIn_app (goodIn_of _ (by decide +kernel)) ggX6_beatsByTicks_X5_codeOf
set_option maxRecDepth 20000 in
theorem ggX6_beatsByTicks_X2_countByTicks : GoodIn wsX6_beatsByTicks wsX2_countByTicks := goodIn_r _ [41, 42, 43, 44, 34, 45, 46, 47, 48, 49, 50, 37, 19, 20, 21, 22, 23, 51, 52, 53, 54, 55, 56, 57, 58, 59, 60, 61, 62, 63, 64, 65, 66, 90, 91, 92, 93, 94, 95, 89] (by decide +kernel) (by decide +kernel)
set_option maxRecDepth 20000 in
theorem gX6_beatsByTicks_X2_countByTicks : GoodIn wsX6_beatsByTicks (wsV RX6 141 RX2 yX2_countByTicks wsX2_countByTicks) := goodIn_app (goodIn_of _ (by decide +kernel)) ggX6_beatsByTicks_X2_countByTicks
theorem dX6_beatsByTicks_0 : decode cX6_beatsByTicks 0 = .ok (.iload_n 1, 1) := by decide +kernel
theorem dX6_beatsByTicks_1 : decode cX6_beatsByTicks 1 = .ok (.invokestatic 111, 3) := by decide +kernel
theorem dX6_beatsByTicks_4 : decode cX6_beatsByTicks 4 = .ok (.iconst 0, 1) := by decide +kernel
theorem dX6_beatsByTicks_5 : decode cX6_beatsByTicks 5 = .ok (.istore_n 2, 1) := by decide +kernel
theorem dX6_beatsByTicks_6 : decode cX6_beatsByTicks 6 = .ok (.aload_n 0, 1) := by decide +kernel
theorem dX6_beatsByTicks_7 : decode cX6_beatsByTicks 7 = .ok (.getfield 33, 3) := by decide +kernel
theorem dX6_beatsByTicks_10 : decode cX6_beatsByTicks 10 = .ok (.iload_n 1, 1) := by decide +kernel
theorem dX6_beatsByTicks_11 : decode cX6_beatsByTicks 11 = .ok (.invokevirtual 132, 3) := by decide +kernel
theorem dX6_beatsByTicks_14 : decode cX6_beatsByTicks 14 = .ok (.istore_n 3, 1) := by decide +kernel
theorem dX6_beatsByTicks_15 : decode cX6_beatsByTicks 15 = .ok (.iconst 0, 1) := by decide +kernel
theorem dX6_beatsByTicks_16 : decode cX6_beatsByTicks 16 = .ok (.istore 4, 2) := by decide +kernel
theorem dX6_beatsByTicks_18 : decode cX6_beatsByTicks 18 = .ok (.iload 4, 2) := by decide +kernel
theorem dX6_beatsByTicks_20 : decode cX6_beatsByTicks 20 = .ok (.iload_n 3, 1) := by decide +kernel
theorem dX6_beatsByTicks_21 : decode cX6_beatsByTicks 21 = .ok (.if_icmp .ge 29, 3) := by decide +kernel
theorem dX6_beatsByTicks_24 : decode cX6_beatsByTicks 24 = .ok (.iload_n 2, 1) := by decide +kernel
theorem dX6_beatsByTicks_25 : decode cX6_beatsByTicks 25 = .ok (.aload_n 0, 1) := by decide +kernel
theorem dX6_beatsByTicks_26 : decode cX6_beatsByTicks 26 = .ok (.getfield 24, 3) := by decide +kernel
theorem dX6_beatsByTicks_29 : decode cX6_beatsByTicks 29 = .ok (.aload_n 0, 1) := by decide +kernel
theorem dX6_beatsByTicks_30 : decode cX6_beatsByTicks 30 = .ok (.getfield 33, 3) := by decide +kernel
theorem dX6_beatsByTicks_33 : decode cX6_beatsByTicks 33 = .ok (.iload_n 1, 1) := by decide +kernel
theorem dX6_beatsByTicks_34 : decode cX6_beatsByTicks 34 = .ok (.iload 4, 2) := by decide +kernel
theorem dX6_beatsByTicks_36 : decode cX6_beatsByTicks 36 = .ok (.invokevirtual 135, 3) := by decide +kernel
theorem dX6_beatsByTicks_39 : decode cX6_beatsByTicks 39 = .ok (.invokevirtual 141, 3) := by decide +kernel
theorem dX6_beatsByTicks_42 : decode cX6_beatsByTicks 42 = .ok (.iadd, 1) := by decide +kernel
theorem dX6_beatsByTicks_43 : decode cX6_beatsByTicks 43 = .ok (.istore_n 2, 1) := by decide +kernel
theorem dX6_beatsByTicks_44 : decode cX6_beatsByTicks 44 = .ok (.iinc 4 1, 3) := by decide +kernel
theorem dX6_beatsByTicks_47 : decode cX6_beatsByTicks 47 = .ok (.goto (-29), 3) := by decide +kernel
theorem dX6_beatsByTicks_50 : decode cX6_beatsByTicks 50 = .ok (.iload_n 2, 1) := by decide +kernel
theorem dX6_beatsByTicks_51 : decode cX6_beatsByTicks 51 = .ok (.ireturn, 1) := by decide +kernel
set_option maxRecDepth 20000 in
theorem ggX6_addToSet_X6_needSong : GoodIn wsX6_addToSet wsX6_needSong := goodIn_ca (goodIn_r _ [7, 8, 9, 6, 10, 11, 12] (by decide +kernel) (by decide +kernel)) (goodIn_sub (fun _ h => List.mem_cons_of_mem _ (List.mem_append_right _ h)) (by decide +kernel))
set_option maxRecDepth 20000 in
theorem gX6_addToSet_X6_needSong : GoodIn wsX6_addToSet (va_wsS RX6 111 yX6_needSong wsX6_needSong) := goodIn_app (goodIn_of _ (by decide +kernel)) ggX6_addToSet_X6_needSong
set_option maxRecDepth 20000 in
theorem ggX6_addToSet_X6_needNotPlayed : GoodIn wsX6_addToSet wsX6_needNotPlayed := goodIn_ca (goodIn_r _ [16, 1, 2, 3, 17, 18, 19, 20, 21, 22, 39, 40, 41, 42, 43, 44, 45, 46, 47, 48, 49, 50, 51, 52, 53, 54, 55, 56] (by decide +kernel) (by decide +kernel)) (goodIn_sub (fun _ h => List.mem_cons_of_mem _ (List.mem_append_left _ (List.mem_append_right _ h))) (by decide +kernel))
set_option maxRecDepth 20000 in
theorem gX6_addToSet_X6_needNotPlayed : GoodIn wsX6_addToSet (wsV RX6 83 RX6 yX6_needNotPlayed wsX6_needNotPlayed) := goodIn_app (goodIn_of _ (by decide +kernel)) ggX6_addToSet_X6_needNotPlayed
set_option maxRecDepth 20000 in
theorem ggX6_addToSet_X4_isFull : GoodIn wsX6_addToSet wsX4_isFull := goodIn_r _ [26, 27, 50, 51, 52, 53, 54, 55, 56] (by decide +kernel) (by decide +kernel)
set_option maxRecDepth 20000 in
theorem gX6_addToSet_X4_isFull : GoodIn wsX6_addToSet (wsV RX6 144 RX4 yX4_isFull wsX4_isFull) := goodIn_app (goodIn_of _ (by decide +kernel)) ggX6_addToSet_X4_isFull
set_option maxRecDepth 20000 in
theorem ggX6_addToSet_X4_append : GoodIn wsX6_addToSet wsX4_append := goodIn_r _ [31, 32, 27, 33, 34, 35, 36, 37, 38, 50, 51, 52, 53, 54, 55, 56, 57] (by decide +kernel) (by decide +kernel)
set_option maxRecDepth 20000 in
theorem gX6_addToSet_X4_append : GoodIn wsX6_addToSet (wsV RX6 150 RX4 yX4_append wsX4_append) := goodIn_app (goodIn_of _ (by decide +kernel)) ggX6_addToSet_X4_append
theorem dX6_addToSet_0 : decode cX6_addToSet 0 = .ok (.iload_n 1, 1) := by decide +kernel
theorem dX6_addToSet_1 : decode cX6_addToSet 1 = .ok (.invokestatic 111, 3) := by decide +kernel
theorem dX6_addToSet_4 : decode cX6_addToSet 4 = .ok (.aload_n 0, 1) := by decide +kernel
theorem dX6_addToSet_5 : decode cX6_addToSet 5 = .ok (.invokevirtual 83, 3) := by decide +kernel
theorem dX6_addToSet_8 : decode cX6_addToSet 8 = .ok (.aload_n 0, 1) := by decide +kernel
theorem dX6_addToSet_9 : decode cX6_addToSet 9 = .ok (.getfield 42, 3) := by decide +kernel
theorem dX6_addToSet_12 : decode cX6_addToSet 12 = .ok (.invokevirtual 144, 3) := by decide +kernel
theorem dX6_addToSet_15 : decode cX6_addToSet 15 = .ok (.ifCond .eq 13, 3) := by decide +kernel
theorem dX6_addToSet_18 : decode cX6_addToSet 18 = .ok (.new 118, 3) := by decide +kernel
theorem dX6_addToSet_21 : decode cX6_addToSet 21 = .ok (.dup, 1) := by decide +kernel
theorem dX6_addToSet_22 : decode cX6_addToSet 22 = .ok (.ldc 148, 2) := by decide +kernel
theorem dX6_addToSet_24 : decode cX6_addToSet 24 = .ok (.invokespecial 122, 3) := by decide +kernel
theorem dX6_addToSet_27 : decode cX6_addToSet 27 = .ok (.athrow, 1) := by decide +kernel
theorem dX6_addToSet_28 : decode cX6_addToSet 28 = .ok (.aload_n 0, 1) := by decide +kernel
theorem dX6_addToSet_29 : decode cX6_addToSet 29 = .ok (.getfield 42, 3) := by decide +kernel
theorem dX6_addToSet_32 : decode cX6_addToSet 32 = .ok (.iload_n 1, 1) := by decide +kernel
theorem dX6_addToSet_33 : decode cX6_addToSet 33 = .ok (.invokevirtual 150, 3) := by decide +kernel
theorem dX6_addToSet_36 : decode cX6_addToSet 36 = .ok (.ireturn, 1) := by decide +kernel
set_option maxRecDepth 20000 in
theorem ggX6_clearSet_X6_needNotPlayed : GoodIn wsX6_clearSet wsX6_needNotPlayed := goodIn_ca (goodIn_r _ [6, 7, 8, 1, 9, 10, 11, 12, 13, 14, 20, 21, 22, 23, 24, 25, 26, 27, 28, 29, 30, 31, 32, 33, 34, 35, 36, 37] (by decide +kernel) (by decide +kernel)) (goodIn_sub (fun _ h => List.mem_cons_of_mem _ (List.mem_append_right _ h)) (by decide +kernel))
set_option maxRecDepth 20000 in
theorem gX6_clearSet_X6_needNotPlayed : GoodIn wsX6_clearSet (wsV RX6 83 RX6 yX6_needNotPlayed wsX6_needNotPlayed) := goodIn_app (goodIn_of _ (by decide +kernel)) ggX6_clearSet_X6_needNotPlayed
set_option maxRecDepth 20000 in
theorem ggX6_clearSet_X4_removeAll : GoodIn wsX6_clearSet wsX4_removeAll := goodIn_r _ [18, 19, 31, 32, 33, 34, 35, 36, 37] (by decide +kernel) (by decide +kernel)
set_option maxRecDepth 20000 in
theorem gX6_clearSet_X4_removeAll : GoodIn wsX6_clearSet (wsV RX6 152 RX4 yX4_removeAll wsX4_removeAll) := goodIn_app (goodIn_of _ (by decide +kernel)) ggX6_clearSet_X4_removeAll
