theorem dX3_init_0 : decode cX3_init 0 = .ok (.aload_n 0, 1) := by decide +kernel
theorem dX3_init_1 : decode cX3_init 1 = .ok (.invokespecial 3, 3) := by decide +kernel
theorem dX3_init_4 : decode cX3_init 4 = .ok (.aload_n 0, 1) := by decide +kernel
theorem dX3_init_5 : decode cX3_init 5 = .ok (.sipush 140, 3) := by decide +kernel
theorem dX3_init_8 : decode cX3_init 8 = .ok (.newarray .int, 2) := by decide +kernel
theorem dX3_init_10 : decode cX3_init 10 = .ok (.putfield 9, 3) := by decide +kernel
theorem dX3_init_13 : decode cX3_init 13 = .ok (.aload_n 0, 1) := by decide +kernel
theorem dX3_init_14 : decode cX3_init 14 = .ok (.bipush 6, 2) := by decide +kernel
theorem dX3_init_16 : decode cX3_init 16 = .ok (.newarray .int, 2) := by decide +kernel
theorem dX3_init_18 : decode cX3_init 18 = .ok (.dup, 1) := by decide +kernel
theorem dX3_init_19 : decode cX3_init 19 = .ok (.iconst 0, 1) := by decide +kernel
theorem dX3_init_20 : decode cX3_init 20 = .ok (.iconst 0, 1) := by decide +kernel
theorem dX3_init_21 : decode cX3_init 21 = .ok (.iastore, 1) := by decide +kernel
theorem dX3_init_22 : decode cX3_init 22 = .ok (.dup, 1) := by decide +kernel
theorem dX3_init_23 : decode cX3_init 23 = .ok (.iconst 1, 1) := by decide +kernel
theorem dX3_init_24 : decode cX3_init 24 = .ok (.bipush 40, 2) := by decide +kernel
theorem dX3_init_26 : decode cX3_init 26 = .ok (.iastore, 1) := by decide +kernel
theorem dX3_init_27 : decode cX3_init 27 = .ok (.dup, 1) := by decide +kernel
theorem dX3_init_28 : decode cX3_init 28 = .ok (.iconst 2, 1) := by decide +kernel
theorem dX3_init_29 : decode cX3_init 29 = .ok (.iconst 5, 1) := by decide +kernel
theorem dX3_init_30 : decode cX3_init 30 = .ok (.iastore, 1) := by decide +kernel
theorem dX3_init_31 : decode cX3_init 31 = .ok (.dup, 1) := by decide +kernel
theorem dX3_init_32 : decode cX3_init 32 = .ok (.iconst 3, 1) := by decide +kernel
theorem dX3_init_33 : decode cX3_init 33 = .ok (.iconst 1, 1) := by decide +kernel
theorem dX3_init_34 : decode cX3_init 34 = .ok (.iastore, 1) := by decide +kernel
theorem dX3_init_35 : decode cX3_init 35 = .ok (.dup, 1) := by decide +kernel
theorem dX3_init_36 : decode cX3_init 36 = .ok (.iconst 4, 1) := by decide +kernel
theorem dX3_init_37 : decode cX3_init 37 = .ok (.iconst 2, 1) := by decide +kernel
theorem dX3_init_38 : decode cX3_init 38 = .ok (.iastore, 1) := by decide +kernel
theorem dX3_init_39 : decode cX3_init 39 = .ok (.dup, 1) := by decide +kernel
theorem dX3_init_40 : decode cX3_init 40 = .ok (.iconst 5, 1) := by decide +kernel
theorem dX3_init_41 : decode cX3_init 41 = .ok (.iconst 0, 1) := by decide +kernel
theorem dX3_init_42 : decode cX3_init 42 = .ok (.iastore, 1) := by decide +kernel
theorem dX3_init_43 : decode cX3_init 43 = .ok (.putfield 15, 3) := by decide +kernel
theorem dX3_init_46 : decode cX3_init 46 = .ok (.aload_n 0, 1) := by decide +kernel
theorem dX3_init_47 : decode cX3_init 47 = .ok (.iconst 0, 1) := by decide +kernel
theorem dX3_init_48 : decode cX3_init 48 = .ok (.putfield 18, 3) := by decide +kernel
theorem dX3_init_51 : decode cX3_init 51 = .ok (.aload_n 0, 1) := by decide +kernel
theorem dX3_init_52 : decode cX3_init 52 = .ok (.bipush 12, 2) := by decide +kernel
theorem dX3_init_54 : decode cX3_init 54 = .ok (.putfield 22, 3) := by decide +kernel
theorem dX3_init_57 : decode cX3_init 57 = .ok (.return_, 1) := by decide +kernel
theorem dX3_copyFrom_0 : decode cX3_copyFrom 0 = .ok (.aload_n 1, 1) := by decide +kernel
theorem dX3_copyFrom_1 : decode cX3_copyFrom 1 = .ok (.getfield 9, 3) := by decide +kernel
theorem dX3_copyFrom_4 : decode cX3_copyFrom 4 = .ok (.iconst 0, 1) := by decide +kernel
theorem dX3_copyFrom_5 : decode cX3_copyFrom 5 = .ok (.aload_n 0, 1) := by decide +kernel
theorem dX3_copyFrom_6 : decode cX3_copyFrom 6 = .ok (.getfield 9, 3) := by decide +kernel
theorem dX3_copyFrom_9 : decode cX3_copyFrom 9 = .ok (.iconst 0, 1) := by decide +kernel
theorem dX3_copyFrom_10 : decode cX3_copyFrom 10 = .ok (.aload_n 0, 1) := by decide +kernel
theorem dX3_copyFrom_11 : decode cX3_copyFrom 11 = .ok (.getfield 9, 3) := by decide +kernel
theorem dX3_copyFrom_14 : decode cX3_copyFrom 14 = .ok (.arraylength, 1) := by decide +kernel
theorem dX3_copyFrom_15 : decode cX3_copyFrom 15 = .ok (.invokestatic 25, 3) := by decide +kernel
theorem dX3_copyFrom_18 : decode cX3_copyFrom 18 = .ok (.aload_n 1, 1) := by decide +kernel
theorem dX3_copyFrom_19 : decode cX3_copyFrom 19 = .ok (.getfield 15, 3) := by decide +kernel
theorem dX3_copyFrom_22 : decode cX3_copyFrom 22 = .ok (.iconst 0, 1) := by decide +kernel
theorem dX3_copyFrom_23 : decode cX3_copyFrom 23 = .ok (.aload_n 0, 1) := by decide +kernel
theorem dX3_copyFrom_24 : decode cX3_copyFrom 24 = .ok (.getfield 15, 3) := by decide +kernel
theorem dX3_copyFrom_27 : decode cX3_copyFrom 27 = .ok (.iconst 0, 1) := by decide +kernel
theorem dX3_copyFrom_28 : decode cX3_copyFrom 28 = .ok (.aload_n 0, 1) := by decide +kernel
theorem dX3_copyFrom_29 : decode cX3_copyFrom 29 = .ok (.getfield 15, 3) := by decide +kernel
theorem dX3_copyFrom_32 : decode cX3_copyFrom 32 = .ok (.arraylength, 1) := by decide +kernel
theorem dX3_copyFrom_33 : decode cX3_copyFrom 33 = .ok (.invokestatic 25, 3) := by decide +kernel
theorem dX3_copyFrom_36 : decode cX3_copyFrom 36 = .ok (.aload_n 0, 1) := by decide +kernel
theorem dX3_copyFrom_37 : decode cX3_copyFrom 37 = .ok (.aload_n 1, 1) := by decide +kernel
theorem dX3_copyFrom_38 : decode cX3_copyFrom 38 = .ok (.getfield 18, 3) := by decide +kernel
theorem dX3_copyFrom_41 : decode cX3_copyFrom 41 = .ok (.putfield 18, 3) := by decide +kernel
theorem dX3_copyFrom_44 : decode cX3_copyFrom 44 = .ok (.aload_n 0, 1) := by decide +kernel
theorem dX3_copyFrom_45 : decode cX3_copyFrom 45 = .ok (.aload_n 1, 1) := by decide +kernel
theorem dX3_copyFrom_46 : decode cX3_copyFrom 46 = .ok (.getfield 22, 3) := by decide +kernel
theorem dX3_copyFrom_49 : decode cX3_copyFrom 49 = .ok (.putfield 22, 3) := by decide +kernel
theorem dX3_copyFrom_52 : decode cX3_copyFrom 52 = .ok (.return_, 1) := by decide +kernel
theorem dX3_size_0 : decode cX3_size 0 = .ok (.aload_n 0, 1) := by decide +kernel
theorem dX3_size_1 : decode cX3_size 1 = .ok (.getfield 18, 3) := by decide +kernel
theorem dX3_size_4 : decode cX3_size 4 = .ok (.ireturn, 1) := by decide +kernel
theorem dX3_isFull_0 : decode cX3_isFull 0 = .ok (.aload_n 0, 1) := by decide +kernel
theorem dX3_isFull_1 : decode cX3_isFull 1 = .ok (.getfield 18, 3) := by decide +kernel
theorem dX3_isFull_4 : decode cX3_isFull 4 = .ok (.bipush 20, 2) := by decide +kernel
theorem dX3_isFull_6 : decode cX3_isFull 6 = .ok (.if_icmp .lt 7, 3) := by decide +kernel
theorem dX3_isFull_9 : decode cX3_isFull 9 = .ok (.iconst 1, 1) := by decide +kernel
theorem dX3_isFull_10 : decode cX3_isFull 10 = .ok (.goto 4, 3) := by decide +kernel
theorem dX3_isFull_13 : decode cX3_isFull 13 = .ok (.iconst 0, 1) := by decide +kernel
theorem dX3_isFull_14 : decode cX3_isFull 14 = .ok (.ireturn, 1) := by decide +kernel
set_option maxRecDepth 20000 in
theorem ggX3_hasDish_X8_inRange : GoodIn wsX3_hasDish wsX8_inRange := goodIn_r _ [4] (by decide +kernel) (by decide +kernel)
set_option maxRecDepth 20000 in
theorem gX3_hasDish_X8_inRange_n31 : GoodIn wsX3_hasDish (wsX8_inRange) := ggX3_hasDish_X8_inRange
theorem dX3_hasDish_0 : decode cX3_hasDish 0 = .ok (.iload_n 1, 1) := by decide +kernel
theorem dX3_hasDish_1 : decode cX3_hasDish 1 = .ok (.iconst 0, 1) := by decide +kernel
theorem dX3_hasDish_2 : decode cX3_hasDish 2 = .ok (.aload_n 0, 1) := by decide +kernel
theorem dX3_hasDish_3 : decode cX3_hasDish 3 = .ok (.getfield 18, 3) := by decide +kernel
theorem dX3_hasDish_6 : decode cX3_hasDish 6 = .ok (.iconst 1, 1) := by decide +kernel
theorem dX3_hasDish_7 : decode cX3_hasDish 7 = .ok (.isub, 1) := by decide +kernel
theorem dX3_hasDish_8 : decode cX3_hasDish 8 = .ok (.invokestatic 31, 3) := by decide +kernel
theorem dX3_hasDish_11 : decode cX3_hasDish 11 = .ok (.ireturn, 1) := by decide +kernel
theorem dX3_valueOf_0 : decode cX3_valueOf 0 = .ok (.iload_n 1, 1) := by decide +kernel
theorem dX3_valueOf_1 : decode cX3_valueOf 1 = .ok (.bipush 7, 2) := by decide +kernel
theorem dX3_valueOf_3 : decode cX3_valueOf 3 = .ok (.imul, 1) := by decide +kernel
theorem dX3_valueOf_4 : decode cX3_valueOf 4 = .ok (.iload_n 2, 1) := by decide +kernel
theorem dX3_valueOf_5 : decode cX3_valueOf 5 = .ok (.iadd, 1) := by decide +kernel
theorem dX3_valueOf_6 : decode cX3_valueOf 6 = .ok (.istore_n 3, 1) := by decide +kernel
theorem dX3_valueOf_7 : decode cX3_valueOf 7 = .ok (.iconst 0, 1) := by decide +kernel
theorem dX3_valueOf_8 : decode cX3_valueOf 8 = .ok (.iload_n 3, 1) := by decide +kernel
theorem dX3_valueOf_9 : decode cX3_valueOf 9 = .ok (.if_icmp .gt 21, 3) := by decide +kernel
theorem dX3_valueOf_12 : decode cX3_valueOf 12 = .ok (.iload_n 3, 1) := by decide +kernel
theorem dX3_valueOf_13 : decode cX3_valueOf 13 = .ok (.aload_n 0, 1) := by decide +kernel
theorem dX3_valueOf_14 : decode cX3_valueOf 14 = .ok (.getfield 9, 3) := by decide +kernel
theorem dX3_valueOf_17 : decode cX3_valueOf 17 = .ok (.arraylength, 1) := by decide +kernel
theorem dX3_valueOf_18 : decode cX3_valueOf 18 = .ok (.if_icmp .ge 12, 3) := by decide +kernel
theorem dX3_valueOf_21 : decode cX3_valueOf 21 = .ok (.aload_n 0, 1) := by decide +kernel
theorem dX3_valueOf_22 : decode cX3_valueOf 22 = .ok (.getfield 9, 3) := by decide +kernel
theorem dX3_valueOf_25 : decode cX3_valueOf 25 = .ok (.iload_n 3, 1) := by decide +kernel
theorem dX3_valueOf_26 : decode cX3_valueOf 26 = .ok (.iaload, 1) := by decide +kernel
theorem dX3_valueOf_27 : decode cX3_valueOf 27 = .ok (.goto 4, 3) := by decide +kernel
theorem dX3_valueOf_30 : decode cX3_valueOf 30 = .ok (.iconst 0, 1) := by decide +kernel
theorem dX3_valueOf_31 : decode cX3_valueOf 31 = .ok (.ireturn, 1) := by decide +kernel
set_option maxRecDepth 20000 in
theorem ggX3_change_X3_hasDish : GoodIn wsX3_change wsX3_hasDish := goodIn_r _ [6, 7, 8, 9, 10, 16, 17, 18, 19] (by decide +kernel) (by decide +kernel)
set_option maxRecDepth 20000 in
theorem gX3_change_X3_hasDish : GoodIn wsX3_change (wsV RX3 35 RX3 yX3_hasDish wsX3_hasDish) := goodIn_app (goodIn_of _ (by decide +kernel)) ggX3_change_X3_hasDish
set_option maxRecDepth 20000 in
theorem ggX3_change_X8_isDishValue : GoodIn wsX3_change wsX8_isDishValue := goodIn_r _ [12, 13, 14, 15, 8, 9, 10] (by decide +kernel) (by decide +kernel)
set_option maxRecDepth 20000 in
theorem gX3_change_X8_isDishValue_n39 : GoodIn wsX3_change (wsX8_isDishValue) := ggX3_change_X8_isDishValue
theorem dX3_change_0 : decode cX3_change 0 = .ok (.aload_n 0, 1) := by decide +kernel
theorem dX3_change_1 : decode cX3_change 1 = .ok (.iload_n 1, 1) := by decide +kernel
theorem dX3_change_2 : decode cX3_change 2 = .ok (.invokevirtual 35, 3) := by decide +kernel
theorem dX3_change_5 : decode cX3_change 5 = .ok (.ifCond .eq 23, 3) := by decide +kernel
theorem dX3_change_8 : decode cX3_change 8 = .ok (.iload_n 2, 1) := by decide +kernel
theorem dX3_change_9 : decode cX3_change 9 = .ok (.iload_n 3, 1) := by decide +kernel
theorem dX3_change_10 : decode cX3_change 10 = .ok (.invokestatic 39, 3) := by decide +kernel
theorem dX3_change_13 : decode cX3_change 13 = .ok (.ifCond .eq 15, 3) := by decide +kernel
theorem dX3_change_16 : decode cX3_change 16 = .ok (.aload_n 0, 1) := by decide +kernel
theorem dX3_change_17 : decode cX3_change 17 = .ok (.getfield 9, 3) := by decide +kernel
theorem dX3_change_20 : decode cX3_change 20 = .ok (.iload_n 1, 1) := by decide +kernel
theorem dX3_change_21 : decode cX3_change 21 = .ok (.bipush 7, 2) := by decide +kernel
theorem dX3_change_23 : decode cX3_change 23 = .ok (.imul, 1) := by decide +kernel
theorem dX3_change_24 : decode cX3_change 24 = .ok (.iload_n 2, 1) := by decide +kernel
theorem dX3_change_25 : decode cX3_change 25 = .ok (.iadd, 1) := by decide +kernel
theorem dX3_change_26 : decode cX3_change 26 = .ok (.iload_n 3, 1) := by decide +kernel
theorem dX3_change_27 : decode cX3_change 27 = .ok (.iastore, 1) := by decide +kernel
theorem dX3_change_28 : decode cX3_change 28 = .ok (.return_, 1) := by decide +kernel
set_option maxRecDepth 20000 in
theorem ggX3_addOffered_X3_isFull : GoodIn wsX3_addOffered wsX3_isFull := goodIn_r _ [7, 2, 8, 9, 10, 11] (by decide +kernel) (by decide +kernel)
set_option maxRecDepth 20000 in
theorem gX3_addOffered_X3_isFull : GoodIn wsX3_addOffered (wsV RX3 43 RX3 yX3_isFull wsX3_isFull) := goodIn_app (goodIn_of _ (by decide +kernel)) ggX3_addOffered_X3_isFull
theorem dX3_addOffered_0 : decode cX3_addOffered 0 = .ok (.aload_n 0, 1) := by decide +kernel
theorem dX3_addOffered_1 : decode cX3_addOffered 1 = .ok (.invokevirtual 43, 3) := by decide +kernel
theorem dX3_addOffered_4 : decode cX3_addOffered 4 = .ok (.ifCond .eq 6, 3) := by decide +kernel
theorem dX3_addOffered_7 : decode cX3_addOffered 7 = .ok (.bipush (-99), 2) := by decide +kernel
theorem dX3_addOffered_9 : decode cX3_addOffered 9 = .ok (.ireturn, 1) := by decide +kernel
theorem dX3_addOffered_10 : decode cX3_addOffered 10 = .ok (.aload_n 0, 1) := by decide +kernel
theorem dX3_addOffered_11 : decode cX3_addOffered 11 = .ok (.getfield 9, 3) := by decide +kernel
theorem dX3_addOffered_14 : decode cX3_addOffered 14 = .ok (.aload_n 0, 1) := by decide +kernel
theorem dX3_addOffered_15 : decode cX3_addOffered 15 = .ok (.getfield 18, 3) := by decide +kernel
theorem dX3_addOffered_18 : decode cX3_addOffered 18 = .ok (.bipush 7, 2) := by decide +kernel
theorem dX3_addOffered_20 : decode cX3_addOffered 20 = .ok (.imul, 1) := by decide +kernel
theorem dX3_addOffered_21 : decode cX3_addOffered 21 = .ok (.bipush 6, 2) := by decide +kernel
theorem dX3_addOffered_23 : decode cX3_addOffered 23 = .ok (.iadd, 1) := by decide +kernel
theorem dX3_addOffered_24 : decode cX3_addOffered 24 = .ok (.iconst 1, 1) := by decide +kernel
theorem dX3_addOffered_25 : decode cX3_addOffered 25 = .ok (.iastore, 1) := by decide +kernel
theorem dX3_addOffered_26 : decode cX3_addOffered 26 = .ok (.aload_n 0, 1) := by decide +kernel
theorem dX3_addOffered_27 : decode cX3_addOffered 27 = .ok (.dup, 1) := by decide +kernel
theorem dX3_addOffered_28 : decode cX3_addOffered 28 = .ok (.getfield 18, 3) := by decide +kernel
theorem dX3_addOffered_31 : decode cX3_addOffered 31 = .ok (.iconst 1, 1) := by decide +kernel
theorem dX3_addOffered_32 : decode cX3_addOffered 32 = .ok (.iadd, 1) := by decide +kernel
theorem dX3_addOffered_33 : decode cX3_addOffered 33 = .ok (.putfield 18, 3) := by decide +kernel
theorem dX3_addOffered_36 : decode cX3_addOffered 36 = .ok (.aload_n 0, 1) := by decide +kernel
theorem dX3_addOffered_37 : decode cX3_addOffered 37 = .ok (.getfield 18, 3) := by decide +kernel
theorem dX3_addOffered_40 : decode cX3_addOffered 40 = .ok (.iconst 1, 1) := by decide +kernel
theorem dX3_addOffered_41 : decode cX3_addOffered 41 = .ok (.isub, 1) := by decide +kernel
theorem dX3_addOffered_42 : decode cX3_addOffered 42 = .ok (.ireturn, 1) := by decide +kernel
set_option maxRecDepth 20000 in
theorem ggX3_drop_X3_hasDish : GoodIn wsX3_drop wsX3_hasDish := goodIn_r _ [11, 2, 12, 13, 14, 15, 16, 17, 18] (by decide +kernel) (by decide +kernel)
set_option maxRecDepth 20000 in
theorem gX3_drop_X3_hasDish : GoodIn wsX3_drop (wsV RX3 35 RX3 yX3_hasDish wsX3_hasDish) := goodIn_app (goodIn_of _ (by decide +kernel)) ggX3_drop_X3_hasDish
theorem dX3_drop_0 : decode cX3_drop 0 = .ok (.aload_n 0, 1) := by decide +kernel
theorem dX3_drop_1 : decode cX3_drop 1 = .ok (.iload_n 1, 1) := by decide +kernel
theorem dX3_drop_2 : decode cX3_drop 2 = .ok (.invokevirtual 35, 3) := by decide +kernel
theorem dX3_drop_5 : decode cX3_drop 5 = .ok (.ifCond .ne 4, 3) := by decide +kernel
theorem dX3_drop_8 : decode cX3_drop 8 = .ok (.return_, 1) := by decide +kernel
theorem dX3_drop_9 : decode cX3_drop 9 = .ok (.iload_n 1, 1) := by decide +kernel
theorem dX3_drop_10 : decode cX3_drop 10 = .ok (.iconst 1, 1) := by decide +kernel
theorem dX3_drop_11 : decode cX3_drop 11 = .ok (.iadd, 1) := by decide +kernel
theorem dX3_drop_12 : decode cX3_drop 12 = .ok (.bipush 7, 2) := by decide +kernel
theorem dX3_drop_14 : decode cX3_drop 14 = .ok (.imul, 1) := by decide +kernel
theorem dX3_drop_15 : decode cX3_drop 15 = .ok (.istore_n 2, 1) := by decide +kernel
theorem dX3_drop_16 : decode cX3_drop 16 = .ok (.aload_n 0, 1) := by decide +kernel
theorem dX3_drop_17 : decode cX3_drop 17 = .ok (.getfield 9, 3) := by decide +kernel
theorem dX3_drop_20 : decode cX3_drop 20 = .ok (.iload_n 2, 1) := by decide +kernel
theorem dX3_drop_21 : decode cX3_drop 21 = .ok (.aload_n 0, 1) := by decide +kernel
theorem dX3_drop_22 : decode cX3_drop 22 = .ok (.getfield 9, 3) := by decide +kernel
theorem dX3_drop_25 : decode cX3_drop 25 = .ok (.iload_n 1, 1) := by decide +kernel
theorem dX3_drop_26 : decode cX3_drop 26 = .ok (.bipush 7, 2) := by decide +kernel
theorem dX3_drop_28 : decode cX3_drop 28 = .ok (.imul, 1) := by decide +kernel
theorem dX3_drop_29 : decode cX3_drop 29 = .ok (.aload_n 0, 1) := by decide +kernel
theorem dX3_drop_30 : decode cX3_drop 30 = .ok (.getfield 18, 3) := by decide +kernel
theorem dX3_drop_33 : decode cX3_drop 33 = .ok (.bipush 7, 2) := by decide +kernel
theorem dX3_drop_35 : decode cX3_drop 35 = .ok (.imul, 1) := by decide +kernel
theorem dX3_drop_36 : decode cX3_drop 36 = .ok (.iload_n 2, 1) := by decide +kernel
theorem dX3_drop_37 : decode cX3_drop 37 = .ok (.isub, 1) := by decide +kernel
theorem dX3_drop_38 : decode cX3_drop 38 = .ok (.invokestatic 25, 3) := by decide +kernel
theorem dX3_drop_41 : decode cX3_drop 41 = .ok (.aload_n 0, 1) := by decide +kernel
theorem dX3_drop_42 : decode cX3_drop 42 = .ok (.dup, 1) := by decide +kernel
theorem dX3_drop_43 : decode cX3_drop 43 = .ok (.getfield 18, 3) := by decide +kernel
theorem dX3_drop_46 : decode cX3_drop 46 = .ok (.iconst 1, 1) := by decide +kernel
theorem dX3_drop_47 : decode cX3_drop 47 = .ok (.isub, 1) := by decide +kernel
theorem dX3_drop_48 : decode cX3_drop 48 = .ok (.putfield 18, 3) := by decide +kernel
theorem dX3_drop_51 : decode cX3_drop 51 = .ok (.return_, 1) := by decide +kernel
theorem dX3_setting_0 : decode cX3_setting 0 = .ok (.iconst 0, 1) := by decide +kernel
theorem dX3_setting_1 : decode cX3_setting 1 = .ok (.iload_n 1, 1) := by decide +kernel
theorem dX3_setting_2 : decode cX3_setting 2 = .ok (.if_icmp .gt 18, 3) := by decide +kernel
theorem dX3_setting_5 : decode cX3_setting 5 = .ok (.iload_n 1, 1) := by decide +kernel
theorem dX3_setting_6 : decode cX3_setting 6 = .ok (.bipush 6, 2) := by decide +kernel
theorem dX3_setting_8 : decode cX3_setting 8 = .ok (.if_icmp .ge 12, 3) := by decide +kernel
theorem dX3_setting_11 : decode cX3_setting 11 = .ok (.aload_n 0, 1) := by decide +kernel
theorem dX3_setting_12 : decode cX3_setting 12 = .ok (.getfield 15, 3) := by decide +kernel
theorem dX3_setting_15 : decode cX3_setting 15 = .ok (.iload_n 1, 1) := by decide +kernel
theorem dX3_setting_16 : decode cX3_setting 16 = .ok (.iaload, 1) := by decide +kernel
theorem dX3_setting_17 : decode cX3_setting 17 = .ok (.goto 4, 3) := by decide +kernel
theorem dX3_setting_20 : decode cX3_setting 20 = .ok (.iconst 0, 1) := by decide +kernel
theorem dX3_setting_21 : decode cX3_setting 21 = .ok (.ireturn, 1) := by decide +kernel
set_option maxRecDepth 20000 in
theorem ggX3_changeSetting_X8_isCardValue : GoodIn wsX3_changeSetting wsX8_isCardValue := goodIn_r _ [4, 5, 6, 7, 8, 3, 9] (by decide +kernel) (by decide +kernel)
set_option maxRecDepth 20000 in
theorem gX3_changeSetting_X8_isCardValue_n47 : GoodIn wsX3_changeSetting (wsX8_isCardValue) := ggX3_changeSetting_X8_isCardValue
theorem dX3_changeSetting_0 : decode cX3_changeSetting 0 = .ok (.iload_n 1, 1) := by decide +kernel
theorem dX3_changeSetting_1 : decode cX3_changeSetting 1 = .ok (.iload_n 2, 1) := by decide +kernel
theorem dX3_changeSetting_2 : decode cX3_changeSetting 2 = .ok (.invokestatic 47, 3) := by decide +kernel
theorem dX3_changeSetting_5 : decode cX3_changeSetting 5 = .ok (.ifCond .eq 10, 3) := by decide +kernel
theorem dX3_changeSetting_8 : decode cX3_changeSetting 8 = .ok (.aload_n 0, 1) := by decide +kernel
theorem dX3_changeSetting_9 : decode cX3_changeSetting 9 = .ok (.getfield 15, 3) := by decide +kernel
theorem dX3_changeSetting_12 : decode cX3_changeSetting 12 = .ok (.iload_n 1, 1) := by decide +kernel
theorem dX3_changeSetting_13 : decode cX3_changeSetting 13 = .ok (.iload_n 2, 1) := by decide +kernel
theorem dX3_changeSetting_14 : decode cX3_changeSetting 14 = .ok (.iastore, 1) := by decide +kernel
theorem dX3_changeSetting_15 : decode cX3_changeSetting 15 = .ok (.return_, 1) := by decide +kernel
theorem dX3_putCourse_0 : decode cX3_putCourse 0 = .ok (.aload_n 0, 1) := by decide +kernel
theorem dX3_putCourse_1 : decode cX3_putCourse 1 = .ok (.iload_n 2, 1) := by decide +kernel
theorem dX3_putCourse_2 : decode cX3_putCourse 2 = .ok (.iconst 1, 1) := by decide +kernel
theorem dX3_putCourse_3 : decode cX3_putCourse 3 = .ok (.if_icmp .ne 14, 3) := by decide +kernel
theorem dX3_putCourse_6 : decode cX3_putCourse 6 = .ok (.aload_n 0, 1) := by decide +kernel
theorem dX3_putCourse_7 : decode cX3_putCourse 7 = .ok (.getfield 22, 3) := by decide +kernel
theorem dX3_putCourse_10 : decode cX3_putCourse 10 = .ok (.iconst 1, 1) := by decide +kernel
theorem dX3_putCourse_11 : decode cX3_putCourse 11 = .ok (.iload_n 1, 1) := by decide +kernel
theorem dX3_putCourse_12 : decode cX3_putCourse 12 = .ok (.ishl, 1) := by decide +kernel
theorem dX3_putCourse_13 : decode cX3_putCourse 13 = .ok (.ior, 1) := by decide +kernel
theorem dX3_putCourse_14 : decode cX3_putCourse 14 = .ok (.goto 13, 3) := by decide +kernel
theorem dX3_putCourse_17 : decode cX3_putCourse 17 = .ok (.aload_n 0, 1) := by decide +kernel
theorem dX3_putCourse_18 : decode cX3_putCourse 18 = .ok (.getfield 22, 3) := by decide +kernel
theorem dX3_putCourse_21 : decode cX3_putCourse 21 = .ok (.iconst 1, 1) := by decide +kernel
theorem dX3_putCourse_22 : decode cX3_putCourse 22 = .ok (.iload_n 1, 1) := by decide +kernel
theorem dX3_putCourse_23 : decode cX3_putCourse 23 = .ok (.ishl, 1) := by decide +kernel
theorem dX3_putCourse_24 : decode cX3_putCourse 24 = .ok (.iconst (-1), 1) := by decide +kernel
theorem dX3_putCourse_25 : decode cX3_putCourse 25 = .ok (.ixor, 1) := by decide +kernel
theorem dX3_putCourse_26 : decode cX3_putCourse 26 = .ok (.iand, 1) := by decide +kernel
theorem dX3_putCourse_27 : decode cX3_putCourse 27 = .ok (.putfield 22, 3) := by decide +kernel
theorem dX3_putCourse_30 : decode cX3_putCourse 30 = .ok (.return_, 1) := by decide +kernel
set_option maxRecDepth 20000 in
theorem ggX3_isOffered_X3_valueOf : GoodIn wsX3_isOffered wsX3_valueOf := goodIn_r _ [5, 6, 7, 8, 9, 10] (by decide +kernel) (by decide +kernel)
set_option maxRecDepth 20000 in
theorem gX3_isOffered_X3_valueOf : GoodIn wsX3_isOffered (wsV RX3 50 RX3 yX3_valueOf wsX3_valueOf) := goodIn_app (goodIn_of _ (by decide +kernel)) ggX3_isOffered_X3_valueOf
theorem dX3_isOffered_0 : decode cX3_isOffered 0 = .ok (.aload_n 0, 1) := by decide +kernel
theorem dX3_isOffered_1 : decode cX3_isOffered 1 = .ok (.iload_n 1, 1) := by decide +kernel
theorem dX3_isOffered_2 : decode cX3_isOffered 2 = .ok (.bipush 6, 2) := by decide +kernel
theorem dX3_isOffered_4 : decode cX3_isOffered 4 = .ok (.invokevirtual 50, 3) := by decide +kernel
theorem dX3_isOffered_7 : decode cX3_isOffered 7 = .ok (.iconst 1, 1) := by decide +kernel
theorem dX3_isOffered_8 : decode cX3_isOffered 8 = .ok (.if_icmp .ne 7, 3) := by decide +kernel
theorem dX3_isOffered_11 : decode cX3_isOffered 11 = .ok (.iconst 1, 1) := by decide +kernel
theorem dX3_isOffered_12 : decode cX3_isOffered 12 = .ok (.goto 4, 3) := by decide +kernel
theorem dX3_isOffered_15 : decode cX3_isOffered 15 = .ok (.iconst 0, 1) := by decide +kernel
theorem dX3_isOffered_16 : decode cX3_isOffered 16 = .ok (.ireturn, 1) := by decide +kernel
set_option maxRecDepth 20000 in
theorem ggX3_isInSeason_X3_valueOf : GoodIn wsX3_isInSeason wsX3_valueOf := goodIn_r _ [5, 6, 10, 11, 12, 13] (by decide +kernel) (by decide +kernel)
set_option maxRecDepth 20000 in
theorem gX3_isInSeason_X3_valueOf : GoodIn wsX3_isInSeason (wsV RX3 50 RX3 yX3_valueOf wsX3_valueOf) := goodIn_app (goodIn_of _ (by decide +kernel)) ggX3_isInSeason_X3_valueOf
set_option maxRecDepth 20000 in
theorem ggX3_isInSeason_X8_has : GoodIn wsX3_isInSeason wsX8_has := goodIn_r _ [9] (by decide +kernel) (by decide +kernel)
set_option maxRecDepth 20000 in
theorem gX3_isInSeason_X8_has_n54 : GoodIn wsX3_isInSeason (wsX8_has) := ggX3_isInSeason_X8_has
theorem dX3_isInSeason_0 : decode cX3_isInSeason 0 = .ok (.aload_n 0, 1) := by decide +kernel
theorem dX3_isInSeason_1 : decode cX3_isInSeason 1 = .ok (.iload_n 1, 1) := by decide +kernel
theorem dX3_isInSeason_2 : decode cX3_isInSeason 2 = .ok (.iconst 3, 1) := by decide +kernel
theorem dX3_isInSeason_3 : decode cX3_isInSeason 3 = .ok (.invokevirtual 50, 3) := by decide +kernel
theorem dX3_isInSeason_6 : decode cX3_isInSeason 6 = .ok (.iload_n 2, 1) := by decide +kernel
theorem dX3_isInSeason_7 : decode cX3_isInSeason 7 = .ok (.invokestatic 54, 3) := by decide +kernel
theorem dX3_isInSeason_10 : decode cX3_isInSeason 10 = .ok (.ireturn, 1) := by decide +kernel
set_option maxRecDepth 20000 in
theorem ggX3_suits_X3_valueOf : GoodIn wsX3_suits wsX3_valueOf := goodIn_r _ [5, 6, 7, 8, 9, 10] (by decide +kernel) (by decide +kernel)
set_option maxRecDepth 20000 in
theorem gX3_suits_X3_valueOf : GoodIn wsX3_suits (wsV RX3 50 RX3 yX3_valueOf wsX3_valueOf) := goodIn_app (goodIn_of _ (by decide +kernel)) ggX3_suits_X3_valueOf
theorem dX3_suits_0 : decode cX3_suits 0 = .ok (.aload_n 0, 1) := by decide +kernel
theorem dX3_suits_1 : decode cX3_suits 1 = .ok (.iload_n 1, 1) := by decide +kernel
theorem dX3_suits_2 : decode cX3_suits 2 = .ok (.iconst 4, 1) := by decide +kernel
theorem dX3_suits_3 : decode cX3_suits 3 = .ok (.invokevirtual 50, 3) := by decide +kernel
theorem dX3_suits_6 : decode cX3_suits 6 = .ok (.iload_n 2, 1) := by decide +kernel
theorem dX3_suits_7 : decode cX3_suits 7 = .ok (.iand, 1) := by decide +kernel
theorem dX3_suits_8 : decode cX3_suits 8 = .ok (.ifCond .ne 7, 3) := by decide +kernel
theorem dX3_suits_11 : decode cX3_suits 11 = .ok (.iconst 1, 1) := by decide +kernel
theorem dX3_suits_12 : decode cX3_suits 12 = .ok (.goto 4, 3) := by decide +kernel
theorem dX3_suits_15 : decode cX3_suits 15 = .ok (.iconst 0, 1) := by decide +kernel
theorem dX3_suits_16 : decode cX3_suits 16 = .ok (.ireturn, 1) := by decide +kernel
set_option maxRecDepth 20000 in
theorem ggX3_mayBePrinted_X3_isInSeason : GoodIn wsX3_mayBePrinted wsX3_isInSeason := goodIn_r _ [5, 6, 7, 8, 4, 9, 10, 11, 12, 13, 18, 19, 20, 21] (by decide +kernel) (by decide +kernel)
set_option maxRecDepth 20000 in
theorem gX3_mayBePrinted_X3_isInSeason : GoodIn wsX3_mayBePrinted (wsV RX3 57 RX3 yX3_isInSeason wsX3_isInSeason) := goodIn_app (goodIn_of _ (by decide +kernel)) ggX3_mayBePrinted_X3_isInSeason
set_option maxRecDepth 20000 in
theorem ggX3_mayBePrinted_X3_suits : GoodIn wsX3_mayBePrinted wsX3_suits := goodIn_r _ [17, 6, 7, 8, 4, 9, 10, 18, 19, 20, 21] (by decide +kernel) (by decide +kernel)
set_option maxRecDepth 20000 in
theorem gX3_mayBePrinted_X3_suits : GoodIn wsX3_mayBePrinted (wsV RX3 60 RX3 yX3_suits wsX3_suits) := goodIn_app (goodIn_of _ (by decide +kernel)) ggX3_mayBePrinted_X3_suits
theorem dX3_mayBePrinted_0 : decode cX3_mayBePrinted 0 = .ok (.aload_n 0, 1) := by decide +kernel
theorem dX3_mayBePrinted_1 : decode cX3_mayBePrinted 1 = .ok (.iload_n 1, 1) := by decide +kernel
theorem dX3_mayBePrinted_2 : decode cX3_mayBePrinted 2 = .ok (.iload_n 2, 1) := by decide +kernel
theorem dX3_mayBePrinted_3 : decode cX3_mayBePrinted 3 = .ok (.invokevirtual 57, 3) := by decide +kernel
theorem dX3_mayBePrinted_6 : decode cX3_mayBePrinted 6 = .ok (.ifCond .eq 16, 3) := by decide +kernel
theorem dX3_mayBePrinted_9 : decode cX3_mayBePrinted 9 = .ok (.aload_n 0, 1) := by decide +kernel
theorem dX3_mayBePrinted_10 : decode cX3_mayBePrinted 10 = .ok (.iload_n 1, 1) := by decide +kernel
theorem dX3_mayBePrinted_11 : decode cX3_mayBePrinted 11 = .ok (.iload_n 3, 1) := by decide +kernel
theorem dX3_mayBePrinted_12 : decode cX3_mayBePrinted 12 = .ok (.invokevirtual 60, 3) := by decide +kernel
theorem dX3_mayBePrinted_15 : decode cX3_mayBePrinted 15 = .ok (.ifCond .eq 7, 3) := by decide +kernel
theorem dX3_mayBePrinted_18 : decode cX3_mayBePrinted 18 = .ok (.iconst 1, 1) := by decide +kernel
theorem dX3_mayBePrinted_19 : decode cX3_mayBePrinted 19 = .ok (.goto 4, 3) := by decide +kernel
theorem dX3_mayBePrinted_22 : decode cX3_mayBePrinted 22 = .ok (.iconst 0, 1) := by decide +kernel
theorem dX3_mayBePrinted_23 : decode cX3_mayBePrinted 23 = .ok (.ireturn, 1) := by decide +kernel
set_option maxRecDepth 20000 in
theorem ggX3_textOf_X3_valueOf : GoodIn wsX3_textOf wsX3_valueOf := goodIn_r _ [5, 6, 14, 15, 16, 17] (by decide +kernel) (by decide +kernel)
set_option maxRecDepth 20000 in
theorem gX3_textOf_X3_valueOf : GoodIn wsX3_textOf (wsV RX3 50 RX3 yX3_valueOf wsX3_valueOf) := goodIn_app (goodIn_of _ (by decide +kernel)) ggX3_textOf_X3_valueOf
set_option maxRecDepth 20000 in
theorem ggX3_textOf_J6_bitCount_0f7a4 : GoodIn wsX3_textOf wsJ6_bitCount_0f7a4 := goodIn_r _ [10, 11, 12, 13] (by decide +kernel) (by decide +kernel)
set_option maxRecDepth 20000 in
theorem gX3_textOf_J6_bitCount_0f7a4 : GoodIn wsX3_textOf (va_wsS RX3 63 yJ6_bitCount_0f7a4 wsJ6_bitCount_0f7a4) := goodIn_app (goodIn_of _ (by decide +kernel)) ggX3_textOf_J6_bitCount_0f7a4
theorem dX3_textOf_0 : decode cX3_textOf 0 = .ok (.aload_n 0, 1) := by decide +kernel
theorem dX3_textOf_1 : decode cX3_textOf 1 = .ok (.iload_n 1, 1) := by decide +kernel
theorem dX3_textOf_2 : decode cX3_textOf 2 = .ok (.iconst 4, 1) := by decide +kernel
theorem dX3_textOf_3 : decode cX3_textOf 3 = .ok (.invokevirtual 50, 3) := by decide +kernel
theorem dX3_textOf_6 : decode cX3_textOf 6 = .ok (.istore_n 2, 1) := by decide +kernel
theorem dX3_textOf_7 : decode cX3_textOf 7 = .ok (.aload_n 0, 1) := by decide +kernel
theorem dX3_textOf_8 : decode cX3_textOf 8 = .ok (.iload_n 1, 1) := by decide +kernel
theorem dX3_textOf_9 : decode cX3_textOf 9 = .ok (.iconst 1, 1) := by decide +kernel
theorem dX3_textOf_10 : decode cX3_textOf 10 = .ok (.invokevirtual 50, 3) := by decide +kernel
theorem dX3_textOf_13 : decode cX3_textOf 13 = .ok (.iload_n 2, 1) := by decide +kernel
theorem dX3_textOf_14 : decode cX3_textOf 14 = .ok (.ifCond .ne 7, 3) := by decide +kernel
theorem dX3_textOf_17 : decode cX3_textOf 17 = .ok (.iconst 0, 1) := by decide +kernel
theorem dX3_textOf_18 : decode cX3_textOf 18 = .ok (.goto 9, 3) := by decide +kernel
theorem dX3_textOf_21 : decode cX3_textOf 21 = .ok (.iconst 1, 1) := by decide +kernel
theorem dX3_textOf_22 : decode cX3_textOf 22 = .ok (.iload_n 2, 1) := by decide +kernel
theorem dX3_textOf_23 : decode cX3_textOf 23 = .ok (.invokestatic 63, 3) := by decide +kernel
theorem dX3_textOf_26 : decode cX3_textOf 26 = .ok (.iadd, 1) := by decide +kernel
theorem dX3_textOf_27 : decode cX3_textOf 27 = .ok (.iadd, 1) := by decide +kernel
theorem dX3_textOf_28 : decode cX3_textOf 28 = .ok (.ireturn, 1) := by decide +kernel
set_option maxRecDepth 20000 in
theorem ggX3_linesOf_X3_textOf : GoodIn wsX3_linesOf wsX3_textOf := goodIn_r _ [5, 6, 7, 8, 4, 9, 10, 11, 12, 13, 14, 15, 16, 17, 26, 27, 28, 29] (by decide +kernel) (by decide +kernel)
set_option maxRecDepth 20000 in
theorem gX3_linesOf_X3_textOf : GoodIn wsX3_linesOf (wsV RX3 69 RX3 yX3_textOf wsX3_textOf) := goodIn_app (goodIn_of _ (by decide +kernel)) ggX3_linesOf_X3_textOf
set_option maxRecDepth 20000 in
theorem ggX3_linesOf_X3_setting : GoodIn wsX3_linesOf wsX3_setting := goodIn_r _ [21, 22, 26, 27, 28, 29] (by decide +kernel) (by decide +kernel)
set_option maxRecDepth 20000 in
theorem gX3_linesOf_X3_setting : GoodIn wsX3_linesOf (wsV RX3 72 RX3 yX3_setting wsX3_setting) := goodIn_app (goodIn_of _ (by decide +kernel)) ggX3_linesOf_X3_setting
set_option maxRecDepth 20000 in
theorem ggX3_linesOf_X8_partsOfSize : GoodIn wsX3_linesOf wsX8_partsOfSize := goodIn_r _ [25] (by decide +kernel) (by decide +kernel)
set_option maxRecDepth 20000 in
theorem gX3_linesOf_X8_partsOfSize_n75 : GoodIn wsX3_linesOf (wsX8_partsOfSize) := ggX3_linesOf_X8_partsOfSize
theorem dX3_linesOf_0 : decode cX3_linesOf 0 = .ok (.aload_n 0, 1) := by decide +kernel
theorem dX3_linesOf_1 : decode cX3_linesOf 1 = .ok (.iload_n 1, 1) := by decide +kernel
theorem dX3_linesOf_2 : decode cX3_linesOf 2 = .ok (.invokevirtual 69, 3) := by decide +kernel
theorem dX3_linesOf_5 : decode cX3_linesOf 5 = .ok (.iconst 3, 1) := by decide +kernel
theorem dX3_linesOf_6 : decode cX3_linesOf 6 = .ok (.iadd, 1) := by decide +kernel
theorem dX3_linesOf_7 : decode cX3_linesOf 7 = .ok (.iload_n 2, 1) := by decide +kernel
theorem dX3_linesOf_8 : decode cX3_linesOf 8 = .ok (.iadd, 1) := by decide +kernel
theorem dX3_linesOf_9 : decode cX3_linesOf 9 = .ok (.aload_n 0, 1) := by decide +kernel
theorem dX3_linesOf_10 : decode cX3_linesOf 10 = .ok (.iconst 1, 1) := by decide +kernel
theorem dX3_linesOf_11 : decode cX3_linesOf 11 = .ok (.invokevirtual 72, 3) := by decide +kernel
theorem dX3_linesOf_14 : decode cX3_linesOf 14 = .ok (.invokestatic 75, 3) := by decide +kernel
theorem dX3_linesOf_17 : decode cX3_linesOf 17 = .ok (.ireturn, 1) := by decide +kernel
