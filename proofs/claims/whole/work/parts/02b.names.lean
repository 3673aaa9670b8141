theorem dX0_init_0 : decode cX0_init 0 = .ok (.aload_n 0, 1) := by decide +kernel
theorem dX0_init_1 : decode cX0_init 1 = .ok (.invokespecial 3, 3) := by decide +kernel
theorem dX0_init_4 : decode cX0_init 4 = .ok (.aload_n 0, 1) := by decide +kernel
theorem dX0_init_5 : decode cX0_init 5 = .ok (.sipush 200, 3) := by decide +kernel
theorem dX0_init_8 : decode cX0_init 8 = .ok (.newarray .char, 2) := by decide +kernel
theorem dX0_init_10 : decode cX0_init 10 = .ok (.putfield 9, 3) := by decide +kernel
theorem dX0_init_13 : decode cX0_init 13 = .ok (.aload_n 0, 1) := by decide +kernel
theorem dX0_init_14 : decode cX0_init 14 = .ok (.iconst 0, 1) := by decide +kernel
theorem dX0_init_15 : decode cX0_init 15 = .ok (.putfield 15, 3) := by decide +kernel
theorem dX0_init_18 : decode cX0_init 18 = .ok (.return_, 1) := by decide +kernel
theorem dX0_size_0 : decode cX0_size 0 = .ok (.aload_n 0, 1) := by decide +kernel
theorem dX0_size_1 : decode cX0_size 1 = .ok (.getfield 15, 3) := by decide +kernel
theorem dX0_size_4 : decode cX0_size 4 = .ok (.ireturn, 1) := by decide +kernel
theorem dX0_isFull_0 : decode cX0_isFull 0 = .ok (.aload_n 0, 1) := by decide +kernel
theorem dX0_isFull_1 : decode cX0_isFull 1 = .ok (.getfield 15, 3) := by decide +kernel
theorem dX0_isFull_4 : decode cX0_isFull 4 = .ok (.aload_n 0, 1) := by decide +kernel
theorem dX0_isFull_5 : decode cX0_isFull 5 = .ok (.getfield 9, 3) := by decide +kernel
theorem dX0_isFull_8 : decode cX0_isFull 8 = .ok (.arraylength, 1) := by decide +kernel
theorem dX0_isFull_9 : decode cX0_isFull 9 = .ok (.if_icmp .lt 7, 3) := by decide +kernel
theorem dX0_isFull_12 : decode cX0_isFull 12 = .ok (.iconst 1, 1) := by decide +kernel
theorem dX0_isFull_13 : decode cX0_isFull 13 = .ok (.goto 4, 3) := by decide +kernel
theorem dX0_isFull_16 : decode cX0_isFull 16 = .ok (.iconst 0, 1) := by decide +kernel
theorem dX0_isFull_17 : decode cX0_isFull 17 = .ok (.ireturn, 1) := by decide +kernel
theorem dX0_add_0 : decode cX0_add 0 = .ok (.aload_n 0, 1) := by decide +kernel
theorem dX0_add_1 : decode cX0_add 1 = .ok (.getfield 15, 3) := by decide +kernel
theorem dX0_add_4 : decode cX0_add 4 = .ok (.ifCond .lt 35, 3) := by decide +kernel
theorem dX0_add_7 : decode cX0_add 7 = .ok (.aload_n 0, 1) := by decide +kernel
theorem dX0_add_8 : decode cX0_add 8 = .ok (.getfield 15, 3) := by decide +kernel
theorem dX0_add_11 : decode cX0_add 11 = .ok (.aload_n 0, 1) := by decide +kernel
theorem dX0_add_12 : decode cX0_add 12 = .ok (.getfield 9, 3) := by decide +kernel
theorem dX0_add_15 : decode cX0_add 15 = .ok (.arraylength, 1) := by decide +kernel
theorem dX0_add_16 : decode cX0_add 16 = .ok (.if_icmp .ge 23, 3) := by decide +kernel
theorem dX0_add_19 : decode cX0_add 19 = .ok (.aload_n 0, 1) := by decide +kernel
theorem dX0_add_20 : decode cX0_add 20 = .ok (.getfield 9, 3) := by decide +kernel
theorem dX0_add_23 : decode cX0_add 23 = .ok (.aload_n 0, 1) := by decide +kernel
theorem dX0_add_24 : decode cX0_add 24 = .ok (.getfield 15, 3) := by decide +kernel
theorem dX0_add_27 : decode cX0_add 27 = .ok (.iload_n 1, 1) := by decide +kernel
theorem dX0_add_28 : decode cX0_add 28 = .ok (.castore, 1) := by decide +kernel
theorem dX0_add_29 : decode cX0_add 29 = .ok (.aload_n 0, 1) := by decide +kernel
theorem dX0_add_30 : decode cX0_add 30 = .ok (.dup, 1) := by decide +kernel
theorem dX0_add_31 : decode cX0_add 31 = .ok (.getfield 15, 3) := by decide +kernel
theorem dX0_add_34 : decode cX0_add 34 = .ok (.iconst 1, 1) := by decide +kernel
theorem dX0_add_35 : decode cX0_add 35 = .ok (.iadd, 1) := by decide +kernel
theorem dX0_add_36 : decode cX0_add 36 = .ok (.putfield 15, 3) := by decide +kernel
theorem dX0_add_39 : decode cX0_add 39 = .ok (.return_, 1) := by decide +kernel
theorem dX0_clear_0 : decode cX0_clear 0 = .ok (.aload_n 0, 1) := by decide +kernel
theorem dX0_clear_1 : decode cX0_clear 1 = .ok (.iconst 0, 1) := by decide +kernel
theorem dX0_clear_2 : decode cX0_clear 2 = .ok (.putfield 15, 3) := by decide +kernel
theorem dX0_clear_5 : decode cX0_clear 5 = .ok (.return_, 1) := by decide +kernel
theorem dX0_at_0 : decode cX0_at 0 = .ok (.iload_n 1, 1) := by decide +kernel
theorem dX0_at_1 : decode cX0_at 1 = .ok (.ifCond .lt 29, 3) := by decide +kernel
theorem dX0_at_4 : decode cX0_at 4 = .ok (.iload_n 1, 1) := by decide +kernel
theorem dX0_at_5 : decode cX0_at 5 = .ok (.aload_n 0, 1) := by decide +kernel
theorem dX0_at_6 : decode cX0_at 6 = .ok (.getfield 15, 3) := by decide +kernel
theorem dX0_at_9 : decode cX0_at 9 = .ok (.if_icmp .ge 21, 3) := by decide +kernel
theorem dX0_at_12 : decode cX0_at 12 = .ok (.iload_n 1, 1) := by decide +kernel
theorem dX0_at_13 : decode cX0_at 13 = .ok (.aload_n 0, 1) := by decide +kernel
theorem dX0_at_14 : decode cX0_at 14 = .ok (.getfield 9, 3) := by decide +kernel
theorem dX0_at_17 : decode cX0_at 17 = .ok (.arraylength, 1) := by decide +kernel
theorem dX0_at_18 : decode cX0_at 18 = .ok (.if_icmp .ge 12, 3) := by decide +kernel
theorem dX0_at_21 : decode cX0_at 21 = .ok (.aload_n 0, 1) := by decide +kernel
theorem dX0_at_22 : decode cX0_at 22 = .ok (.getfield 9, 3) := by decide +kernel
theorem dX0_at_25 : decode cX0_at 25 = .ok (.iload_n 1, 1) := by decide +kernel
theorem dX0_at_26 : decode cX0_at 26 = .ok (.caload, 1) := by decide +kernel
theorem dX0_at_27 : decode cX0_at 27 = .ok (.goto 4, 3) := by decide +kernel
theorem dX0_at_30 : decode cX0_at 30 = .ok (.iconst 0, 1) := by decide +kernel
theorem dX0_at_31 : decode cX0_at 31 = .ok (.ireturn, 1) := by decide +kernel
theorem dX0_figureAt_0 : decode cX0_figureAt 0 = .ok (.aload_n 0, 1) := by decide +kernel
theorem dX0_figureAt_1 : decode cX0_figureAt 1 = .ok (.iload_n 1, 1) := by decide +kernel
theorem dX0_figureAt_2 : decode cX0_figureAt 2 = .ok (.invokevirtual 19, 3) := by decide +kernel
theorem dX0_figureAt_5 : decode cX0_figureAt 5 = .ok (.istore_n 2, 1) := by decide +kernel
theorem dX0_figureAt_6 : decode cX0_figureAt 6 = .ok (.iload_n 2, 1) := by decide +kernel
theorem dX0_figureAt_7 : decode cX0_figureAt 7 = .ok (.bipush 48, 2) := by decide +kernel
theorem dX0_figureAt_9 : decode cX0_figureAt 9 = .ok (.if_icmp .lt 16, 3) := by decide +kernel
theorem dX0_figureAt_12 : decode cX0_figureAt 12 = .ok (.iload_n 2, 1) := by decide +kernel
theorem dX0_figureAt_13 : decode cX0_figureAt 13 = .ok (.bipush 57, 2) := by decide +kernel
theorem dX0_figureAt_15 : decode cX0_figureAt 15 = .ok (.if_icmp .gt 10, 3) := by decide +kernel
theorem dX0_figureAt_18 : decode cX0_figureAt 18 = .ok (.iload_n 2, 1) := by decide +kernel
theorem dX0_figureAt_19 : decode cX0_figureAt 19 = .ok (.bipush 48, 2) := by decide +kernel
theorem dX0_figureAt_21 : decode cX0_figureAt 21 = .ok (.isub, 1) := by decide +kernel
theorem dX0_figureAt_22 : decode cX0_figureAt 22 = .ok (.goto 5, 3) := by decide +kernel
theorem dX0_figureAt_25 : decode cX0_figureAt 25 = .ok (.bipush (-4), 2) := by decide +kernel
theorem dX0_figureAt_27 : decode cX0_figureAt 27 = .ok (.ireturn, 1) := by decide +kernel
theorem dX1_init_0 : decode cX1_init 0 = .ok (.aload_n 0, 1) := by decide +kernel
theorem dX1_init_1 : decode cX1_init 1 = .ok (.invokespecial 1, 3) := by decide +kernel
theorem dX1_init_4 : decode cX1_init 4 = .ok (.aload_n 0, 1) := by decide +kernel
theorem dX1_init_5 : decode cX1_init 5 = .ok (.iconst 0, 1) := by decide +kernel
theorem dX1_init_6 : decode cX1_init 6 = .ok (.putfield 7, 3) := by decide +kernel
theorem dX1_init_9 : decode cX1_init 9 = .ok (.aload_n 0, 1) := by decide +kernel
theorem dX1_init_10 : decode cX1_init 10 = .ok (.iconst 1, 1) := by decide +kernel
theorem dX1_init_11 : decode cX1_init 11 = .ok (.iload_n 1, 1) := by decide +kernel
theorem dX1_init_12 : decode cX1_init 12 = .ok (.invokestatic 13, 3) := by decide +kernel
theorem dX1_init_15 : decode cX1_init 15 = .ok (.anewarray 19, 3) := by decide +kernel
theorem dX1_init_18 : decode cX1_init 18 = .ok (.putfield 21, 3) := by decide +kernel
theorem dX1_init_21 : decode cX1_init 21 = .ok (.iconst 0, 1) := by decide +kernel
theorem dX1_init_22 : decode cX1_init 22 = .ok (.istore_n 2, 1) := by decide +kernel
theorem dX1_init_23 : decode cX1_init 23 = .ok (.iload_n 2, 1) := by decide +kernel
theorem dX1_init_24 : decode cX1_init 24 = .ok (.aload_n 0, 1) := by decide +kernel
theorem dX1_init_25 : decode cX1_init 25 = .ok (.getfield 21, 3) := by decide +kernel
theorem dX1_init_28 : decode cX1_init 28 = .ok (.arraylength, 1) := by decide +kernel
theorem dX1_init_29 : decode cX1_init 29 = .ok (.if_icmp .ge 22, 3) := by decide +kernel
theorem dX1_init_32 : decode cX1_init 32 = .ok (.aload_n 0, 1) := by decide +kernel
theorem dX1_init_33 : decode cX1_init 33 = .ok (.getfield 21, 3) := by decide +kernel
theorem dX1_init_36 : decode cX1_init 36 = .ok (.iload_n 2, 1) := by decide +kernel
theorem dX1_init_37 : decode cX1_init 37 = .ok (.new 19, 3) := by decide +kernel
theorem dX1_init_40 : decode cX1_init 40 = .ok (.dup, 1) := by decide +kernel
theorem dX1_init_41 : decode cX1_init 41 = .ok (.invokespecial 25, 3) := by decide +kernel
theorem dX1_init_44 : decode cX1_init 44 = .ok (.aastore, 1) := by decide +kernel
theorem dX1_init_45 : decode cX1_init 45 = .ok (.iinc 2 1, 3) := by decide +kernel
theorem dX1_init_48 : decode cX1_init 48 = .ok (.goto (-25), 3) := by decide +kernel
theorem dX1_init_51 : decode cX1_init 51 = .ok (.return_, 1) := by decide +kernel
theorem dX1_size_0 : decode cX1_size 0 = .ok (.aload_n 0, 1) := by decide +kernel
theorem dX1_size_1 : decode cX1_size 1 = .ok (.getfield 7, 3) := by decide +kernel
theorem dX1_size_4 : decode cX1_size 4 = .ok (.ireturn, 1) := by decide +kernel
theorem dX1_isFull_0 : decode cX1_isFull 0 = .ok (.aload_n 0, 1) := by decide +kernel
theorem dX1_isFull_1 : decode cX1_isFull 1 = .ok (.getfield 7, 3) := by decide +kernel
theorem dX1_isFull_4 : decode cX1_isFull 4 = .ok (.aload_n 0, 1) := by decide +kernel
theorem dX1_isFull_5 : decode cX1_isFull 5 = .ok (.getfield 21, 3) := by decide +kernel
theorem dX1_isFull_8 : decode cX1_isFull 8 = .ok (.arraylength, 1) := by decide +kernel
theorem dX1_isFull_9 : decode cX1_isFull 9 = .ok (.if_icmp .lt 7, 3) := by decide +kernel
theorem dX1_isFull_12 : decode cX1_isFull 12 = .ok (.iconst 1, 1) := by decide +kernel
theorem dX1_isFull_13 : decode cX1_isFull 13 = .ok (.goto 4, 3) := by decide +kernel
theorem dX1_isFull_16 : decode cX1_isFull 16 = .ok (.iconst 0, 1) := by decide +kernel
theorem dX1_isFull_17 : decode cX1_isFull 17 = .ok (.ireturn, 1) := by decide +kernel
theorem dX1_clear_0 : decode cX1_clear 0 = .ok (.aload_n 0, 1) := by decide +kernel
theorem dX1_clear_1 : decode cX1_clear 1 = .ok (.iconst 0, 1) := by decide +kernel
theorem dX1_clear_2 : decode cX1_clear 2 = .ok (.putfield 7, 3) := by decide +kernel
theorem dX1_clear_5 : decode cX1_clear 5 = .ok (.return_, 1) := by decide +kernel
theorem dX1_push_0 : decode cX1_push 0 = .ok (.aload_n 0, 1) := by decide +kernel
theorem dX1_push_1 : decode cX1_push 1 = .ok (.invokevirtual 26, 3) := by decide +kernel
theorem dX1_push_4 : decode cX1_push 4 = .ok (.ifCond .eq 7, 3) := by decide +kernel
theorem dX1_push_7 : decode cX1_push 7 = .ok (.aload_n 0, 1) := by decide +kernel
theorem dX1_push_8 : decode cX1_push 8 = .ok (.invokevirtual 30, 3) := by decide +kernel
theorem dX1_push_11 : decode cX1_push 11 = .ok (.aload_n 0, 1) := by decide +kernel
theorem dX1_push_12 : decode cX1_push 12 = .ok (.aload_n 0, 1) := by decide +kernel
theorem dX1_push_13 : decode cX1_push 13 = .ok (.getfield 7, 3) := by decide +kernel
theorem dX1_push_16 : decode cX1_push 16 = .ok (.invokevirtual 33, 3) := by decide +kernel
theorem dX1_push_19 : decode cX1_push 19 = .ok (.astore_n 2, 1) := by decide +kernel
theorem dX1_push_20 : decode cX1_push 20 = .ok (.aload_n 2, 1) := by decide +kernel
theorem dX1_push_21 : decode cX1_push 21 = .ok (.ifnull 18, 3) := by decide +kernel
theorem dX1_push_24 : decode cX1_push 24 = .ok (.aload_n 2, 1) := by decide +kernel
theorem dX1_push_25 : decode cX1_push 25 = .ok (.aload_n 1, 1) := by decide +kernel
theorem dX1_push_26 : decode cX1_push 26 = .ok (.invokevirtual 37, 3) := by decide +kernel
theorem dX1_push_29 : decode cX1_push 29 = .ok (.aload_n 0, 1) := by decide +kernel
theorem dX1_push_30 : decode cX1_push 30 = .ok (.dup, 1) := by decide +kernel
theorem dX1_push_31 : decode cX1_push 31 = .ok (.getfield 7, 3) := by decide +kernel
theorem dX1_push_34 : decode cX1_push 34 = .ok (.iconst 1, 1) := by decide +kernel
theorem dX1_push_35 : decode cX1_push 35 = .ok (.iadd, 1) := by decide +kernel
theorem dX1_push_36 : decode cX1_push 36 = .ok (.putfield 7, 3) := by decide +kernel
theorem dX1_push_39 : decode cX1_push 39 = .ok (.return_, 1) := by decide +kernel
theorem dX1_popInto_0 : decode cX1_popInto 0 = .ok (.aload_n 0, 1) := by decide +kernel
theorem dX1_popInto_1 : decode cX1_popInto 1 = .ok (.aload_n 0, 1) := by decide +kernel
theorem dX1_popInto_2 : decode cX1_popInto 2 = .ok (.getfield 7, 3) := by decide +kernel
theorem dX1_popInto_5 : decode cX1_popInto 5 = .ok (.iconst 1, 1) := by decide +kernel
theorem dX1_popInto_6 : decode cX1_popInto 6 = .ok (.isub, 1) := by decide +kernel
theorem dX1_popInto_7 : decode cX1_popInto 7 = .ok (.invokevirtual 33, 3) := by decide +kernel
theorem dX1_popInto_10 : decode cX1_popInto 10 = .ok (.astore_n 2, 1) := by decide +kernel
theorem dX1_popInto_11 : decode cX1_popInto 11 = .ok (.aload_n 2, 1) := by decide +kernel
theorem dX1_popInto_12 : decode cX1_popInto 12 = .ok (.ifnull 18, 3) := by decide +kernel
theorem dX1_popInto_15 : decode cX1_popInto 15 = .ok (.aload_n 1, 1) := by decide +kernel
theorem dX1_popInto_16 : decode cX1_popInto 16 = .ok (.aload_n 2, 1) := by decide +kernel
theorem dX1_popInto_17 : decode cX1_popInto 17 = .ok (.invokevirtual 37, 3) := by decide +kernel
theorem dX1_popInto_20 : decode cX1_popInto 20 = .ok (.aload_n 0, 1) := by decide +kernel
theorem dX1_popInto_21 : decode cX1_popInto 21 = .ok (.dup, 1) := by decide +kernel
theorem dX1_popInto_22 : decode cX1_popInto 22 = .ok (.getfield 7, 3) := by decide +kernel
theorem dX1_popInto_25 : decode cX1_popInto 25 = .ok (.iconst 1, 1) := by decide +kernel
theorem dX1_popInto_26 : decode cX1_popInto 26 = .ok (.isub, 1) := by decide +kernel
theorem dX1_popInto_27 : decode cX1_popInto 27 = .ok (.putfield 7, 3) := by decide +kernel
theorem dX1_popInto_30 : decode cX1_popInto 30 = .ok (.return_, 1) := by decide +kernel
theorem dX1_at_0 : decode cX1_at 0 = .ok (.iload_n 1, 1) := by decide +kernel
theorem dX1_at_1 : decode cX1_at 1 = .ok (.ifCond .lt 21, 3) := by decide +kernel
theorem dX1_at_4 : decode cX1_at 4 = .ok (.iload_n 1, 1) := by decide +kernel
theorem dX1_at_5 : decode cX1_at 5 = .ok (.aload_n 0, 1) := by decide +kernel
theorem dX1_at_6 : decode cX1_at 6 = .ok (.getfield 21, 3) := by decide +kernel
theorem dX1_at_9 : decode cX1_at 9 = .ok (.arraylength, 1) := by decide +kernel
theorem dX1_at_10 : decode cX1_at 10 = .ok (.if_icmp .ge 12, 3) := by decide +kernel
theorem dX1_at_13 : decode cX1_at 13 = .ok (.aload_n 0, 1) := by decide +kernel
theorem dX1_at_14 : decode cX1_at 14 = .ok (.getfield 21, 3) := by decide +kernel
theorem dX1_at_17 : decode cX1_at 17 = .ok (.iload_n 1, 1) := by decide +kernel
theorem dX1_at_18 : decode cX1_at 18 = .ok (.aaload, 1) := by decide +kernel
theorem dX1_at_19 : decode cX1_at 19 = .ok (.goto 4, 3) := by decide +kernel
theorem dX1_at_22 : decode cX1_at 22 = .ok (.aconst_null, 1) := by decide +kernel
theorem dX1_at_23 : decode cX1_at 23 = .ok (.areturn, 1) := by decide +kernel
theorem dX1_dropOldest_0 : decode cX1_dropOldest 0 = .ok (.aload_n 0, 1) := by decide +kernel
theorem dX1_dropOldest_1 : decode cX1_dropOldest 1 = .ok (.getfield 21, 3) := by decide +kernel
theorem dX1_dropOldest_4 : decode cX1_dropOldest 4 = .ok (.iconst 0, 1) := by decide +kernel
theorem dX1_dropOldest_5 : decode cX1_dropOldest 5 = .ok (.aaload, 1) := by decide +kernel
theorem dX1_dropOldest_6 : decode cX1_dropOldest 6 = .ok (.astore_n 1, 1) := by decide +kernel
theorem dX1_dropOldest_7 : decode cX1_dropOldest 7 = .ok (.iconst 1, 1) := by decide +kernel
theorem dX1_dropOldest_8 : decode cX1_dropOldest 8 = .ok (.istore_n 2, 1) := by decide +kernel
theorem dX1_dropOldest_9 : decode cX1_dropOldest 9 = .ok (.iload_n 2, 1) := by decide +kernel
theorem dX1_dropOldest_10 : decode cX1_dropOldest 10 = .ok (.aload_n 0, 1) := by decide +kernel
theorem dX1_dropOldest_11 : decode cX1_dropOldest 11 = .ok (.getfield 21, 3) := by decide +kernel
theorem dX1_dropOldest_14 : decode cX1_dropOldest 14 = .ok (.arraylength, 1) := by decide +kernel
theorem dX1_dropOldest_15 : decode cX1_dropOldest 15 = .ok (.if_icmp .ge 23, 3) := by decide +kernel
theorem dX1_dropOldest_18 : decode cX1_dropOldest 18 = .ok (.aload_n 0, 1) := by decide +kernel
theorem dX1_dropOldest_19 : decode cX1_dropOldest 19 = .ok (.getfield 21, 3) := by decide +kernel
theorem dX1_dropOldest_22 : decode cX1_dropOldest 22 = .ok (.iload_n 2, 1) := by decide +kernel
theorem dX1_dropOldest_23 : decode cX1_dropOldest 23 = .ok (.iconst 1, 1) := by decide +kernel
theorem dX1_dropOldest_24 : decode cX1_dropOldest 24 = .ok (.isub, 1) := by decide +kernel
theorem dX1_dropOldest_25 : decode cX1_dropOldest 25 = .ok (.aload_n 0, 1) := by decide +kernel
theorem dX1_dropOldest_26 : decode cX1_dropOldest 26 = .ok (.getfield 21, 3) := by decide +kernel
theorem dX1_dropOldest_29 : decode cX1_dropOldest 29 = .ok (.iload_n 2, 1) := by decide +kernel
theorem dX1_dropOldest_30 : decode cX1_dropOldest 30 = .ok (.aaload, 1) := by decide +kernel
theorem dX1_dropOldest_31 : decode cX1_dropOldest 31 = .ok (.aastore, 1) := by decide +kernel
theorem dX1_dropOldest_32 : decode cX1_dropOldest 32 = .ok (.iinc 2 1, 3) := by decide +kernel
theorem dX1_dropOldest_35 : decode cX1_dropOldest 35 = .ok (.goto (-26), 3) := by decide +kernel
theorem dX1_dropOldest_38 : decode cX1_dropOldest 38 = .ok (.aload_n 0, 1) := by decide +kernel
theorem dX1_dropOldest_39 : decode cX1_dropOldest 39 = .ok (.getfield 21, 3) := by decide +kernel
theorem dX1_dropOldest_42 : decode cX1_dropOldest 42 = .ok (.aload_n 0, 1) := by decide +kernel
theorem dX1_dropOldest_43 : decode cX1_dropOldest 43 = .ok (.getfield 21, 3) := by decide +kernel
theorem dX1_dropOldest_46 : decode cX1_dropOldest 46 = .ok (.arraylength, 1) := by decide +kernel
theorem dX1_dropOldest_47 : decode cX1_dropOldest 47 = .ok (.iconst 1, 1) := by decide +kernel
theorem dX1_dropOldest_48 : decode cX1_dropOldest 48 = .ok (.isub, 1) := by decide +kernel
theorem dX1_dropOldest_49 : decode cX1_dropOldest 49 = .ok (.aload_n 1, 1) := by decide +kernel
theorem dX1_dropOldest_50 : decode cX1_dropOldest 50 = .ok (.aastore, 1) := by decide +kernel
theorem dX1_dropOldest_51 : decode cX1_dropOldest 51 = .ok (.aload_n 0, 1) := by decide +kernel
theorem dX1_dropOldest_52 : decode cX1_dropOldest 52 = .ok (.aload_n 0, 1) := by decide +kernel
theorem dX1_dropOldest_53 : decode cX1_dropOldest 53 = .ok (.getfield 21, 3) := by decide +kernel
theorem dX1_dropOldest_56 : decode cX1_dropOldest 56 = .ok (.arraylength, 1) := by decide +kernel
theorem dX1_dropOldest_57 : decode cX1_dropOldest 57 = .ok (.iconst 1, 1) := by decide +kernel
theorem dX1_dropOldest_58 : decode cX1_dropOldest 58 = .ok (.isub, 1) := by decide +kernel
theorem dX1_dropOldest_59 : decode cX1_dropOldest 59 = .ok (.putfield 7, 3) := by decide +kernel
theorem dX1_dropOldest_62 : decode cX1_dropOldest 62 = .ok (.return_, 1) := by decide +kernel
theorem dX2_init_0 : decode cX2_init 0 = .ok (.aload_n 0, 1) := by decide +kernel
theorem dX2_init_1 : decode cX2_init 1 = .ok (.invokespecial 3, 3) := by decide +kernel
theorem dX2_init_4 : decode cX2_init 4 = .ok (.aload_n 0, 1) := by decide +kernel
theorem dX2_init_5 : decode cX2_init 5 = .ok (.bipush 24, 2) := by decide +kernel
theorem dX2_init_7 : decode cX2_init 7 = .ok (.newarray .int, 2) := by decide +kernel
theorem dX2_init_9 : decode cX2_init 9 = .ok (.putfield 9, 3) := by decide +kernel
theorem dX2_init_12 : decode cX2_init 12 = .ok (.aload_n 0, 1) := by decide +kernel
theorem dX2_init_13 : decode cX2_init 13 = .ok (.bipush 24, 2) := by decide +kernel
theorem dX2_init_15 : decode cX2_init 15 = .ok (.newarray .int, 2) := by decide +kernel
theorem dX2_init_17 : decode cX2_init 17 = .ok (.putfield 15, 3) := by decide +kernel
theorem dX2_init_20 : decode cX2_init 20 = .ok (.aload_n 0, 1) := by decide +kernel
theorem dX2_init_21 : decode cX2_init 21 = .ok (.bipush 12, 2) := by decide +kernel
theorem dX2_init_23 : decode cX2_init 23 = .ok (.newarray .int, 2) := by decide +kernel
theorem dX2_init_25 : decode cX2_init 25 = .ok (.putfield 18, 3) := by decide +kernel
theorem dX2_init_28 : decode cX2_init 28 = .ok (.aload_n 0, 1) := by decide +kernel
theorem dX2_init_29 : decode cX2_init 29 = .ok (.iconst 0, 1) := by decide +kernel
theorem dX2_init_30 : decode cX2_init 30 = .ok (.putfield 21, 3) := by decide +kernel
theorem dX2_init_33 : decode cX2_init 33 = .ok (.aload_n 0, 1) := by decide +kernel
theorem dX2_init_34 : decode cX2_init 34 = .ok (.iconst 0, 1) := by decide +kernel
theorem dX2_init_35 : decode cX2_init 35 = .ok (.putfield 25, 3) := by decide +kernel
theorem dX2_init_38 : decode cX2_init 38 = .ok (.aload_n 0, 1) := by decide +kernel
theorem dX2_init_39 : decode cX2_init 39 = .ok (.iconst 0, 1) := by decide +kernel
theorem dX2_init_40 : decode cX2_init 40 = .ok (.putfield 28, 3) := by decide +kernel
theorem dX2_init_43 : decode cX2_init 43 = .ok (.aload_n 0, 1) := by decide +kernel
theorem dX2_init_44 : decode cX2_init 44 = .ok (.iconst 0, 1) := by decide +kernel
theorem dX2_init_45 : decode cX2_init 45 = .ok (.putfield 31, 3) := by decide +kernel
theorem dX2_init_48 : decode cX2_init 48 = .ok (.return_, 1) := by decide +kernel
theorem dX2_clear_0 : decode cX2_clear 0 = .ok (.aload_n 0, 1) := by decide +kernel
theorem dX2_clear_1 : decode cX2_clear 1 = .ok (.getfield 9, 3) := by decide +kernel
theorem dX2_clear_4 : decode cX2_clear 4 = .ok (.iconst 0, 1) := by decide +kernel
theorem dX2_clear_5 : decode cX2_clear 5 = .ok (.invokestatic 34, 3) := by decide +kernel
theorem dX2_clear_8 : decode cX2_clear 8 = .ok (.aload_n 0, 1) := by decide +kernel
theorem dX2_clear_9 : decode cX2_clear 9 = .ok (.iconst 0, 1) := by decide +kernel
theorem dX2_clear_10 : decode cX2_clear 10 = .ok (.putfield 21, 3) := by decide +kernel
theorem dX2_clear_13 : decode cX2_clear 13 = .ok (.aload_n 0, 1) := by decide +kernel
theorem dX2_clear_14 : decode cX2_clear 14 = .ok (.iconst 0, 1) := by decide +kernel
theorem dX2_clear_15 : decode cX2_clear 15 = .ok (.putfield 25, 3) := by decide +kernel
theorem dX2_clear_18 : decode cX2_clear 18 = .ok (.aload_n 0, 1) := by decide +kernel
theorem dX2_clear_19 : decode cX2_clear 19 = .ok (.iconst 0, 1) := by decide +kernel
theorem dX2_clear_20 : decode cX2_clear 20 = .ok (.putfield 28, 3) := by decide +kernel
theorem dX2_clear_23 : decode cX2_clear 23 = .ok (.aload_n 0, 1) := by decide +kernel
theorem dX2_clear_24 : decode cX2_clear 24 = .ok (.iconst 0, 1) := by decide +kernel
theorem dX2_clear_25 : decode cX2_clear 25 = .ok (.putfield 31, 3) := by decide +kernel
theorem dX2_clear_28 : decode cX2_clear 28 = .ok (.return_, 1) := by decide +kernel
theorem dX2_copyFrom_0 : decode cX2_copyFrom 0 = .ok (.aload_n 1, 1) := by decide +kernel
theorem dX2_copyFrom_1 : decode cX2_copyFrom 1 = .ok (.getfield 9, 3) := by decide +kernel
theorem dX2_copyFrom_4 : decode cX2_copyFrom 4 = .ok (.iconst 0, 1) := by decide +kernel
theorem dX2_copyFrom_5 : decode cX2_copyFrom 5 = .ok (.aload_n 0, 1) := by decide +kernel
theorem dX2_copyFrom_6 : decode cX2_copyFrom 6 = .ok (.getfield 9, 3) := by decide +kernel
theorem dX2_copyFrom_9 : decode cX2_copyFrom 9 = .ok (.iconst 0, 1) := by decide +kernel
theorem dX2_copyFrom_10 : decode cX2_copyFrom 10 = .ok (.bipush 24, 2) := by decide +kernel
theorem dX2_copyFrom_12 : decode cX2_copyFrom 12 = .ok (.invokestatic 40, 3) := by decide +kernel
theorem dX2_copyFrom_15 : decode cX2_copyFrom 15 = .ok (.aload_n 1, 1) := by decide +kernel
theorem dX2_copyFrom_16 : decode cX2_copyFrom 16 = .ok (.getfield 15, 3) := by decide +kernel
theorem dX2_copyFrom_19 : decode cX2_copyFrom 19 = .ok (.iconst 0, 1) := by decide +kernel
theorem dX2_copyFrom_20 : decode cX2_copyFrom 20 = .ok (.aload_n 0, 1) := by decide +kernel
theorem dX2_copyFrom_21 : decode cX2_copyFrom 21 = .ok (.getfield 15, 3) := by decide +kernel
theorem dX2_copyFrom_24 : decode cX2_copyFrom 24 = .ok (.iconst 0, 1) := by decide +kernel
theorem dX2_copyFrom_25 : decode cX2_copyFrom 25 = .ok (.bipush 24, 2) := by decide +kernel
theorem dX2_copyFrom_27 : decode cX2_copyFrom 27 = .ok (.invokestatic 40, 3) := by decide +kernel
theorem dX2_copyFrom_30 : decode cX2_copyFrom 30 = .ok (.aload_n 1, 1) := by decide +kernel
theorem dX2_copyFrom_31 : decode cX2_copyFrom 31 = .ok (.getfield 18, 3) := by decide +kernel
theorem dX2_copyFrom_34 : decode cX2_copyFrom 34 = .ok (.iconst 0, 1) := by decide +kernel
theorem dX2_copyFrom_35 : decode cX2_copyFrom 35 = .ok (.aload_n 0, 1) := by decide +kernel
theorem dX2_copyFrom_36 : decode cX2_copyFrom 36 = .ok (.getfield 18, 3) := by decide +kernel
theorem dX2_copyFrom_39 : decode cX2_copyFrom 39 = .ok (.iconst 0, 1) := by decide +kernel
theorem dX2_copyFrom_40 : decode cX2_copyFrom 40 = .ok (.bipush 12, 2) := by decide +kernel
theorem dX2_copyFrom_42 : decode cX2_copyFrom 42 = .ok (.invokestatic 40, 3) := by decide +kernel
theorem dX2_copyFrom_45 : decode cX2_copyFrom 45 = .ok (.aload_n 0, 1) := by decide +kernel
theorem dX2_copyFrom_46 : decode cX2_copyFrom 46 = .ok (.aload_n 1, 1) := by decide +kernel
theorem dX2_copyFrom_47 : decode cX2_copyFrom 47 = .ok (.getfield 21, 3) := by decide +kernel
theorem dX2_copyFrom_50 : decode cX2_copyFrom 50 = .ok (.putfield 21, 3) := by decide +kernel
theorem dX2_copyFrom_53 : decode cX2_copyFrom 53 = .ok (.aload_n 0, 1) := by decide +kernel
theorem dX2_copyFrom_54 : decode cX2_copyFrom 54 = .ok (.aload_n 1, 1) := by decide +kernel
theorem dX2_copyFrom_55 : decode cX2_copyFrom 55 = .ok (.getfield 25, 3) := by decide +kernel
theorem dX2_copyFrom_58 : decode cX2_copyFrom 58 = .ok (.putfield 25, 3) := by decide +kernel
theorem dX2_copyFrom_61 : decode cX2_copyFrom 61 = .ok (.aload_n 0, 1) := by decide +kernel
theorem dX2_copyFrom_62 : decode cX2_copyFrom 62 = .ok (.aload_n 1, 1) := by decide +kernel
theorem dX2_copyFrom_63 : decode cX2_copyFrom 63 = .ok (.getfield 28, 3) := by decide +kernel
theorem dX2_copyFrom_66 : decode cX2_copyFrom 66 = .ok (.putfield 28, 3) := by decide +kernel
theorem dX2_copyFrom_69 : decode cX2_copyFrom 69 = .ok (.aload_n 0, 1) := by decide +kernel
theorem dX2_copyFrom_70 : decode cX2_copyFrom 70 = .ok (.aload_n 1, 1) := by decide +kernel
theorem dX2_copyFrom_71 : decode cX2_copyFrom 71 = .ok (.getfield 31, 3) := by decide +kernel
theorem dX2_copyFrom_74 : decode cX2_copyFrom 74 = .ok (.putfield 31, 3) := by decide +kernel
theorem dX2_copyFrom_77 : decode cX2_copyFrom 77 = .ok (.return_, 1) := by decide +kernel
theorem dX2_cellCount_0 : decode cX2_cellCount 0 = .ok (.aload_n 0, 1) := by decide +kernel
theorem dX2_cellCount_1 : decode cX2_cellCount 1 = .ok (.getfield 25, 3) := by decide +kernel
theorem dX2_cellCount_4 : decode cX2_cellCount 4 = .ok (.aload_n 0, 1) := by decide +kernel
theorem dX2_cellCount_5 : decode cX2_cellCount 5 = .ok (.getfield 21, 3) := by decide +kernel
theorem dX2_cellCount_8 : decode cX2_cellCount 8 = .ok (.imul, 1) := by decide +kernel
theorem dX2_cellCount_9 : decode cX2_cellCount 9 = .ok (.ireturn, 1) := by decide +kernel
theorem dX2_cellsInRow_0 : decode cX2_cellsInRow 0 = .ok (.aload_n 0, 1) := by decide +kernel
theorem dX2_cellsInRow_1 : decode cX2_cellsInRow 1 = .ok (.getfield 21, 3) := by decide +kernel
theorem dX2_cellsInRow_4 : decode cX2_cellsInRow 4 = .ok (.ireturn, 1) := by decide +kernel
theorem dX2_rowCount_0 : decode cX2_rowCount 0 = .ok (.aload_n 0, 1) := by decide +kernel
theorem dX2_rowCount_1 : decode cX2_rowCount 1 = .ok (.getfield 25, 3) := by decide +kernel
theorem dX2_rowCount_4 : decode cX2_rowCount 4 = .ok (.ireturn, 1) := by decide +kernel
theorem dX2_caseCount_0 : decode cX2_caseCount 0 = .ok (.aload_n 0, 1) := by decide +kernel
theorem dX2_caseCount_1 : decode cX2_caseCount 1 = .ok (.getfield 28, 3) := by decide +kernel
theorem dX2_caseCount_4 : decode cX2_caseCount 4 = .ok (.ireturn, 1) := by decide +kernel
theorem dX2_maidCount_0 : decode cX2_maidCount 0 = .ok (.aload_n 0, 1) := by decide +kernel
theorem dX2_maidCount_1 : decode cX2_maidCount 1 = .ok (.getfield 31, 3) := by decide +kernel
theorem dX2_maidCount_4 : decode cX2_maidCount 4 = .ok (.ireturn, 1) := by decide +kernel
theorem dX2_ofCase_0 : decode cX2_ofCase 0 = .ok (.iload_n 1, 1) := by decide +kernel
theorem dX2_ofCase_1 : decode cX2_ofCase 1 = .ok (.iconst 4, 1) := by decide +kernel
theorem dX2_ofCase_2 : decode cX2_ofCase 2 = .ok (.imul, 1) := by decide +kernel
theorem dX2_ofCase_3 : decode cX2_ofCase 3 = .ok (.iload_n 2, 1) := by decide +kernel
theorem dX2_ofCase_4 : decode cX2_ofCase 4 = .ok (.iadd, 1) := by decide +kernel
theorem dX2_ofCase_5 : decode cX2_ofCase 5 = .ok (.istore_n 3, 1) := by decide +kernel
theorem dX2_ofCase_6 : decode cX2_ofCase 6 = .ok (.iload_n 3, 1) := by decide +kernel
theorem dX2_ofCase_7 : decode cX2_ofCase 7 = .ok (.ifCond .lt 21, 3) := by decide +kernel
theorem dX2_ofCase_10 : decode cX2_ofCase 10 = .ok (.iload_n 3, 1) := by decide +kernel
theorem dX2_ofCase_11 : decode cX2_ofCase 11 = .ok (.aload_n 0, 1) := by decide +kernel
theorem dX2_ofCase_12 : decode cX2_ofCase 12 = .ok (.getfield 15, 3) := by decide +kernel
theorem dX2_ofCase_15 : decode cX2_ofCase 15 = .ok (.arraylength, 1) := by decide +kernel
theorem dX2_ofCase_16 : decode cX2_ofCase 16 = .ok (.if_icmp .ge 12, 3) := by decide +kernel
theorem dX2_ofCase_19 : decode cX2_ofCase 19 = .ok (.aload_n 0, 1) := by decide +kernel
theorem dX2_ofCase_20 : decode cX2_ofCase 20 = .ok (.getfield 15, 3) := by decide +kernel
theorem dX2_ofCase_23 : decode cX2_ofCase 23 = .ok (.iload_n 3, 1) := by decide +kernel
theorem dX2_ofCase_24 : decode cX2_ofCase 24 = .ok (.iaload, 1) := by decide +kernel
theorem dX2_ofCase_25 : decode cX2_ofCase 25 = .ok (.goto 4, 3) := by decide +kernel
theorem dX2_ofCase_28 : decode cX2_ofCase 28 = .ok (.iconst 0, 1) := by decide +kernel
theorem dX2_ofCase_29 : decode cX2_ofCase 29 = .ok (.ireturn, 1) := by decide +kernel
theorem dX2_ofMaid_0 : decode cX2_ofMaid 0 = .ok (.iload_n 1, 1) := by decide +kernel
theorem dX2_ofMaid_1 : decode cX2_ofMaid 1 = .ok (.iconst 4, 1) := by decide +kernel
theorem dX2_ofMaid_2 : decode cX2_ofMaid 2 = .ok (.imul, 1) := by decide +kernel
theorem dX2_ofMaid_3 : decode cX2_ofMaid 3 = .ok (.iload_n 2, 1) := by decide +kernel
theorem dX2_ofMaid_4 : decode cX2_ofMaid 4 = .ok (.iadd, 1) := by decide +kernel
theorem dX2_ofMaid_5 : decode cX2_ofMaid 5 = .ok (.istore_n 3, 1) := by decide +kernel
theorem dX2_ofMaid_6 : decode cX2_ofMaid 6 = .ok (.iload_n 3, 1) := by decide +kernel
theorem dX2_ofMaid_7 : decode cX2_ofMaid 7 = .ok (.ifCond .lt 21, 3) := by decide +kernel
theorem dX2_ofMaid_10 : decode cX2_ofMaid 10 = .ok (.iload_n 3, 1) := by decide +kernel
theorem dX2_ofMaid_11 : decode cX2_ofMaid 11 = .ok (.aload_n 0, 1) := by decide +kernel
theorem dX2_ofMaid_12 : decode cX2_ofMaid 12 = .ok (.getfield 18, 3) := by decide +kernel
theorem dX2_ofMaid_15 : decode cX2_ofMaid 15 = .ok (.arraylength, 1) := by decide +kernel
theorem dX2_ofMaid_16 : decode cX2_ofMaid 16 = .ok (.if_icmp .ge 12, 3) := by decide +kernel
theorem dX2_ofMaid_19 : decode cX2_ofMaid 19 = .ok (.aload_n 0, 1) := by decide +kernel
theorem dX2_ofMaid_20 : decode cX2_ofMaid 20 = .ok (.getfield 18, 3) := by decide +kernel
theorem dX2_ofMaid_23 : decode cX2_ofMaid 23 = .ok (.iload_n 3, 1) := by decide +kernel
theorem dX2_ofMaid_24 : decode cX2_ofMaid 24 = .ok (.iaload, 1) := by decide +kernel
theorem dX2_ofMaid_25 : decode cX2_ofMaid 25 = .ok (.goto 4, 3) := by decide +kernel
theorem dX2_ofMaid_28 : decode cX2_ofMaid 28 = .ok (.iconst 0, 1) := by decide +kernel
theorem dX2_ofMaid_29 : decode cX2_ofMaid 29 = .ok (.ireturn, 1) := by decide +kernel
theorem dX2_setDepth_0 : decode cX2_setDepth 0 = .ok (.iload_n 1, 1) := by decide +kernel
theorem dX2_setDepth_1 : decode cX2_setDepth 1 = .ok (.iconst 4, 1) := by decide +kernel
theorem dX2_setDepth_2 : decode cX2_setDepth 2 = .ok (.imul, 1) := by decide +kernel
theorem dX2_setDepth_3 : decode cX2_setDepth 3 = .ok (.iconst 2, 1) := by decide +kernel
theorem dX2_setDepth_4 : decode cX2_setDepth 4 = .ok (.iadd, 1) := by decide +kernel
theorem dX2_setDepth_5 : decode cX2_setDepth 5 = .ok (.istore_n 3, 1) := by decide +kernel
theorem dX2_setDepth_6 : decode cX2_setDepth 6 = .ok (.iload_n 3, 1) := by decide +kernel
theorem dX2_setDepth_7 : decode cX2_setDepth 7 = .ok (.ifCond .lt 19, 3) := by decide +kernel
theorem dX2_setDepth_10 : decode cX2_setDepth 10 = .ok (.iload_n 3, 1) := by decide +kernel
theorem dX2_setDepth_11 : decode cX2_setDepth 11 = .ok (.aload_n 0, 1) := by decide +kernel
theorem dX2_setDepth_12 : decode cX2_setDepth 12 = .ok (.getfield 15, 3) := by decide +kernel
theorem dX2_setDepth_15 : decode cX2_setDepth 15 = .ok (.arraylength, 1) := by decide +kernel
theorem dX2_setDepth_16 : decode cX2_setDepth 16 = .ok (.if_icmp .ge 10, 3) := by decide +kernel
theorem dX2_setDepth_19 : decode cX2_setDepth 19 = .ok (.aload_n 0, 1) := by decide +kernel
theorem dX2_setDepth_20 : decode cX2_setDepth 20 = .ok (.getfield 15, 3) := by decide +kernel
theorem dX2_setDepth_23 : decode cX2_setDepth 23 = .ok (.iload_n 3, 1) := by decide +kernel
theorem dX2_setDepth_24 : decode cX2_setDepth 24 = .ok (.iload_n 2, 1) := by decide +kernel
theorem dX2_setDepth_25 : decode cX2_setDepth 25 = .ok (.iastore, 1) := by decide +kernel
theorem dX2_setDepth_26 : decode cX2_setDepth 26 = .ok (.return_, 1) := by decide +kernel
theorem dX2_addRow_0 : decode cX2_addRow 0 = .ok (.iload_n 2, 1) := by decide +kernel
theorem dX2_addRow_1 : decode cX2_addRow 1 = .ok (.iconst 1, 1) := by decide +kernel
theorem dX2_addRow_2 : decode cX2_addRow 2 = .ok (.if_icmp .lt 23, 3) := by decide +kernel
theorem dX2_addRow_5 : decode cX2_addRow 5 = .ok (.iload_n 2, 1) := by decide +kernel
theorem dX2_addRow_6 : decode cX2_addRow 6 = .ok (.aload_n 1, 1) := by decide +kernel
theorem dX2_addRow_7 : decode cX2_addRow 7 = .ok (.arraylength, 1) := by decide +kernel
theorem dX2_addRow_8 : decode cX2_addRow 8 = .ok (.if_icmp .gt 17, 3) := by decide +kernel
theorem dX2_addRow_11 : decode cX2_addRow 11 = .ok (.iload_n 2, 1) := by decide +kernel
theorem dX2_addRow_12 : decode cX2_addRow 12 = .ok (.bipush 6, 2) := by decide +kernel
theorem dX2_addRow_14 : decode cX2_addRow 14 = .ok (.if_icmp .gt 11, 3) := by decide +kernel
theorem dX2_addRow_17 : decode cX2_addRow 17 = .ok (.aload_n 0, 1) := by decide +kernel
theorem dX2_addRow_18 : decode cX2_addRow 18 = .ok (.getfield 25, 3) := by decide +kernel
theorem dX2_addRow_21 : decode cX2_addRow 21 = .ok (.iconst 4, 1) := by decide +kernel
theorem dX2_addRow_22 : decode cX2_addRow 22 = .ok (.if_icmp .lt 5, 3) := by decide +kernel
theorem dX2_addRow_25 : decode cX2_addRow 25 = .ok (.iconst 0, 1) := by decide +kernel
theorem dX2_addRow_26 : decode cX2_addRow 26 = .ok (.ireturn, 1) := by decide +kernel
theorem dX2_addRow_27 : decode cX2_addRow 27 = .ok (.aload_n 0, 1) := by decide +kernel
theorem dX2_addRow_28 : decode cX2_addRow 28 = .ok (.getfield 25, 3) := by decide +kernel
theorem dX2_addRow_31 : decode cX2_addRow 31 = .ok (.ifCond .le 13, 3) := by decide +kernel
theorem dX2_addRow_34 : decode cX2_addRow 34 = .ok (.iload_n 2, 1) := by decide +kernel
theorem dX2_addRow_35 : decode cX2_addRow 35 = .ok (.aload_n 0, 1) := by decide +kernel
theorem dX2_addRow_36 : decode cX2_addRow 36 = .ok (.getfield 21, 3) := by decide +kernel
theorem dX2_addRow_39 : decode cX2_addRow 39 = .ok (.if_icmp .eq 5, 3) := by decide +kernel
theorem dX2_addRow_42 : decode cX2_addRow 42 = .ok (.iconst 0, 1) := by decide +kernel
theorem dX2_addRow_43 : decode cX2_addRow 43 = .ok (.ireturn, 1) := by decide +kernel
theorem dX2_addRow_44 : decode cX2_addRow 44 = .ok (.aload_n 0, 1) := by decide +kernel
theorem dX2_addRow_45 : decode cX2_addRow 45 = .ok (.invokevirtual 46, 3) := by decide +kernel
theorem dX2_addRow_48 : decode cX2_addRow 48 = .ok (.istore_n 3, 1) := by decide +kernel
theorem dX2_addRow_49 : decode cX2_addRow 49 = .ok (.iconst 0, 1) := by decide +kernel
theorem dX2_addRow_50 : decode cX2_addRow 50 = .ok (.istore 4, 2) := by decide +kernel
theorem dX2_addRow_52 : decode cX2_addRow 52 = .ok (.iload 4, 2) := by decide +kernel
theorem dX2_addRow_54 : decode cX2_addRow 54 = .ok (.iload_n 2, 1) := by decide +kernel
theorem dX2_addRow_55 : decode cX2_addRow 55 = .ok (.if_icmp .ge 34, 3) := by decide +kernel
theorem dX2_addRow_58 : decode cX2_addRow 58 = .ok (.iload_n 3, 1) := by decide +kernel
theorem dX2_addRow_59 : decode cX2_addRow 59 = .ok (.iload 4, 2) := by decide +kernel
theorem dX2_addRow_61 : decode cX2_addRow 61 = .ok (.iadd, 1) := by decide +kernel
theorem dX2_addRow_62 : decode cX2_addRow 62 = .ok (.aload_n 0, 1) := by decide +kernel
theorem dX2_addRow_63 : decode cX2_addRow 63 = .ok (.getfield 9, 3) := by decide +kernel
theorem dX2_addRow_66 : decode cX2_addRow 66 = .ok (.arraylength, 1) := by decide +kernel
theorem dX2_addRow_67 : decode cX2_addRow 67 = .ok (.if_icmp .ge 16, 3) := by decide +kernel
theorem dX2_addRow_70 : decode cX2_addRow 70 = .ok (.aload_n 0, 1) := by decide +kernel
theorem dX2_addRow_71 : decode cX2_addRow 71 = .ok (.getfield 9, 3) := by decide +kernel
theorem dX2_addRow_74 : decode cX2_addRow 74 = .ok (.iload_n 3, 1) := by decide +kernel
theorem dX2_addRow_75 : decode cX2_addRow 75 = .ok (.iload 4, 2) := by decide +kernel
theorem dX2_addRow_77 : decode cX2_addRow 77 = .ok (.iadd, 1) := by decide +kernel
theorem dX2_addRow_78 : decode cX2_addRow 78 = .ok (.aload_n 1, 1) := by decide +kernel
theorem dX2_addRow_79 : decode cX2_addRow 79 = .ok (.iload 4, 2) := by decide +kernel
theorem dX2_addRow_81 : decode cX2_addRow 81 = .ok (.iaload, 1) := by decide +kernel
theorem dX2_addRow_82 : decode cX2_addRow 82 = .ok (.iastore, 1) := by decide +kernel
theorem dX2_addRow_83 : decode cX2_addRow 83 = .ok (.iinc 4 1, 3) := by decide +kernel
theorem dX2_addRow_86 : decode cX2_addRow 86 = .ok (.goto (-34), 3) := by decide +kernel
theorem dX2_addRow_89 : decode cX2_addRow 89 = .ok (.aload_n 0, 1) := by decide +kernel
theorem dX2_addRow_90 : decode cX2_addRow 90 = .ok (.iload_n 2, 1) := by decide +kernel
theorem dX2_addRow_91 : decode cX2_addRow 91 = .ok (.putfield 21, 3) := by decide +kernel
theorem dX2_addRow_94 : decode cX2_addRow 94 = .ok (.aload_n 0, 1) := by decide +kernel
theorem dX2_addRow_95 : decode cX2_addRow 95 = .ok (.dup, 1) := by decide +kernel
theorem dX2_addRow_96 : decode cX2_addRow 96 = .ok (.getfield 25, 3) := by decide +kernel
theorem dX2_addRow_99 : decode cX2_addRow 99 = .ok (.iconst 1, 1) := by decide +kernel
theorem dX2_addRow_100 : decode cX2_addRow 100 = .ok (.iadd, 1) := by decide +kernel
theorem dX2_addRow_101 : decode cX2_addRow 101 = .ok (.putfield 25, 3) := by decide +kernel
theorem dX2_addRow_104 : decode cX2_addRow 104 = .ok (.iconst 1, 1) := by decide +kernel
theorem dX2_addRow_105 : decode cX2_addRow 105 = .ok (.ireturn, 1) := by decide +kernel
theorem dX2_addCase_0 : decode cX2_addCase 0 = .ok (.aload_n 0, 1) := by decide +kernel
theorem dX2_addCase_1 : decode cX2_addCase 1 = .ok (.getfield 28, 3) := by decide +kernel
theorem dX2_addCase_4 : decode cX2_addCase 4 = .ok (.bipush 6, 2) := by decide +kernel
theorem dX2_addCase_6 : decode cX2_addCase 6 = .ok (.if_icmp .ge 9, 3) := by decide +kernel
theorem dX2_addCase_9 : decode cX2_addCase 9 = .ok (.aload_n 1, 1) := by decide +kernel
theorem dX2_addCase_10 : decode cX2_addCase 10 = .ok (.arraylength, 1) := by decide +kernel
theorem dX2_addCase_11 : decode cX2_addCase 11 = .ok (.iconst 4, 1) := by decide +kernel
theorem dX2_addCase_12 : decode cX2_addCase 12 = .ok (.if_icmp .eq 5, 3) := by decide +kernel
theorem dX2_addCase_15 : decode cX2_addCase 15 = .ok (.iconst 0, 1) := by decide +kernel
theorem dX2_addCase_16 : decode cX2_addCase 16 = .ok (.ireturn, 1) := by decide +kernel
theorem dX2_addCase_17 : decode cX2_addCase 17 = .ok (.aload_n 1, 1) := by decide +kernel
theorem dX2_addCase_18 : decode cX2_addCase 18 = .ok (.iconst 0, 1) := by decide +kernel
theorem dX2_addCase_19 : decode cX2_addCase 19 = .ok (.iaload, 1) := by decide +kernel
theorem dX2_addCase_20 : decode cX2_addCase 20 = .ok (.iconst 3, 1) := by decide +kernel
theorem dX2_addCase_21 : decode cX2_addCase 21 = .ok (.if_icmp .gt 36, 3) := by decide +kernel
theorem dX2_addCase_24 : decode cX2_addCase 24 = .ok (.aload_n 1, 1) := by decide +kernel
theorem dX2_addCase_25 : decode cX2_addCase 25 = .ok (.iconst 1, 1) := by decide +kernel
theorem dX2_addCase_26 : decode cX2_addCase 26 = .ok (.iaload, 1) := by decide +kernel
theorem dX2_addCase_27 : decode cX2_addCase 27 = .ok (.aload_n 0, 1) := by decide +kernel
theorem dX2_addCase_28 : decode cX2_addCase 28 = .ok (.invokevirtual 46, 3) := by decide +kernel
theorem dX2_addCase_31 : decode cX2_addCase 31 = .ok (.if_icmp .ge 26, 3) := by decide +kernel
theorem dX2_addCase_34 : decode cX2_addCase 34 = .ok (.aload_n 1, 1) := by decide +kernel
theorem dX2_addCase_35 : decode cX2_addCase 35 = .ok (.iconst 2, 1) := by decide +kernel
theorem dX2_addCase_36 : decode cX2_addCase 36 = .ok (.iaload, 1) := by decide +kernel
theorem dX2_addCase_37 : decode cX2_addCase 37 = .ok (.iconst 1, 1) := by decide +kernel
theorem dX2_addCase_38 : decode cX2_addCase 38 = .ok (.if_icmp .lt 19, 3) := by decide +kernel
theorem dX2_addCase_41 : decode cX2_addCase 41 = .ok (.aload_n 1, 1) := by decide +kernel
theorem dX2_addCase_42 : decode cX2_addCase 42 = .ok (.iconst 2, 1) := by decide +kernel
theorem dX2_addCase_43 : decode cX2_addCase 43 = .ok (.iaload, 1) := by decide +kernel
theorem dX2_addCase_44 : decode cX2_addCase 44 = .ok (.bipush 9, 2) := by decide +kernel
theorem dX2_addCase_46 : decode cX2_addCase 46 = .ok (.if_icmp .gt 11, 3) := by decide +kernel
theorem dX2_addCase_49 : decode cX2_addCase 49 = .ok (.aload_n 1, 1) := by decide +kernel
theorem dX2_addCase_50 : decode cX2_addCase 50 = .ok (.iconst 3, 1) := by decide +kernel
theorem dX2_addCase_51 : decode cX2_addCase 51 = .ok (.iaload, 1) := by decide +kernel
theorem dX2_addCase_52 : decode cX2_addCase 52 = .ok (.bipush 20, 2) := by decide +kernel
theorem dX2_addCase_54 : decode cX2_addCase 54 = .ok (.if_icmp .lt 5, 3) := by decide +kernel
theorem dX2_addCase_57 : decode cX2_addCase 57 = .ok (.iconst 0, 1) := by decide +kernel
theorem dX2_addCase_58 : decode cX2_addCase 58 = .ok (.ireturn, 1) := by decide +kernel
theorem dX2_addCase_59 : decode cX2_addCase 59 = .ok (.aload_n 1, 1) := by decide +kernel
theorem dX2_addCase_60 : decode cX2_addCase 60 = .ok (.iconst 0, 1) := by decide +kernel
theorem dX2_addCase_61 : decode cX2_addCase 61 = .ok (.aload_n 0, 1) := by decide +kernel
theorem dX2_addCase_62 : decode cX2_addCase 62 = .ok (.getfield 15, 3) := by decide +kernel
theorem dX2_addCase_65 : decode cX2_addCase 65 = .ok (.aload_n 0, 1) := by decide +kernel
theorem dX2_addCase_66 : decode cX2_addCase 66 = .ok (.getfield 28, 3) := by decide +kernel
theorem dX2_addCase_69 : decode cX2_addCase 69 = .ok (.iconst 4, 1) := by decide +kernel
theorem dX2_addCase_70 : decode cX2_addCase 70 = .ok (.imul, 1) := by decide +kernel
theorem dX2_addCase_71 : decode cX2_addCase 71 = .ok (.iconst 4, 1) := by decide +kernel
theorem dX2_addCase_72 : decode cX2_addCase 72 = .ok (.invokestatic 40, 3) := by decide +kernel
theorem dX2_addCase_75 : decode cX2_addCase 75 = .ok (.aload_n 0, 1) := by decide +kernel
theorem dX2_addCase_76 : decode cX2_addCase 76 = .ok (.dup, 1) := by decide +kernel
theorem dX2_addCase_77 : decode cX2_addCase 77 = .ok (.getfield 28, 3) := by decide +kernel
theorem dX2_addCase_80 : decode cX2_addCase 80 = .ok (.iconst 1, 1) := by decide +kernel
theorem dX2_addCase_81 : decode cX2_addCase 81 = .ok (.iadd, 1) := by decide +kernel
theorem dX2_addCase_82 : decode cX2_addCase 82 = .ok (.putfield 28, 3) := by decide +kernel
theorem dX2_addCase_85 : decode cX2_addCase 85 = .ok (.iconst 1, 1) := by decide +kernel
theorem dX2_addCase_86 : decode cX2_addCase 86 = .ok (.ireturn, 1) := by decide +kernel
theorem dX2_addMaid_0 : decode cX2_addMaid 0 = .ok (.aload_n 0, 1) := by decide +kernel
theorem dX2_addMaid_1 : decode cX2_addMaid 1 = .ok (.getfield 31, 3) := by decide +kernel
theorem dX2_addMaid_4 : decode cX2_addMaid 4 = .ok (.iconst 3, 1) := by decide +kernel
theorem dX2_addMaid_5 : decode cX2_addMaid 5 = .ok (.if_icmp .ge 9, 3) := by decide +kernel
theorem dX2_addMaid_8 : decode cX2_addMaid 8 = .ok (.aload_n 1, 1) := by decide +kernel
theorem dX2_addMaid_9 : decode cX2_addMaid 9 = .ok (.arraylength, 1) := by decide +kernel
theorem dX2_addMaid_10 : decode cX2_addMaid 10 = .ok (.iconst 4, 1) := by decide +kernel
theorem dX2_addMaid_11 : decode cX2_addMaid 11 = .ok (.if_icmp .eq 5, 3) := by decide +kernel
theorem dX2_addMaid_14 : decode cX2_addMaid 14 = .ok (.iconst 0, 1) := by decide +kernel
theorem dX2_addMaid_15 : decode cX2_addMaid 15 = .ok (.ireturn, 1) := by decide +kernel
theorem dX2_addMaid_16 : decode cX2_addMaid 16 = .ok (.aload_n 1, 1) := by decide +kernel
theorem dX2_addMaid_17 : decode cX2_addMaid 17 = .ok (.iconst 0, 1) := by decide +kernel
theorem dX2_addMaid_18 : decode cX2_addMaid 18 = .ok (.iaload, 1) := by decide +kernel
theorem dX2_addMaid_19 : decode cX2_addMaid 19 = .ok (.iconst 3, 1) := by decide +kernel
theorem dX2_addMaid_20 : decode cX2_addMaid 20 = .ok (.if_icmp .gt 43, 3) := by decide +kernel
theorem dX2_addMaid_23 : decode cX2_addMaid 23 = .ok (.aload_n 1, 1) := by decide +kernel
theorem dX2_addMaid_24 : decode cX2_addMaid 24 = .ok (.iconst 3, 1) := by decide +kernel
theorem dX2_addMaid_25 : decode cX2_addMaid 25 = .ok (.iaload, 1) := by decide +kernel
theorem dX2_addMaid_26 : decode cX2_addMaid 26 = .ok (.aload_n 0, 1) := by decide +kernel
theorem dX2_addMaid_27 : decode cX2_addMaid 27 = .ok (.invokevirtual 46, 3) := by decide +kernel
theorem dX2_addMaid_30 : decode cX2_addMaid 30 = .ok (.if_icmp .ge 33, 3) := by decide +kernel
theorem dX2_addMaid_33 : decode cX2_addMaid 33 = .ok (.aload_n 1, 1) := by decide +kernel
theorem dX2_addMaid_34 : decode cX2_addMaid 34 = .ok (.iconst 1, 1) := by decide +kernel
theorem dX2_addMaid_35 : decode cX2_addMaid 35 = .ok (.iaload, 1) := by decide +kernel
theorem dX2_addMaid_36 : decode cX2_addMaid 36 = .ok (.iconst 1, 1) := by decide +kernel
theorem dX2_addMaid_37 : decode cX2_addMaid 37 = .ok (.if_icmp .lt 26, 3) := by decide +kernel
theorem dX2_addMaid_40 : decode cX2_addMaid 40 = .ok (.aload_n 1, 1) := by decide +kernel
theorem dX2_addMaid_41 : decode cX2_addMaid 41 = .ok (.iconst 1, 1) := by decide +kernel
theorem dX2_addMaid_42 : decode cX2_addMaid 42 = .ok (.iaload, 1) := by decide +kernel
theorem dX2_addMaid_43 : decode cX2_addMaid 43 = .ok (.bipush 9, 2) := by decide +kernel
theorem dX2_addMaid_45 : decode cX2_addMaid 45 = .ok (.if_icmp .gt 18, 3) := by decide +kernel
theorem dX2_addMaid_48 : decode cX2_addMaid 48 = .ok (.aload_n 1, 1) := by decide +kernel
theorem dX2_addMaid_49 : decode cX2_addMaid 49 = .ok (.iconst 2, 1) := by decide +kernel
theorem dX2_addMaid_50 : decode cX2_addMaid 50 = .ok (.iaload, 1) := by decide +kernel
theorem dX2_addMaid_51 : decode cX2_addMaid 51 = .ok (.iconst 1, 1) := by decide +kernel
theorem dX2_addMaid_52 : decode cX2_addMaid 52 = .ok (.if_icmp .lt 11, 3) := by decide +kernel
theorem dX2_addMaid_55 : decode cX2_addMaid 55 = .ok (.aload_n 1, 1) := by decide +kernel
theorem dX2_addMaid_56 : decode cX2_addMaid 56 = .ok (.iconst 2, 1) := by decide +kernel
theorem dX2_addMaid_57 : decode cX2_addMaid 57 = .ok (.iaload, 1) := by decide +kernel
theorem dX2_addMaid_58 : decode cX2_addMaid 58 = .ok (.bipush 9, 2) := by decide +kernel
theorem dX2_addMaid_60 : decode cX2_addMaid 60 = .ok (.if_icmp .le 5, 3) := by decide +kernel
theorem dX2_addMaid_63 : decode cX2_addMaid 63 = .ok (.iconst 0, 1) := by decide +kernel
theorem dX2_addMaid_64 : decode cX2_addMaid 64 = .ok (.ireturn, 1) := by decide +kernel
theorem dX2_addMaid_65 : decode cX2_addMaid 65 = .ok (.aload_n 1, 1) := by decide +kernel
theorem dX2_addMaid_66 : decode cX2_addMaid 66 = .ok (.iconst 0, 1) := by decide +kernel
theorem dX2_addMaid_67 : decode cX2_addMaid 67 = .ok (.aload_n 0, 1) := by decide +kernel
theorem dX2_addMaid_68 : decode cX2_addMaid 68 = .ok (.getfield 18, 3) := by decide +kernel
theorem dX2_addMaid_71 : decode cX2_addMaid 71 = .ok (.aload_n 0, 1) := by decide +kernel
theorem dX2_addMaid_72 : decode cX2_addMaid 72 = .ok (.getfield 31, 3) := by decide +kernel
theorem dX2_addMaid_75 : decode cX2_addMaid 75 = .ok (.iconst 4, 1) := by decide +kernel
theorem dX2_addMaid_76 : decode cX2_addMaid 76 = .ok (.imul, 1) := by decide +kernel
theorem dX2_addMaid_77 : decode cX2_addMaid 77 = .ok (.iconst 4, 1) := by decide +kernel
theorem dX2_addMaid_78 : decode cX2_addMaid 78 = .ok (.invokestatic 40, 3) := by decide +kernel
theorem dX2_addMaid_81 : decode cX2_addMaid 81 = .ok (.aload_n 0, 1) := by decide +kernel
theorem dX2_addMaid_82 : decode cX2_addMaid 82 = .ok (.dup, 1) := by decide +kernel
theorem dX2_addMaid_83 : decode cX2_addMaid 83 = .ok (.getfield 31, 3) := by decide +kernel
theorem dX2_addMaid_86 : decode cX2_addMaid 86 = .ok (.iconst 1, 1) := by decide +kernel
theorem dX2_addMaid_87 : decode cX2_addMaid 87 = .ok (.iadd, 1) := by decide +kernel
theorem dX2_addMaid_88 : decode cX2_addMaid 88 = .ok (.putfield 31, 3) := by decide +kernel
theorem dX2_addMaid_91 : decode cX2_addMaid 91 = .ok (.iconst 1, 1) := by decide +kernel
theorem dX2_addMaid_92 : decode cX2_addMaid 92 = .ok (.ireturn, 1) := by decide +kernel
theorem dX2_layOut_0 : decode cX2_layOut 0 = .ok (.aload_n 1, 1) := by decide +kernel
theorem dX2_layOut_1 : decode cX2_layOut 1 = .ok (.invokevirtual 50, 3) := by decide +kernel
theorem dX2_layOut_4 : decode cX2_layOut 4 = .ok (.iconst 0, 1) := by decide +kernel
theorem dX2_layOut_5 : decode cX2_layOut 5 = .ok (.istore_n 2, 1) := by decide +kernel
theorem dX2_layOut_6 : decode cX2_layOut 6 = .ok (.iload_n 2, 1) := by decide +kernel
theorem dX2_layOut_7 : decode cX2_layOut 7 = .ok (.aload_n 0, 1) := by decide +kernel
theorem dX2_layOut_8 : decode cX2_layOut 8 = .ok (.getfield 9, 3) := by decide +kernel
theorem dX2_layOut_11 : decode cX2_layOut 11 = .ok (.arraylength, 1) := by decide +kernel
theorem dX2_layOut_12 : decode cX2_layOut 12 = .ok (.if_icmp .ge 20, 3) := by decide +kernel
theorem dX2_layOut_15 : decode cX2_layOut 15 = .ok (.aload_n 1, 1) := by decide +kernel
theorem dX2_layOut_16 : decode cX2_layOut 16 = .ok (.iload_n 2, 1) := by decide +kernel
theorem dX2_layOut_17 : decode cX2_layOut 17 = .ok (.aload_n 0, 1) := by decide +kernel
theorem dX2_layOut_18 : decode cX2_layOut 18 = .ok (.getfield 9, 3) := by decide +kernel
theorem dX2_layOut_21 : decode cX2_layOut 21 = .ok (.iload_n 2, 1) := by decide +kernel
theorem dX2_layOut_22 : decode cX2_layOut 22 = .ok (.iaload, 1) := by decide +kernel
theorem dX2_layOut_23 : decode cX2_layOut 23 = .ok (.invokevirtual 55, 3) := by decide +kernel
theorem dX2_layOut_26 : decode cX2_layOut 26 = .ok (.iinc 2 1, 3) := by decide +kernel
theorem dX2_layOut_29 : decode cX2_layOut 29 = .ok (.goto (-23), 3) := by decide +kernel
theorem dX2_layOut_32 : decode cX2_layOut 32 = .ok (.iconst 0, 1) := by decide +kernel
theorem dX2_layOut_33 : decode cX2_layOut 33 = .ok (.istore_n 2, 1) := by decide +kernel
theorem dX2_layOut_34 : decode cX2_layOut 34 = .ok (.iload_n 2, 1) := by decide +kernel
theorem dX2_layOut_35 : decode cX2_layOut 35 = .ok (.aload_n 0, 1) := by decide +kernel
theorem dX2_layOut_36 : decode cX2_layOut 36 = .ok (.getfield 31, 3) := by decide +kernel
theorem dX2_layOut_39 : decode cX2_layOut 39 = .ok (.if_icmp .ge 20, 3) := by decide +kernel
theorem dX2_layOut_42 : decode cX2_layOut 42 = .ok (.aload_n 1, 1) := by decide +kernel
theorem dX2_layOut_43 : decode cX2_layOut 43 = .ok (.iload_n 2, 1) := by decide +kernel
theorem dX2_layOut_44 : decode cX2_layOut 44 = .ok (.aload_n 0, 1) := by decide +kernel
theorem dX2_layOut_45 : decode cX2_layOut 45 = .ok (.iload_n 2, 1) := by decide +kernel
theorem dX2_layOut_46 : decode cX2_layOut 46 = .ok (.iconst 3, 1) := by decide +kernel
theorem dX2_layOut_47 : decode cX2_layOut 47 = .ok (.invokevirtual 59, 3) := by decide +kernel
theorem dX2_layOut_50 : decode cX2_layOut 50 = .ok (.invokevirtual 63, 3) := by decide +kernel
theorem dX2_layOut_53 : decode cX2_layOut 53 = .ok (.iinc 2 1, 3) := by decide +kernel
theorem dX2_layOut_56 : decode cX2_layOut 56 = .ok (.goto (-22), 3) := by decide +kernel
theorem dX2_layOut_59 : decode cX2_layOut 59 = .ok (.aload_n 0, 1) := by decide +kernel
theorem dX2_layOut_60 : decode cX2_layOut 60 = .ok (.aload_n 1, 1) := by decide +kernel
theorem dX2_layOut_61 : decode cX2_layOut 61 = .ok (.invokevirtual 66, 3) := by decide +kernel
theorem dX2_layOut_64 : decode cX2_layOut 64 = .ok (.return_, 1) := by decide +kernel
theorem dX2_after_0 : decode cX2_after 0 = .ok (.aload_n 0, 1) := by decide +kernel
theorem dX2_after_1 : decode cX2_after 1 = .ok (.iload_n 1, 1) := by decide +kernel
theorem dX2_after_2 : decode cX2_after 2 = .ok (.iconst 3, 1) := by decide +kernel
theorem dX2_after_3 : decode cX2_after 3 = .ok (.invokevirtual 70, 3) := by decide +kernel
theorem dX2_after_6 : decode cX2_after 6 = .ok (.ireturn, 1) := by decide +kernel
theorem dX2_wayFrom_0 : decode cX2_wayFrom 0 = .ok (.aload_n 0, 1) := by decide +kernel
theorem dX2_wayFrom_1 : decode cX2_wayFrom 1 = .ok (.getfield 25, 3) := by decide +kernel
theorem dX2_wayFrom_4 : decode cX2_wayFrom 4 = .ok (.aload_n 0, 1) := by decide +kernel
theorem dX2_wayFrom_5 : decode cX2_wayFrom 5 = .ok (.getfield 21, 3) := by decide +kernel
theorem dX2_wayFrom_8 : decode cX2_wayFrom 8 = .ok (.imul, 1) := by decide +kernel
theorem dX2_wayFrom_9 : decode cX2_wayFrom 9 = .ok (.istore_n 3, 1) := by decide +kernel
theorem dX2_wayFrom_10 : decode cX2_wayFrom 10 = .ok (.iload_n 1, 1) := by decide +kernel
theorem dX2_wayFrom_11 : decode cX2_wayFrom 11 = .ok (.ifCond .lt 16, 3) := by decide +kernel
theorem dX2_wayFrom_14 : decode cX2_wayFrom 14 = .ok (.iload_n 1, 1) := by decide +kernel
theorem dX2_wayFrom_15 : decode cX2_wayFrom 15 = .ok (.iload_n 3, 1) := by decide +kernel
theorem dX2_wayFrom_16 : decode cX2_wayFrom 16 = .ok (.if_icmp .ge 11, 3) := by decide +kernel
theorem dX2_wayFrom_19 : decode cX2_wayFrom 19 = .ok (.aload_n 0, 1) := by decide +kernel
theorem dX2_wayFrom_20 : decode cX2_wayFrom 20 = .ok (.getfield 21, 3) := by decide +kernel
theorem dX2_wayFrom_23 : decode cX2_wayFrom 23 = .ok (.iconst 1, 1) := by decide +kernel
theorem dX2_wayFrom_24 : decode cX2_wayFrom 24 = .ok (.if_icmp .ge 5, 3) := by decide +kernel
theorem dX2_wayFrom_27 : decode cX2_wayFrom 27 = .ok (.iconst (-1), 1) := by decide +kernel
theorem dX2_wayFrom_28 : decode cX2_wayFrom 28 = .ok (.ireturn, 1) := by decide +kernel
theorem dX2_wayFrom_29 : decode cX2_wayFrom 29 = .ok (.iload_n 2, 1) := by decide +kernel
theorem dX2_wayFrom_30 : decode cX2_wayFrom 30 = .ok (.tableswitch 116 0 4 #[34, 53, 70, 72, 95], 34) := by decide +kernel
theorem dX2_wayFrom_64 : decode cX2_wayFrom 64 = .ok (.iload_n 1, 1) := by decide +kernel
theorem dX2_wayFrom_65 : decode cX2_wayFrom 65 = .ok (.aload_n 0, 1) := by decide +kernel
theorem dX2_wayFrom_66 : decode cX2_wayFrom 66 = .ok (.getfield 21, 3) := by decide +kernel
theorem dX2_wayFrom_69 : decode cX2_wayFrom 69 = .ok (.if_icmp .lt 12, 3) := by decide +kernel
theorem dX2_wayFrom_72 : decode cX2_wayFrom 72 = .ok (.iload_n 1, 1) := by decide +kernel
theorem dX2_wayFrom_73 : decode cX2_wayFrom 73 = .ok (.aload_n 0, 1) := by decide +kernel
theorem dX2_wayFrom_74 : decode cX2_wayFrom 74 = .ok (.getfield 21, 3) := by decide +kernel
theorem dX2_wayFrom_77 : decode cX2_wayFrom 77 = .ok (.isub, 1) := by decide +kernel
theorem dX2_wayFrom_78 : decode cX2_wayFrom 78 = .ok (.goto 4, 3) := by decide +kernel
theorem dX2_wayFrom_81 : decode cX2_wayFrom 81 = .ok (.iconst (-1), 1) := by decide +kernel
theorem dX2_wayFrom_82 : decode cX2_wayFrom 82 = .ok (.ireturn, 1) := by decide +kernel
theorem dX2_wayFrom_83 : decode cX2_wayFrom 83 = .ok (.iload_n 1, 1) := by decide +kernel
theorem dX2_wayFrom_84 : decode cX2_wayFrom 84 = .ok (.aload_n 0, 1) := by decide +kernel
theorem dX2_wayFrom_85 : decode cX2_wayFrom 85 = .ok (.getfield 21, 3) := by decide +kernel
theorem dX2_wayFrom_88 : decode cX2_wayFrom 88 = .ok (.irem, 1) := by decide +kernel
theorem dX2_wayFrom_89 : decode cX2_wayFrom 89 = .ok (.ifCond .le 9, 3) := by decide +kernel
theorem dX2_wayFrom_92 : decode cX2_wayFrom 92 = .ok (.iload_n 1, 1) := by decide +kernel
theorem dX2_wayFrom_93 : decode cX2_wayFrom 93 = .ok (.iconst 1, 1) := by decide +kernel
theorem dX2_wayFrom_94 : decode cX2_wayFrom 94 = .ok (.isub, 1) := by decide +kernel
theorem dX2_wayFrom_95 : decode cX2_wayFrom 95 = .ok (.goto 4, 3) := by decide +kernel
theorem dX2_wayFrom_98 : decode cX2_wayFrom 98 = .ok (.iconst (-1), 1) := by decide +kernel
theorem dX2_wayFrom_99 : decode cX2_wayFrom 99 = .ok (.ireturn, 1) := by decide +kernel
theorem dX2_wayFrom_100 : decode cX2_wayFrom 100 = .ok (.iload_n 1, 1) := by decide +kernel
theorem dX2_wayFrom_101 : decode cX2_wayFrom 101 = .ok (.ireturn, 1) := by decide +kernel
theorem dX2_wayFrom_102 : decode cX2_wayFrom 102 = .ok (.iload_n 1, 1) := by decide +kernel
theorem dX2_wayFrom_103 : decode cX2_wayFrom 103 = .ok (.aload_n 0, 1) := by decide +kernel
theorem dX2_wayFrom_104 : decode cX2_wayFrom 104 = .ok (.getfield 21, 3) := by decide +kernel
theorem dX2_wayFrom_107 : decode cX2_wayFrom 107 = .ok (.irem, 1) := by decide +kernel
theorem dX2_wayFrom_108 : decode cX2_wayFrom 108 = .ok (.aload_n 0, 1) := by decide +kernel
theorem dX2_wayFrom_109 : decode cX2_wayFrom 109 = .ok (.getfield 21, 3) := by decide +kernel
theorem dX2_wayFrom_112 : decode cX2_wayFrom 112 = .ok (.iconst 1, 1) := by decide +kernel
theorem dX2_wayFrom_113 : decode cX2_wayFrom 113 = .ok (.isub, 1) := by decide +kernel
theorem dX2_wayFrom_114 : decode cX2_wayFrom 114 = .ok (.if_icmp .ge 9, 3) := by decide +kernel
theorem dX2_wayFrom_117 : decode cX2_wayFrom 117 = .ok (.iload_n 1, 1) := by decide +kernel
theorem dX2_wayFrom_118 : decode cX2_wayFrom 118 = .ok (.iconst 1, 1) := by decide +kernel
theorem dX2_wayFrom_119 : decode cX2_wayFrom 119 = .ok (.iadd, 1) := by decide +kernel
theorem dX2_wayFrom_120 : decode cX2_wayFrom 120 = .ok (.goto 4, 3) := by decide +kernel
theorem dX2_wayFrom_123 : decode cX2_wayFrom 123 = .ok (.iconst (-1), 1) := by decide +kernel
theorem dX2_wayFrom_124 : decode cX2_wayFrom 124 = .ok (.ireturn, 1) := by decide +kernel
theorem dX2_wayFrom_125 : decode cX2_wayFrom 125 = .ok (.iload_n 1, 1) := by decide +kernel
theorem dX2_wayFrom_126 : decode cX2_wayFrom 126 = .ok (.aload_n 0, 1) := by decide +kernel
theorem dX2_wayFrom_127 : decode cX2_wayFrom 127 = .ok (.getfield 21, 3) := by decide +kernel
theorem dX2_wayFrom_130 : decode cX2_wayFrom 130 = .ok (.iadd, 1) := by decide +kernel
theorem dX2_wayFrom_131 : decode cX2_wayFrom 131 = .ok (.iload_n 3, 1) := by decide +kernel
theorem dX2_wayFrom_132 : decode cX2_wayFrom 132 = .ok (.if_icmp .ge 12, 3) := by decide +kernel
theorem dX2_wayFrom_135 : decode cX2_wayFrom 135 = .ok (.iload_n 1, 1) := by decide +kernel
theorem dX2_wayFrom_136 : decode cX2_wayFrom 136 = .ok (.aload_n 0, 1) := by decide +kernel
theorem dX2_wayFrom_137 : decode cX2_wayFrom 137 = .ok (.getfield 21, 3) := by decide +kernel
theorem dX2_wayFrom_140 : decode cX2_wayFrom 140 = .ok (.iadd, 1) := by decide +kernel
theorem dX2_wayFrom_141 : decode cX2_wayFrom 141 = .ok (.goto 4, 3) := by decide +kernel
theorem dX2_wayFrom_144 : decode cX2_wayFrom 144 = .ok (.iconst (-1), 1) := by decide +kernel
theorem dX2_wayFrom_145 : decode cX2_wayFrom 145 = .ok (.ireturn, 1) := by decide +kernel
theorem dX2_wayFrom_146 : decode cX2_wayFrom 146 = .ok (.iconst (-1), 1) := by decide +kernel
theorem dX2_wayFrom_147 : decode cX2_wayFrom 147 = .ok (.ireturn, 1) := by decide +kernel
theorem dX2_reaches_0 : decode cX2_reaches 0 = .ok (.iconst 0, 1) := by decide +kernel
theorem dX2_reaches_1 : decode cX2_reaches 1 = .ok (.istore_n 3, 1) := by decide +kernel
theorem dX2_reaches_2 : decode cX2_reaches 2 = .ok (.iload_n 3, 1) := by decide +kernel
theorem dX2_reaches_3 : decode cX2_reaches 3 = .ok (.iconst 5, 1) := by decide +kernel
theorem dX2_reaches_4 : decode cX2_reaches 4 = .ok (.if_icmp .ge 21, 3) := by decide +kernel
theorem dX2_reaches_7 : decode cX2_reaches 7 = .ok (.aload_n 0, 1) := by decide +kernel
theorem dX2_reaches_8 : decode cX2_reaches 8 = .ok (.iload_n 1, 1) := by decide +kernel
theorem dX2_reaches_9 : decode cX2_reaches 9 = .ok (.iload_n 3, 1) := by decide +kernel
theorem dX2_reaches_10 : decode cX2_reaches 10 = .ok (.invokevirtual 70, 3) := by decide +kernel
theorem dX2_reaches_13 : decode cX2_reaches 13 = .ok (.iload_n 2, 1) := by decide +kernel
theorem dX2_reaches_14 : decode cX2_reaches 14 = .ok (.if_icmp .ne 5, 3) := by decide +kernel
theorem dX2_reaches_17 : decode cX2_reaches 17 = .ok (.iconst 1, 1) := by decide +kernel
theorem dX2_reaches_18 : decode cX2_reaches 18 = .ok (.ireturn, 1) := by decide +kernel
theorem dX2_reaches_19 : decode cX2_reaches 19 = .ok (.iinc 3 1, 3) := by decide +kernel
theorem dX2_reaches_22 : decode cX2_reaches 22 = .ok (.goto (-20), 3) := by decide +kernel
theorem dX2_reaches_25 : decode cX2_reaches 25 = .ok (.iconst 0, 1) := by decide +kernel
theorem dX2_reaches_26 : decode cX2_reaches 26 = .ok (.ireturn, 1) := by decide +kernel
theorem dX2_raisesOwn_0 : decode cX2_raisesOwn 0 = .ok (.aload_n 0, 1) := by decide +kernel
theorem dX2_raisesOwn_1 : decode cX2_raisesOwn 1 = .ok (.iload_n 1, 1) := by decide +kernel
theorem dX2_raisesOwn_2 : decode cX2_raisesOwn 2 = .ok (.iconst 2, 1) := by decide +kernel
theorem dX2_raisesOwn_3 : decode cX2_raisesOwn 3 = .ok (.invokevirtual 73, 3) := by decide +kernel
theorem dX2_raisesOwn_6 : decode cX2_raisesOwn 6 = .ok (.istore_n 3, 1) := by decide +kernel
theorem dX2_raisesOwn_7 : decode cX2_raisesOwn 7 = .ok (.aload_n 0, 1) := by decide +kernel
theorem dX2_raisesOwn_8 : decode cX2_raisesOwn 8 = .ok (.iload_n 1, 1) := by decide +kernel
theorem dX2_raisesOwn_9 : decode cX2_raisesOwn 9 = .ok (.iconst 0, 1) := by decide +kernel
theorem dX2_raisesOwn_10 : decode cX2_raisesOwn 10 = .ok (.invokevirtual 73, 3) := by decide +kernel
theorem dX2_raisesOwn_13 : decode cX2_raisesOwn 13 = .ok (.lookupswitch 44 #[(2, 27), (3, 29)], 27) := by decide +kernel
theorem dX2_raisesOwn_40 : decode cX2_raisesOwn 40 = .ok (.iconst 0, 1) := by decide +kernel
theorem dX2_raisesOwn_41 : decode cX2_raisesOwn 41 = .ok (.ireturn, 1) := by decide +kernel
theorem dX2_raisesOwn_42 : decode cX2_raisesOwn 42 = .ok (.iload_n 2, 1) := by decide +kernel
theorem dX2_raisesOwn_43 : decode cX2_raisesOwn 43 = .ok (.invokestatic 76, 3) := by decide +kernel
theorem dX2_raisesOwn_46 : decode cX2_raisesOwn 46 = .ok (.ifCond .eq 9, 3) := by decide +kernel
theorem dX2_raisesOwn_49 : decode cX2_raisesOwn 49 = .ok (.iconst 2, 1) := by decide +kernel
theorem dX2_raisesOwn_50 : decode cX2_raisesOwn 50 = .ok (.iload_n 3, 1) := by decide +kernel
theorem dX2_raisesOwn_51 : decode cX2_raisesOwn 51 = .ok (.imul, 1) := by decide +kernel
theorem dX2_raisesOwn_52 : decode cX2_raisesOwn 52 = .ok (.goto 4, 3) := by decide +kernel
theorem dX2_raisesOwn_55 : decode cX2_raisesOwn 55 = .ok (.iload_n 3, 1) := by decide +kernel
theorem dX2_raisesOwn_56 : decode cX2_raisesOwn 56 = .ok (.ireturn, 1) := by decide +kernel
theorem dX2_raisesOwn_57 : decode cX2_raisesOwn 57 = .ok (.iload_n 3, 1) := by decide +kernel
theorem dX2_raisesOwn_58 : decode cX2_raisesOwn 58 = .ok (.ireturn, 1) := by decide +kernel
theorem dX2_comeUp_0 : decode cX2_comeUp 0 = .ok (.aload_n 0, 1) := by decide +kernel
theorem dX2_comeUp_1 : decode cX2_comeUp 1 = .ok (.iload_n 2, 1) := by decide +kernel
theorem dX2_comeUp_2 : decode cX2_comeUp 2 = .ok (.iconst 1, 1) := by decide +kernel
theorem dX2_comeUp_3 : decode cX2_comeUp 3 = .ok (.invokevirtual 73, 3) := by decide +kernel
theorem dX2_comeUp_6 : decode cX2_comeUp 6 = .ok (.istore_n 3, 1) := by decide +kernel
theorem dX2_comeUp_7 : decode cX2_comeUp 7 = .ok (.aload_n 0, 1) := by decide +kernel
theorem dX2_comeUp_8 : decode cX2_comeUp 8 = .ok (.iload_n 2, 1) := by decide +kernel
theorem dX2_comeUp_9 : decode cX2_comeUp 9 = .ok (.iconst 2, 1) := by decide +kernel
theorem dX2_comeUp_10 : decode cX2_comeUp 10 = .ok (.invokevirtual 73, 3) := by decide +kernel
theorem dX2_comeUp_13 : decode cX2_comeUp 13 = .ok (.iconst 2, 1) := by decide +kernel
theorem dX2_comeUp_14 : decode cX2_comeUp 14 = .ok (.idiv, 1) := by decide +kernel
theorem dX2_comeUp_15 : decode cX2_comeUp 15 = .ok (.istore 4, 2) := by decide +kernel
theorem dX2_comeUp_17 : decode cX2_comeUp 17 = .ok (.aload_n 1, 1) := by decide +kernel
theorem dX2_comeUp_18 : decode cX2_comeUp 18 = .ok (.iload_n 3, 1) := by decide +kernel
theorem dX2_comeUp_19 : decode cX2_comeUp 19 = .ok (.aload_n 0, 1) := by decide +kernel
theorem dX2_comeUp_20 : decode cX2_comeUp 20 = .ok (.iload_n 2, 1) := by decide +kernel
theorem dX2_comeUp_21 : decode cX2_comeUp 21 = .ok (.aload_n 1, 1) := by decide +kernel
theorem dX2_comeUp_22 : decode cX2_comeUp 22 = .ok (.iload_n 3, 1) := by decide +kernel
theorem dX2_comeUp_23 : decode cX2_comeUp 23 = .ok (.invokevirtual 80, 3) := by decide +kernel
theorem dX2_comeUp_26 : decode cX2_comeUp 26 = .ok (.invokevirtual 84, 3) := by decide +kernel
theorem dX2_comeUp_29 : decode cX2_comeUp 29 = .ok (.invokevirtual 87, 3) := by decide +kernel
theorem dX2_comeUp_32 : decode cX2_comeUp 32 = .ok (.aload_n 0, 1) := by decide +kernel
theorem dX2_comeUp_33 : decode cX2_comeUp 33 = .ok (.iload_n 2, 1) := by decide +kernel
theorem dX2_comeUp_34 : decode cX2_comeUp 34 = .ok (.iconst 0, 1) := by decide +kernel
theorem dX2_comeUp_35 : decode cX2_comeUp 35 = .ok (.invokevirtual 73, 3) := by decide +kernel
theorem dX2_comeUp_38 : decode cX2_comeUp 38 = .ok (.iconst 1, 1) := by decide +kernel
theorem dX2_comeUp_39 : decode cX2_comeUp 39 = .ok (.if_icmp .ne 17, 3) := by decide +kernel
theorem dX2_comeUp_42 : decode cX2_comeUp 42 = .ok (.aload_n 1, 1) := by decide +kernel
theorem dX2_comeUp_43 : decode cX2_comeUp 43 = .ok (.aload_n 0, 1) := by decide +kernel
theorem dX2_comeUp_44 : decode cX2_comeUp 44 = .ok (.iload_n 3, 1) := by decide +kernel
theorem dX2_comeUp_45 : decode cX2_comeUp 45 = .ok (.invokevirtual 90, 3) := by decide +kernel
theorem dX2_comeUp_48 : decode cX2_comeUp 48 = .ok (.iload 4, 2) := by decide +kernel
theorem dX2_comeUp_50 : decode cX2_comeUp 50 = .ok (.invokevirtual 87, 3) := by decide +kernel
theorem dX2_comeUp_53 : decode cX2_comeUp 53 = .ok (.goto 49, 3) := by decide +kernel
theorem dX2_comeUp_56 : decode cX2_comeUp 56 = .ok (.aload_n 0, 1) := by decide +kernel
theorem dX2_comeUp_57 : decode cX2_comeUp 57 = .ok (.iload_n 2, 1) := by decide +kernel
theorem dX2_comeUp_58 : decode cX2_comeUp 58 = .ok (.iconst 0, 1) := by decide +kernel
theorem dX2_comeUp_59 : decode cX2_comeUp 59 = .ok (.invokevirtual 73, 3) := by decide +kernel
theorem dX2_comeUp_62 : decode cX2_comeUp 62 = .ok (.iconst 2, 1) := by decide +kernel
theorem dX2_comeUp_63 : decode cX2_comeUp 63 = .ok (.if_icmp .ne 39, 3) := by decide +kernel
theorem dX2_comeUp_66 : decode cX2_comeUp 66 = .ok (.iconst 0, 1) := by decide +kernel
theorem dX2_comeUp_67 : decode cX2_comeUp 67 = .ok (.istore 5, 2) := by decide +kernel
theorem dX2_comeUp_69 : decode cX2_comeUp 69 = .ok (.iload 5, 2) := by decide +kernel
theorem dX2_comeUp_71 : decode cX2_comeUp 71 = .ok (.iconst 5, 1) := by decide +kernel
theorem dX2_comeUp_72 : decode cX2_comeUp 72 = .ok (.if_icmp .ge 30, 3) := by decide +kernel
theorem dX2_comeUp_75 : decode cX2_comeUp 75 = .ok (.iload 5, 2) := by decide +kernel
theorem dX2_comeUp_77 : decode cX2_comeUp 77 = .ok (.iconst 2, 1) := by decide +kernel
theorem dX2_comeUp_78 : decode cX2_comeUp 78 = .ok (.if_icmp .eq 18, 3) := by decide +kernel
theorem dX2_comeUp_81 : decode cX2_comeUp 81 = .ok (.aload_n 1, 1) := by decide +kernel
theorem dX2_comeUp_82 : decode cX2_comeUp 82 = .ok (.aload_n 0, 1) := by decide +kernel
theorem dX2_comeUp_83 : decode cX2_comeUp 83 = .ok (.iload_n 3, 1) := by decide +kernel
theorem dX2_comeUp_84 : decode cX2_comeUp 84 = .ok (.iload 5, 2) := by decide +kernel
theorem dX2_comeUp_86 : decode cX2_comeUp 86 = .ok (.invokevirtual 70, 3) := by decide +kernel
theorem dX2_comeUp_89 : decode cX2_comeUp 89 = .ok (.iload 4, 2) := by decide +kernel
theorem dX2_comeUp_91 : decode cX2_comeUp 91 = .ok (.iconst 1, 1) := by decide +kernel
theorem dX2_comeUp_92 : decode cX2_comeUp 92 = .ok (.iadd, 1) := by decide +kernel
theorem dX2_comeUp_93 : decode cX2_comeUp 93 = .ok (.invokevirtual 87, 3) := by decide +kernel
theorem dX2_comeUp_96 : decode cX2_comeUp 96 = .ok (.iinc 5 1, 3) := by decide +kernel
theorem dX2_comeUp_99 : decode cX2_comeUp 99 = .ok (.goto (-30), 3) := by decide +kernel
theorem dX2_comeUp_102 : decode cX2_comeUp 102 = .ok (.return_, 1) := by decide +kernel
theorem dX2_yearsGoBy_0 : decode cX2_yearsGoBy 0 = .ok (.iconst 0, 1) := by decide +kernel
theorem dX2_yearsGoBy_1 : decode cX2_yearsGoBy 1 = .ok (.istore_n 3, 1) := by decide +kernel
theorem dX2_yearsGoBy_2 : decode cX2_yearsGoBy 2 = .ok (.iload_n 3, 1) := by decide +kernel
theorem dX2_yearsGoBy_3 : decode cX2_yearsGoBy 3 = .ok (.iload_n 2, 1) := by decide +kernel
theorem dX2_yearsGoBy_4 : decode cX2_yearsGoBy 4 = .ok (.if_icmp .ge 66, 3) := by decide +kernel
theorem dX2_yearsGoBy_7 : decode cX2_yearsGoBy 7 = .ok (.iconst 0, 1) := by decide +kernel
theorem dX2_yearsGoBy_8 : decode cX2_yearsGoBy 8 = .ok (.istore 4, 2) := by decide +kernel
theorem dX2_yearsGoBy_10 : decode cX2_yearsGoBy 10 = .ok (.iload 4, 2) := by decide +kernel
theorem dX2_yearsGoBy_12 : decode cX2_yearsGoBy 12 = .ok (.aload_n 0, 1) := by decide +kernel
theorem dX2_yearsGoBy_13 : decode cX2_yearsGoBy 13 = .ok (.getfield 28, 3) := by decide +kernel
theorem dX2_yearsGoBy_16 : decode cX2_yearsGoBy 16 = .ok (.if_icmp .ge 39, 3) := by decide +kernel
theorem dX2_yearsGoBy_19 : decode cX2_yearsGoBy 19 = .ok (.aload_n 0, 1) := by decide +kernel
theorem dX2_yearsGoBy_20 : decode cX2_yearsGoBy 20 = .ok (.iload 4, 2) := by decide +kernel
theorem dX2_yearsGoBy_22 : decode cX2_yearsGoBy 22 = .ok (.iconst 3, 1) := by decide +kernel
theorem dX2_yearsGoBy_23 : decode cX2_yearsGoBy 23 = .ok (.invokevirtual 73, 3) := by decide +kernel
theorem dX2_yearsGoBy_26 : decode cX2_yearsGoBy 26 = .ok (.aload_n 1, 1) := by decide +kernel
theorem dX2_yearsGoBy_27 : decode cX2_yearsGoBy 27 = .ok (.invokevirtual 93, 3) := by decide +kernel
theorem dX2_yearsGoBy_30 : decode cX2_yearsGoBy 30 = .ok (.if_icmp .gt 19, 3) := by decide +kernel
theorem dX2_yearsGoBy_33 : decode cX2_yearsGoBy 33 = .ok (.aload_n 1, 1) := by decide +kernel
theorem dX2_yearsGoBy_34 : decode cX2_yearsGoBy 34 = .ok (.iload 4, 2) := by decide +kernel
theorem dX2_yearsGoBy_36 : decode cX2_yearsGoBy 36 = .ok (.invokevirtual 96, 3) := by decide +kernel
theorem dX2_yearsGoBy_39 : decode cX2_yearsGoBy 39 = .ok (.ifCond .ne 10, 3) := by decide +kernel
theorem dX2_yearsGoBy_42 : decode cX2_yearsGoBy 42 = .ok (.aload_n 0, 1) := by decide +kernel
theorem dX2_yearsGoBy_43 : decode cX2_yearsGoBy 43 = .ok (.aload_n 1, 1) := by decide +kernel
theorem dX2_yearsGoBy_44 : decode cX2_yearsGoBy 44 = .ok (.iload 4, 2) := by decide +kernel
theorem dX2_yearsGoBy_46 : decode cX2_yearsGoBy 46 = .ok (.invokevirtual 99, 3) := by decide +kernel
theorem dX2_yearsGoBy_49 : decode cX2_yearsGoBy 49 = .ok (.iinc 4 1, 3) := by decide +kernel
theorem dX2_yearsGoBy_52 : decode cX2_yearsGoBy 52 = .ok (.goto (-42), 3) := by decide +kernel
theorem dX2_yearsGoBy_55 : decode cX2_yearsGoBy 55 = .ok (.aload_n 0, 1) := by decide +kernel
theorem dX2_yearsGoBy_56 : decode cX2_yearsGoBy 56 = .ok (.aload_n 1, 1) := by decide +kernel
theorem dX2_yearsGoBy_57 : decode cX2_yearsGoBy 57 = .ok (.invokevirtual 66, 3) := by decide +kernel
theorem dX2_yearsGoBy_60 : decode cX2_yearsGoBy 60 = .ok (.aload_n 1, 1) := by decide +kernel
theorem dX2_yearsGoBy_61 : decode cX2_yearsGoBy 61 = .ok (.invokevirtual 103, 3) := by decide +kernel
theorem dX2_yearsGoBy_64 : decode cX2_yearsGoBy 64 = .ok (.iinc 3 1, 3) := by decide +kernel
theorem dX2_yearsGoBy_67 : decode cX2_yearsGoBy 67 = .ok (.goto (-65), 3) := by decide +kernel
theorem dX2_yearsGoBy_70 : decode cX2_yearsGoBy 70 = .ok (.return_, 1) := by decide +kernel
theorem dX2_giveStrokes_0 : decode cX2_giveStrokes 0 = .ok (.iconst 0, 1) := by decide +kernel
theorem dX2_giveStrokes_1 : decode cX2_giveStrokes 1 = .ok (.istore_n 2, 1) := by decide +kernel
theorem dX2_giveStrokes_2 : decode cX2_giveStrokes 2 = .ok (.iload_n 2, 1) := by decide +kernel
theorem dX2_giveStrokes_3 : decode cX2_giveStrokes 3 = .ok (.aload_n 0, 1) := by decide +kernel
theorem dX2_giveStrokes_4 : decode cX2_giveStrokes 4 = .ok (.getfield 31, 3) := by decide +kernel
theorem dX2_giveStrokes_7 : decode cX2_giveStrokes 7 = .ok (.if_icmp .ge 20, 3) := by decide +kernel
theorem dX2_giveStrokes_10 : decode cX2_giveStrokes 10 = .ok (.aload_n 1, 1) := by decide +kernel
theorem dX2_giveStrokes_11 : decode cX2_giveStrokes 11 = .ok (.iload_n 2, 1) := by decide +kernel
theorem dX2_giveStrokes_12 : decode cX2_giveStrokes 12 = .ok (.aload_n 0, 1) := by decide +kernel
theorem dX2_giveStrokes_13 : decode cX2_giveStrokes 13 = .ok (.iload_n 2, 1) := by decide +kernel
theorem dX2_giveStrokes_14 : decode cX2_giveStrokes 14 = .ok (.iconst 2, 1) := by decide +kernel
theorem dX2_giveStrokes_15 : decode cX2_giveStrokes 15 = .ok (.invokevirtual 59, 3) := by decide +kernel
theorem dX2_giveStrokes_18 : decode cX2_giveStrokes 18 = .ok (.invokevirtual 106, 3) := by decide +kernel
theorem dX2_giveStrokes_21 : decode cX2_giveStrokes 21 = .ok (.iinc 2 1, 3) := by decide +kernel
theorem dX2_giveStrokes_24 : decode cX2_giveStrokes 24 = .ok (.goto (-22), 3) := by decide +kernel
theorem dX2_giveStrokes_27 : decode cX2_giveStrokes 27 = .ok (.return_, 1) := by decide +kernel
theorem dX2_takes_0 : decode cX2_takes 0 = .ok (.aload_n 0, 1) := by decide +kernel
theorem dX2_takes_1 : decode cX2_takes 1 = .ok (.iload_n 1, 1) := by decide +kernel
theorem dX2_takes_2 : decode cX2_takes 2 = .ok (.iconst 1, 1) := by decide +kernel
theorem dX2_takes_3 : decode cX2_takes 3 = .ok (.invokevirtual 59, 3) := by decide +kernel
theorem dX2_takes_6 : decode cX2_takes 6 = .ok (.istore_n 3, 1) := by decide +kernel
theorem dX2_takes_7 : decode cX2_takes 7 = .ok (.aload_n 0, 1) := by decide +kernel
theorem dX2_takes_8 : decode cX2_takes 8 = .ok (.iload_n 1, 1) := by decide +kernel
theorem dX2_takes_9 : decode cX2_takes 9 = .ok (.iconst 0, 1) := by decide +kernel
theorem dX2_takes_10 : decode cX2_takes 10 = .ok (.invokevirtual 59, 3) := by decide +kernel
theorem dX2_takes_13 : decode cX2_takes 13 = .ok (.lookupswitch 48 #[(2, 27), (3, 33)], 27) := by decide +kernel
theorem dX2_takes_40 : decode cX2_takes 40 = .ok (.iconst 1, 1) := by decide +kernel
theorem dX2_takes_41 : decode cX2_takes 41 = .ok (.iload_n 3, 1) := by decide +kernel
theorem dX2_takes_42 : decode cX2_takes 42 = .ok (.iconst 2, 1) := by decide +kernel
theorem dX2_takes_43 : decode cX2_takes 43 = .ok (.idiv, 1) := by decide +kernel
theorem dX2_takes_44 : decode cX2_takes 44 = .ok (.iadd, 1) := by decide +kernel
theorem dX2_takes_45 : decode cX2_takes 45 = .ok (.ireturn, 1) := by decide +kernel
theorem dX2_takes_46 : decode cX2_takes 46 = .ok (.iload_n 2, 1) := by decide +kernel
theorem dX2_takes_47 : decode cX2_takes 47 = .ok (.invokestatic 76, 3) := by decide +kernel
theorem dX2_takes_50 : decode cX2_takes 50 = .ok (.ifCond .eq 7, 3) := by decide +kernel
theorem dX2_takes_53 : decode cX2_takes 53 = .ok (.iconst 0, 1) := by decide +kernel
theorem dX2_takes_54 : decode cX2_takes 54 = .ok (.goto 6, 3) := by decide +kernel
theorem dX2_takes_57 : decode cX2_takes 57 = .ok (.iconst 2, 1) := by decide +kernel
theorem dX2_takes_58 : decode cX2_takes 58 = .ok (.iload_n 3, 1) := by decide +kernel
theorem dX2_takes_59 : decode cX2_takes 59 = .ok (.imul, 1) := by decide +kernel
theorem dX2_takes_60 : decode cX2_takes 60 = .ok (.ireturn, 1) := by decide +kernel
theorem dX2_takes_61 : decode cX2_takes 61 = .ok (.iload_n 3, 1) := by decide +kernel
theorem dX2_takes_62 : decode cX2_takes 62 = .ok (.ireturn, 1) := by decide +kernel
theorem dX2_takesAfter_0 : decode cX2_takesAfter 0 = .ok (.aload_n 0, 1) := by decide +kernel
theorem dX2_takesAfter_1 : decode cX2_takesAfter 1 = .ok (.iload_n 1, 1) := by decide +kernel
theorem dX2_takesAfter_2 : decode cX2_takesAfter 2 = .ok (.iconst 0, 1) := by decide +kernel
theorem dX2_takesAfter_3 : decode cX2_takesAfter 3 = .ok (.invokevirtual 59, 3) := by decide +kernel
theorem dX2_takesAfter_6 : decode cX2_takesAfter 6 = .ok (.iconst 1, 1) := by decide +kernel
theorem dX2_takesAfter_7 : decode cX2_takesAfter 7 = .ok (.if_icmp .ne 14, 3) := by decide +kernel
theorem dX2_takesAfter_10 : decode cX2_takesAfter 10 = .ok (.aload_n 0, 1) := by decide +kernel
theorem dX2_takesAfter_11 : decode cX2_takesAfter 11 = .ok (.iload_n 1, 1) := by decide +kernel
theorem dX2_takesAfter_12 : decode cX2_takesAfter 12 = .ok (.iconst 1, 1) := by decide +kernel
theorem dX2_takesAfter_13 : decode cX2_takesAfter 13 = .ok (.invokevirtual 59, 3) := by decide +kernel
theorem dX2_takesAfter_16 : decode cX2_takesAfter 16 = .ok (.iconst 2, 1) := by decide +kernel
theorem dX2_takesAfter_17 : decode cX2_takesAfter 17 = .ok (.idiv, 1) := by decide +kernel
theorem dX2_takesAfter_18 : decode cX2_takesAfter 18 = .ok (.goto 4, 3) := by decide +kernel
theorem dX2_takesAfter_21 : decode cX2_takesAfter 21 = .ok (.iconst 0, 1) := by decide +kernel
theorem dX2_takesAfter_22 : decode cX2_takesAfter 22 = .ok (.ireturn, 1) := by decide +kernel
theorem dX2_canStrike_0 : decode cX2_canStrike 0 = .ok (.aload_n 1, 1) := by decide +kernel
theorem dX2_canStrike_1 : decode cX2_canStrike 1 = .ok (.iload_n 2, 1) := by decide +kernel
theorem dX2_canStrike_2 : decode cX2_canStrike 2 = .ok (.invokevirtual 109, 3) := by decide +kernel
theorem dX2_canStrike_5 : decode cX2_canStrike 5 = .ok (.ifCond .le 20, 3) := by decide +kernel
theorem dX2_canStrike_8 : decode cX2_canStrike 8 = .ok (.aload_n 0, 1) := by decide +kernel
theorem dX2_canStrike_9 : decode cX2_canStrike 9 = .ok (.aload_n 1, 1) := by decide +kernel
theorem dX2_canStrike_10 : decode cX2_canStrike 10 = .ok (.iload_n 2, 1) := by decide +kernel
theorem dX2_canStrike_11 : decode cX2_canStrike 11 = .ok (.invokevirtual 112, 3) := by decide +kernel
theorem dX2_canStrike_14 : decode cX2_canStrike 14 = .ok (.iload_n 3, 1) := by decide +kernel
theorem dX2_canStrike_15 : decode cX2_canStrike 15 = .ok (.invokevirtual 115, 3) := by decide +kernel
theorem dX2_canStrike_18 : decode cX2_canStrike 18 = .ok (.ifCond .eq 7, 3) := by decide +kernel
theorem dX2_canStrike_21 : decode cX2_canStrike 21 = .ok (.iconst 1, 1) := by decide +kernel
theorem dX2_canStrike_22 : decode cX2_canStrike 22 = .ok (.goto 4, 3) := by decide +kernel
theorem dX2_canStrike_25 : decode cX2_canStrike 25 = .ok (.iconst 0, 1) := by decide +kernel
theorem dX2_canStrike_26 : decode cX2_canStrike 26 = .ok (.ireturn, 1) := by decide +kernel
theorem dX2_strike_0 : decode cX2_strike 0 = .ok (.aload_n 1, 1) := by decide +kernel
theorem dX2_strike_1 : decode cX2_strike 1 = .ok (.iload_n 3, 1) := by decide +kernel
theorem dX2_strike_2 : decode cX2_strike 2 = .ok (.aload_n 0, 1) := by decide +kernel
theorem dX2_strike_3 : decode cX2_strike 3 = .ok (.iload_n 2, 1) := by decide +kernel
theorem dX2_strike_4 : decode cX2_strike 4 = .ok (.aload_n 1, 1) := by decide +kernel
theorem dX2_strike_5 : decode cX2_strike 5 = .ok (.iload_n 3, 1) := by decide +kernel
theorem dX2_strike_6 : decode cX2_strike 6 = .ok (.invokevirtual 80, 3) := by decide +kernel
theorem dX2_strike_9 : decode cX2_strike 9 = .ok (.invokevirtual 119, 3) := by decide +kernel
theorem dX2_strike_12 : decode cX2_strike 12 = .ok (.invokevirtual 122, 3) := by decide +kernel
theorem dX2_strike_15 : decode cX2_strike 15 = .ok (.aload_n 1, 1) := by decide +kernel
theorem dX2_strike_16 : decode cX2_strike 16 = .ok (.aload_n 0, 1) := by decide +kernel
theorem dX2_strike_17 : decode cX2_strike 17 = .ok (.iload_n 3, 1) := by decide +kernel
theorem dX2_strike_18 : decode cX2_strike 18 = .ok (.invokevirtual 90, 3) := by decide +kernel
theorem dX2_strike_21 : decode cX2_strike 21 = .ok (.aload_n 0, 1) := by decide +kernel
theorem dX2_strike_22 : decode cX2_strike 22 = .ok (.iload_n 2, 1) := by decide +kernel
theorem dX2_strike_23 : decode cX2_strike 23 = .ok (.invokevirtual 125, 3) := by decide +kernel
theorem dX2_strike_26 : decode cX2_strike 26 = .ok (.invokevirtual 122, 3) := by decide +kernel
theorem dX2_strike_29 : decode cX2_strike 29 = .ok (.aload_n 1, 1) := by decide +kernel
theorem dX2_strike_30 : decode cX2_strike 30 = .ok (.iload_n 2, 1) := by decide +kernel
theorem dX2_strike_31 : decode cX2_strike 31 = .ok (.aload_n 1, 1) := by decide +kernel
theorem dX2_strike_32 : decode cX2_strike 32 = .ok (.iload_n 2, 1) := by decide +kernel
theorem dX2_strike_33 : decode cX2_strike 33 = .ok (.invokevirtual 109, 3) := by decide +kernel
theorem dX2_strike_36 : decode cX2_strike 36 = .ok (.iconst 1, 1) := by decide +kernel
theorem dX2_strike_37 : decode cX2_strike 37 = .ok (.isub, 1) := by decide +kernel
theorem dX2_strike_38 : decode cX2_strike 38 = .ok (.invokevirtual 106, 3) := by decide +kernel
theorem dX2_strike_41 : decode cX2_strike 41 = .ok (.aload_n 1, 1) := by decide +kernel
theorem dX2_strike_42 : decode cX2_strike 42 = .ok (.iload_n 2, 1) := by decide +kernel
theorem dX2_strike_43 : decode cX2_strike 43 = .ok (.iload_n 3, 1) := by decide +kernel
theorem dX2_strike_44 : decode cX2_strike 44 = .ok (.invokevirtual 63, 3) := by decide +kernel
theorem dX2_strike_47 : decode cX2_strike 47 = .ok (.return_, 1) := by decide +kernel
theorem dX3_init_0 : decode cX3_init 0 = .ok (.aload_n 0, 1) := by decide +kernel
theorem dX3_init_1 : decode cX3_init 1 = .ok (.invokespecial 3, 3) := by decide +kernel
theorem dX3_init_4 : decode cX3_init 4 = .ok (.aload_n 0, 1) := by decide +kernel
theorem dX3_init_5 : decode cX3_init 5 = .ok (.iconst 4, 1) := by decide +kernel
theorem dX3_init_6 : decode cX3_init 6 = .ok (.newarray .int, 2) := by decide +kernel
theorem dX3_init_8 : decode cX3_init 8 = .ok (.putfield 9, 3) := by decide +kernel
theorem dX3_init_11 : decode cX3_init 11 = .ok (.aload_n 0, 1) := by decide +kernel
theorem dX3_init_12 : decode cX3_init 12 = .ok (.bipush 6, 2) := by decide +kernel
theorem dX3_init_14 : decode cX3_init 14 = .ok (.newarray .int, 2) := by decide +kernel
theorem dX3_init_16 : decode cX3_init 16 = .ok (.putfield 15, 3) := by decide +kernel
theorem dX3_init_19 : decode cX3_init 19 = .ok (.aload_n 0, 1) := by decide +kernel
theorem dX3_init_20 : decode cX3_init 20 = .ok (.iconst 0, 1) := by decide +kernel
theorem dX3_init_21 : decode cX3_init 21 = .ok (.putfield 18, 3) := by decide +kernel
theorem dX3_init_24 : decode cX3_init 24 = .ok (.return_, 1) := by decide +kernel
theorem dX3_read_0 : decode cX3_read 0 = .ok (.aload_n 2, 1) := by decide +kernel
theorem dX3_read_1 : decode cX3_read 1 = .ok (.invokevirtual 22, 3) := by decide +kernel
theorem dX3_read_4 : decode cX3_read 4 = .ok (.aload_n 0, 1) := by decide +kernel
theorem dX3_read_5 : decode cX3_read 5 = .ok (.iconst 0, 1) := by decide +kernel
theorem dX3_read_6 : decode cX3_read 6 = .ok (.putfield 18, 3) := by decide +kernel
theorem dX3_read_9 : decode cX3_read 9 = .ok (.iconst 0, 1) := by decide +kernel
theorem dX3_read_10 : decode cX3_read 10 = .ok (.istore_n 3, 1) := by decide +kernel
theorem dX3_read_11 : decode cX3_read 11 = .ok (.iload_n 3, 1) := by decide +kernel
theorem dX3_read_12 : decode cX3_read 12 = .ok (.sipush 200, 3) := by decide +kernel
theorem dX3_read_15 : decode cX3_read 15 = .ok (.if_icmp .ge 38, 3) := by decide +kernel
theorem dX3_read_18 : decode cX3_read 18 = .ok (.aload_n 0, 1) := by decide +kernel
theorem dX3_read_19 : decode cX3_read 19 = .ok (.getfield 18, 3) := by decide +kernel
theorem dX3_read_22 : decode cX3_read 22 = .ok (.aload_n 1, 1) := by decide +kernel
theorem dX3_read_23 : decode cX3_read 23 = .ok (.invokevirtual 27, 3) := by decide +kernel
theorem dX3_read_26 : decode cX3_read 26 = .ok (.if_icmp .ge 27, 3) := by decide +kernel
theorem dX3_read_29 : decode cX3_read 29 = .ok (.aload_n 0, 1) := by decide +kernel
theorem dX3_read_30 : decode cX3_read 30 = .ok (.getfield 18, 3) := by decide +kernel
theorem dX3_read_33 : decode cX3_read 33 = .ok (.istore 4, 2) := by decide +kernel
theorem dX3_read_35 : decode cX3_read 35 = .ok (.aload_n 0, 1) := by decide +kernel
theorem dX3_read_36 : decode cX3_read 36 = .ok (.aload_n 1, 1) := by decide +kernel
theorem dX3_read_37 : decode cX3_read 37 = .ok (.aload_n 2, 1) := by decide +kernel
theorem dX3_read_38 : decode cX3_read 38 = .ok (.invokevirtual 33, 3) := by decide +kernel
theorem dX3_read_41 : decode cX3_read 41 = .ok (.ifCond .ne 6, 3) := by decide +kernel
theorem dX3_read_44 : decode cX3_read 44 = .ok (.iload 4, 2) := by decide +kernel
theorem dX3_read_46 : decode cX3_read 46 = .ok (.ireturn, 1) := by decide +kernel
theorem dX3_read_47 : decode cX3_read 47 = .ok (.iinc 3 1, 3) := by decide +kernel
theorem dX3_read_50 : decode cX3_read 50 = .ok (.goto (-39), 3) := by decide +kernel
theorem dX3_read_53 : decode cX3_read 53 = .ok (.bipush (-4), 2) := by decide +kernel
theorem dX3_read_55 : decode cX3_read 55 = .ok (.ireturn, 1) := by decide +kernel
theorem dX3_readItem_0 : decode cX3_readItem 0 = .ok (.aload_n 1, 1) := by decide +kernel
theorem dX3_readItem_1 : decode cX3_readItem 1 = .ok (.aload_n 0, 1) := by decide +kernel
theorem dX3_readItem_2 : decode cX3_readItem 2 = .ok (.getfield 18, 3) := by decide +kernel
theorem dX3_readItem_5 : decode cX3_readItem 5 = .ok (.invokevirtual 37, 3) := by decide +kernel
theorem dX3_readItem_8 : decode cX3_readItem 8 = .ok (.istore_n 3, 1) := by decide +kernel
theorem dX3_readItem_9 : decode cX3_readItem 9 = .ok (.aload_n 0, 1) := by decide +kernel
theorem dX3_readItem_10 : decode cX3_readItem 10 = .ok (.dup, 1) := by decide +kernel
theorem dX3_readItem_11 : decode cX3_readItem 11 = .ok (.getfield 18, 3) := by decide +kernel
theorem dX3_readItem_14 : decode cX3_readItem 14 = .ok (.iconst 1, 1) := by decide +kernel
theorem dX3_readItem_15 : decode cX3_readItem 15 = .ok (.iadd, 1) := by decide +kernel
theorem dX3_readItem_16 : decode cX3_readItem 16 = .ok (.putfield 18, 3) := by decide +kernel
theorem dX3_readItem_19 : decode cX3_readItem 19 = .ok (.iload_n 3, 1) := by decide +kernel
theorem dX3_readItem_20 : decode cX3_readItem 20 = .ok (.bipush 114, 2) := by decide +kernel
theorem dX3_readItem_22 : decode cX3_readItem 22 = .ok (.if_icmp .ne 10, 3) := by decide +kernel
theorem dX3_readItem_25 : decode cX3_readItem 25 = .ok (.aload_n 0, 1) := by decide +kernel
theorem dX3_readItem_26 : decode cX3_readItem 26 = .ok (.aload_n 1, 1) := by decide +kernel
theorem dX3_readItem_27 : decode cX3_readItem 27 = .ok (.aload_n 2, 1) := by decide +kernel
theorem dX3_readItem_28 : decode cX3_readItem 28 = .ok (.invokevirtual 41, 3) := by decide +kernel
theorem dX3_readItem_31 : decode cX3_readItem 31 = .ok (.ireturn, 1) := by decide +kernel
theorem dX3_readItem_32 : decode cX3_readItem 32 = .ok (.iload_n 3, 1) := by decide +kernel
theorem dX3_readItem_33 : decode cX3_readItem 33 = .ok (.bipush 99, 2) := by decide +kernel
theorem dX3_readItem_35 : decode cX3_readItem 35 = .ok (.if_icmp .ne 28, 3) := by decide +kernel
theorem dX3_readItem_38 : decode cX3_readItem 38 = .ok (.aload_n 0, 1) := by decide +kernel
theorem dX3_readItem_39 : decode cX3_readItem 39 = .ok (.aload_n 1, 1) := by decide +kernel
theorem dX3_readItem_40 : decode cX3_readItem 40 = .ok (.invokevirtual 44, 3) := by decide +kernel
theorem dX3_readItem_43 : decode cX3_readItem 43 = .ok (.ifCond .eq 18, 3) := by decide +kernel
theorem dX3_readItem_46 : decode cX3_readItem 46 = .ok (.aload_n 2, 1) := by decide +kernel
theorem dX3_readItem_47 : decode cX3_readItem 47 = .ok (.aload_n 0, 1) := by decide +kernel
theorem dX3_readItem_48 : decode cX3_readItem 48 = .ok (.getfield 9, 3) := by decide +kernel
theorem dX3_readItem_51 : decode cX3_readItem 51 = .ok (.invokevirtual 48, 3) := by decide +kernel
theorem dX3_readItem_54 : decode cX3_readItem 54 = .ok (.ifCond .eq 7, 3) := by decide +kernel
theorem dX3_readItem_57 : decode cX3_readItem 57 = .ok (.iconst 1, 1) := by decide +kernel
theorem dX3_readItem_58 : decode cX3_readItem 58 = .ok (.goto 4, 3) := by decide +kernel
theorem dX3_readItem_61 : decode cX3_readItem 61 = .ok (.iconst 0, 1) := by decide +kernel
theorem dX3_readItem_62 : decode cX3_readItem 62 = .ok (.ireturn, 1) := by decide +kernel
theorem dX3_readItem_63 : decode cX3_readItem 63 = .ok (.iload_n 3, 1) := by decide +kernel
theorem dX3_readItem_64 : decode cX3_readItem 64 = .ok (.bipush 109, 2) := by decide +kernel
theorem dX3_readItem_66 : decode cX3_readItem 66 = .ok (.if_icmp .ne 26, 3) := by decide +kernel
theorem dX3_readItem_69 : decode cX3_readItem 69 = .ok (.aload_n 0, 1) := by decide +kernel
theorem dX3_readItem_70 : decode cX3_readItem 70 = .ok (.aload_n 1, 1) := by decide +kernel
theorem dX3_readItem_71 : decode cX3_readItem 71 = .ok (.invokevirtual 44, 3) := by decide +kernel
theorem dX3_readItem_74 : decode cX3_readItem 74 = .ok (.ifCond .eq 18, 3) := by decide +kernel
theorem dX3_readItem_77 : decode cX3_readItem 77 = .ok (.aload_n 2, 1) := by decide +kernel
theorem dX3_readItem_78 : decode cX3_readItem 78 = .ok (.aload_n 0, 1) := by decide +kernel
theorem dX3_readItem_79 : decode cX3_readItem 79 = .ok (.getfield 9, 3) := by decide +kernel
theorem dX3_readItem_82 : decode cX3_readItem 82 = .ok (.invokevirtual 52, 3) := by decide +kernel
theorem dX3_readItem_85 : decode cX3_readItem 85 = .ok (.ifCond .eq 7, 3) := by decide +kernel
theorem dX3_readItem_88 : decode cX3_readItem 88 = .ok (.iconst 1, 1) := by decide +kernel
theorem dX3_readItem_89 : decode cX3_readItem 89 = .ok (.goto 4, 3) := by decide +kernel
theorem dX3_readItem_92 : decode cX3_readItem 92 = .ok (.iconst 0, 1) := by decide +kernel
theorem dX3_readItem_93 : decode cX3_readItem 93 = .ok (.ireturn, 1) := by decide +kernel
theorem dX3_readRow_0 : decode cX3_readRow 0 = .ok (.iconst 0, 1) := by decide +kernel
theorem dX3_readRow_1 : decode cX3_readRow 1 = .ok (.istore_n 3, 1) := by decide +kernel
theorem dX3_readRow_2 : decode cX3_readRow 2 = .ok (.iconst 0, 1) := by decide +kernel
theorem dX3_readRow_3 : decode cX3_readRow 3 = .ok (.istore 4, 2) := by decide +kernel
theorem dX3_readRow_5 : decode cX3_readRow 5 = .ok (.iload 4, 2) := by decide +kernel
theorem dX3_readRow_7 : decode cX3_readRow 7 = .ok (.aload_n 0, 1) := by decide +kernel
theorem dX3_readRow_8 : decode cX3_readRow 8 = .ok (.getfield 15, 3) := by decide +kernel
theorem dX3_readRow_11 : decode cX3_readRow 11 = .ok (.arraylength, 1) := by decide +kernel
theorem dX3_readRow_12 : decode cX3_readRow 12 = .ok (.if_icmp .ge 50, 3) := by decide +kernel
theorem dX3_readRow_15 : decode cX3_readRow 15 = .ok (.aload_n 1, 1) := by decide +kernel
theorem dX3_readRow_16 : decode cX3_readRow 16 = .ok (.aload_n 0, 1) := by decide +kernel
theorem dX3_readRow_17 : decode cX3_readRow 17 = .ok (.getfield 18, 3) := by decide +kernel
theorem dX3_readRow_20 : decode cX3_readRow 20 = .ok (.invokevirtual 55, 3) := by decide +kernel
theorem dX3_readRow_23 : decode cX3_readRow 23 = .ok (.bipush (-4), 2) := by decide +kernel
theorem dX3_readRow_25 : decode cX3_readRow 25 = .ok (.if_icmp .eq 37, 3) := by decide +kernel
theorem dX3_readRow_28 : decode cX3_readRow 28 = .ok (.aload_n 0, 1) := by decide +kernel
theorem dX3_readRow_29 : decode cX3_readRow 29 = .ok (.getfield 15, 3) := by decide +kernel
theorem dX3_readRow_32 : decode cX3_readRow 32 = .ok (.iload 4, 2) := by decide +kernel
theorem dX3_readRow_34 : decode cX3_readRow 34 = .ok (.aload_n 1, 1) := by decide +kernel
theorem dX3_readRow_35 : decode cX3_readRow 35 = .ok (.aload_n 0, 1) := by decide +kernel
theorem dX3_readRow_36 : decode cX3_readRow 36 = .ok (.getfield 18, 3) := by decide +kernel
theorem dX3_readRow_39 : decode cX3_readRow 39 = .ok (.invokevirtual 55, 3) := by decide +kernel
theorem dX3_readRow_42 : decode cX3_readRow 42 = .ok (.iastore, 1) := by decide +kernel
theorem dX3_readRow_43 : decode cX3_readRow 43 = .ok (.iinc 3 1, 3) := by decide +kernel
theorem dX3_readRow_46 : decode cX3_readRow 46 = .ok (.aload_n 0, 1) := by decide +kernel
theorem dX3_readRow_47 : decode cX3_readRow 47 = .ok (.dup, 1) := by decide +kernel
theorem dX3_readRow_48 : decode cX3_readRow 48 = .ok (.getfield 18, 3) := by decide +kernel
theorem dX3_readRow_51 : decode cX3_readRow 51 = .ok (.iconst 1, 1) := by decide +kernel
theorem dX3_readRow_52 : decode cX3_readRow 52 = .ok (.iadd, 1) := by decide +kernel
theorem dX3_readRow_53 : decode cX3_readRow 53 = .ok (.putfield 18, 3) := by decide +kernel
theorem dX3_readRow_56 : decode cX3_readRow 56 = .ok (.iinc 4 1, 3) := by decide +kernel
theorem dX3_readRow_59 : decode cX3_readRow 59 = .ok (.goto (-54), 3) := by decide +kernel
theorem dX3_readRow_62 : decode cX3_readRow 62 = .ok (.aload_n 0, 1) := by decide +kernel
theorem dX3_readRow_63 : decode cX3_readRow 63 = .ok (.aload_n 1, 1) := by decide +kernel
theorem dX3_readRow_64 : decode cX3_readRow 64 = .ok (.bipush 59, 2) := by decide +kernel
theorem dX3_readRow_66 : decode cX3_readRow 66 = .ok (.invokevirtual 59, 3) := by decide +kernel
theorem dX3_readRow_69 : decode cX3_readRow 69 = .ok (.ifCond .eq 19, 3) := by decide +kernel
theorem dX3_readRow_72 : decode cX3_readRow 72 = .ok (.aload_n 2, 1) := by decide +kernel
theorem dX3_readRow_73 : decode cX3_readRow 73 = .ok (.aload_n 0, 1) := by decide +kernel
theorem dX3_readRow_74 : decode cX3_readRow 74 = .ok (.getfield 15, 3) := by decide +kernel
theorem dX3_readRow_77 : decode cX3_readRow 77 = .ok (.iload_n 3, 1) := by decide +kernel
theorem dX3_readRow_78 : decode cX3_readRow 78 = .ok (.invokevirtual 63, 3) := by decide +kernel
theorem dX3_readRow_81 : decode cX3_readRow 81 = .ok (.ifCond .eq 7, 3) := by decide +kernel
theorem dX3_readRow_84 : decode cX3_readRow 84 = .ok (.iconst 1, 1) := by decide +kernel
theorem dX3_readRow_85 : decode cX3_readRow 85 = .ok (.goto 4, 3) := by decide +kernel
theorem dX3_readRow_88 : decode cX3_readRow 88 = .ok (.iconst 0, 1) := by decide +kernel
theorem dX3_readRow_89 : decode cX3_readRow 89 = .ok (.ireturn, 1) := by decide +kernel
theorem dX3_readNumbers_0 : decode cX3_readNumbers 0 = .ok (.iconst 0, 1) := by decide +kernel
theorem dX3_readNumbers_1 : decode cX3_readNumbers 1 = .ok (.istore_n 2, 1) := by decide +kernel
theorem dX3_readNumbers_2 : decode cX3_readNumbers 2 = .ok (.iload_n 2, 1) := by decide +kernel
theorem dX3_readNumbers_3 : decode cX3_readNumbers 3 = .ok (.aload_n 0, 1) := by decide +kernel
theorem dX3_readNumbers_4 : decode cX3_readNumbers 4 = .ok (.getfield 9, 3) := by decide +kernel
theorem dX3_readNumbers_7 : decode cX3_readNumbers 7 = .ok (.arraylength, 1) := by decide +kernel
theorem dX3_readNumbers_8 : decode cX3_readNumbers 8 = .ok (.if_icmp .ge 114, 3) := by decide +kernel
theorem dX3_readNumbers_11 : decode cX3_readNumbers 11 = .ok (.aload_n 1, 1) := by decide +kernel
theorem dX3_readNumbers_12 : decode cX3_readNumbers 12 = .ok (.aload_n 0, 1) := by decide +kernel
theorem dX3_readNumbers_13 : decode cX3_readNumbers 13 = .ok (.getfield 18, 3) := by decide +kernel
theorem dX3_readNumbers_16 : decode cX3_readNumbers 16 = .ok (.invokevirtual 55, 3) := by decide +kernel
theorem dX3_readNumbers_19 : decode cX3_readNumbers 19 = .ok (.istore_n 3, 1) := by decide +kernel
theorem dX3_readNumbers_20 : decode cX3_readNumbers 20 = .ok (.iload_n 3, 1) := by decide +kernel
theorem dX3_readNumbers_21 : decode cX3_readNumbers 21 = .ok (.bipush (-4), 2) := by decide +kernel
theorem dX3_readNumbers_23 : decode cX3_readNumbers 23 = .ok (.if_icmp .ne 5, 3) := by decide +kernel
theorem dX3_readNumbers_26 : decode cX3_readNumbers 26 = .ok (.iconst 0, 1) := by decide +kernel
theorem dX3_readNumbers_27 : decode cX3_readNumbers 27 = .ok (.ireturn, 1) := by decide +kernel
theorem dX3_readNumbers_28 : decode cX3_readNumbers 28 = .ok (.aload_n 0, 1) := by decide +kernel
theorem dX3_readNumbers_29 : decode cX3_readNumbers 29 = .ok (.dup, 1) := by decide +kernel
theorem dX3_readNumbers_30 : decode cX3_readNumbers 30 = .ok (.getfield 18, 3) := by decide +kernel
theorem dX3_readNumbers_33 : decode cX3_readNumbers 33 = .ok (.iconst 1, 1) := by decide +kernel
theorem dX3_readNumbers_34 : decode cX3_readNumbers 34 = .ok (.iadd, 1) := by decide +kernel
theorem dX3_readNumbers_35 : decode cX3_readNumbers 35 = .ok (.putfield 18, 3) := by decide +kernel
theorem dX3_readNumbers_38 : decode cX3_readNumbers 38 = .ok (.aload_n 1, 1) := by decide +kernel
theorem dX3_readNumbers_39 : decode cX3_readNumbers 39 = .ok (.aload_n 0, 1) := by decide +kernel
theorem dX3_readNumbers_40 : decode cX3_readNumbers 40 = .ok (.getfield 18, 3) := by decide +kernel
theorem dX3_readNumbers_43 : decode cX3_readNumbers 43 = .ok (.invokevirtual 55, 3) := by decide +kernel
theorem dX3_readNumbers_46 : decode cX3_readNumbers 46 = .ok (.istore 4, 2) := by decide +kernel
theorem dX3_readNumbers_48 : decode cX3_readNumbers 48 = .ok (.iload 4, 2) := by decide +kernel
theorem dX3_readNumbers_50 : decode cX3_readNumbers 50 = .ok (.bipush (-4), 2) := by decide +kernel
theorem dX3_readNumbers_52 : decode cX3_readNumbers 52 = .ok (.if_icmp .ne 13, 3) := by decide +kernel
theorem dX3_readNumbers_55 : decode cX3_readNumbers 55 = .ok (.aload_n 0, 1) := by decide +kernel
theorem dX3_readNumbers_56 : decode cX3_readNumbers 56 = .ok (.getfield 9, 3) := by decide +kernel
theorem dX3_readNumbers_59 : decode cX3_readNumbers 59 = .ok (.iload_n 2, 1) := by decide +kernel
theorem dX3_readNumbers_60 : decode cX3_readNumbers 60 = .ok (.iload_n 3, 1) := by decide +kernel
theorem dX3_readNumbers_61 : decode cX3_readNumbers 61 = .ok (.iastore, 1) := by decide +kernel
theorem dX3_readNumbers_62 : decode cX3_readNumbers 62 = .ok (.goto 26, 3) := by decide +kernel
theorem dX3_readNumbers_65 : decode cX3_readNumbers 65 = .ok (.aload_n 0, 1) := by decide +kernel
theorem dX3_readNumbers_66 : decode cX3_readNumbers 66 = .ok (.getfield 9, 3) := by decide +kernel
theorem dX3_readNumbers_69 : decode cX3_readNumbers 69 = .ok (.iload_n 2, 1) := by decide +kernel
theorem dX3_readNumbers_70 : decode cX3_readNumbers 70 = .ok (.bipush 10, 2) := by decide +kernel
theorem dX3_readNumbers_72 : decode cX3_readNumbers 72 = .ok (.iload_n 3, 1) := by decide +kernel
theorem dX3_readNumbers_73 : decode cX3_readNumbers 73 = .ok (.imul, 1) := by decide +kernel
theorem dX3_readNumbers_74 : decode cX3_readNumbers 74 = .ok (.iload 4, 2) := by decide +kernel
theorem dX3_readNumbers_76 : decode cX3_readNumbers 76 = .ok (.iadd, 1) := by decide +kernel
theorem dX3_readNumbers_77 : decode cX3_readNumbers 77 = .ok (.iastore, 1) := by decide +kernel
theorem dX3_readNumbers_78 : decode cX3_readNumbers 78 = .ok (.aload_n 0, 1) := by decide +kernel
theorem dX3_readNumbers_79 : decode cX3_readNumbers 79 = .ok (.dup, 1) := by decide +kernel
theorem dX3_readNumbers_80 : decode cX3_readNumbers 80 = .ok (.getfield 18, 3) := by decide +kernel
theorem dX3_readNumbers_83 : decode cX3_readNumbers 83 = .ok (.iconst 1, 1) := by decide +kernel
theorem dX3_readNumbers_84 : decode cX3_readNumbers 84 = .ok (.iadd, 1) := by decide +kernel
theorem dX3_readNumbers_85 : decode cX3_readNumbers 85 = .ok (.putfield 18, 3) := by decide +kernel
theorem dX3_readNumbers_88 : decode cX3_readNumbers 88 = .ok (.aload_n 0, 1) := by decide +kernel
theorem dX3_readNumbers_89 : decode cX3_readNumbers 89 = .ok (.aload_n 1, 1) := by decide +kernel
theorem dX3_readNumbers_90 : decode cX3_readNumbers 90 = .ok (.iload_n 2, 1) := by decide +kernel
theorem dX3_readNumbers_91 : decode cX3_readNumbers 91 = .ok (.aload_n 0, 1) := by decide +kernel
theorem dX3_readNumbers_92 : decode cX3_readNumbers 92 = .ok (.getfield 9, 3) := by decide +kernel
theorem dX3_readNumbers_95 : decode cX3_readNumbers 95 = .ok (.arraylength, 1) := by decide +kernel
theorem dX3_readNumbers_96 : decode cX3_readNumbers 96 = .ok (.iconst 1, 1) := by decide +kernel
theorem dX3_readNumbers_97 : decode cX3_readNumbers 97 = .ok (.isub, 1) := by decide +kernel
theorem dX3_readNumbers_98 : decode cX3_readNumbers 98 = .ok (.if_icmp .ne 8, 3) := by decide +kernel
theorem dX3_readNumbers_101 : decode cX3_readNumbers 101 = .ok (.bipush 59, 2) := by decide +kernel
theorem dX3_readNumbers_103 : decode cX3_readNumbers 103 = .ok (.goto 5, 3) := by decide +kernel
theorem dX3_readNumbers_106 : decode cX3_readNumbers 106 = .ok (.bipush 44, 2) := by decide +kernel
theorem dX3_readNumbers_108 : decode cX3_readNumbers 108 = .ok (.invokevirtual 59, 3) := by decide +kernel
theorem dX3_readNumbers_111 : decode cX3_readNumbers 111 = .ok (.ifCond .ne 5, 3) := by decide +kernel
theorem dX3_readNumbers_114 : decode cX3_readNumbers 114 = .ok (.iconst 0, 1) := by decide +kernel
theorem dX3_readNumbers_115 : decode cX3_readNumbers 115 = .ok (.ireturn, 1) := by decide +kernel
theorem dX3_readNumbers_116 : decode cX3_readNumbers 116 = .ok (.iinc 2 1, 3) := by decide +kernel
theorem dX3_readNumbers_119 : decode cX3_readNumbers 119 = .ok (.goto (-117), 3) := by decide +kernel
theorem dX3_readNumbers_122 : decode cX3_readNumbers 122 = .ok (.iconst 1, 1) := by decide +kernel
theorem dX3_readNumbers_123 : decode cX3_readNumbers 123 = .ok (.ireturn, 1) := by decide +kernel
theorem dX3_skip_0 : decode cX3_skip 0 = .ok (.aload_n 1, 1) := by decide +kernel
theorem dX3_skip_1 : decode cX3_skip 1 = .ok (.aload_n 0, 1) := by decide +kernel
theorem dX3_skip_2 : decode cX3_skip 2 = .ok (.getfield 18, 3) := by decide +kernel
theorem dX3_skip_5 : decode cX3_skip 5 = .ok (.invokevirtual 37, 3) := by decide +kernel
theorem dX3_skip_8 : decode cX3_skip 8 = .ok (.iload_n 2, 1) := by decide +kernel
theorem dX3_skip_9 : decode cX3_skip 9 = .ok (.if_icmp .eq 5, 3) := by decide +kernel
theorem dX3_skip_12 : decode cX3_skip 12 = .ok (.iconst 0, 1) := by decide +kernel
theorem dX3_skip_13 : decode cX3_skip 13 = .ok (.ireturn, 1) := by decide +kernel
theorem dX3_skip_14 : decode cX3_skip 14 = .ok (.aload_n 0, 1) := by decide +kernel
theorem dX3_skip_15 : decode cX3_skip 15 = .ok (.dup, 1) := by decide +kernel
theorem dX3_skip_16 : decode cX3_skip 16 = .ok (.getfield 18, 3) := by decide +kernel
theorem dX3_skip_19 : decode cX3_skip 19 = .ok (.iconst 1, 1) := by decide +kernel
theorem dX3_skip_20 : decode cX3_skip 20 = .ok (.iadd, 1) := by decide +kernel
theorem dX3_skip_21 : decode cX3_skip 21 = .ok (.putfield 18, 3) := by decide +kernel
theorem dX3_skip_24 : decode cX3_skip 24 = .ok (.iconst 1, 1) := by decide +kernel
theorem dX3_skip_25 : decode cX3_skip 25 = .ok (.ireturn, 1) := by decide +kernel
theorem dX4_init_0 : decode cX4_init 0 = .ok (.aload_n 0, 1) := by decide +kernel
theorem dX4_init_1 : decode cX4_init 1 = .ok (.invokespecial 3, 3) := by decide +kernel
theorem dX4_init_4 : decode cX4_init 4 = .ok (.aload_n 0, 1) := by decide +kernel
theorem dX4_init_5 : decode cX4_init 5 = .ok (.iconst 5, 1) := by decide +kernel
theorem dX4_init_6 : decode cX4_init 6 = .ok (.newarray .int, 2) := by decide +kernel
theorem dX4_init_8 : decode cX4_init 8 = .ok (.putfield 9, 3) := by decide +kernel
theorem dX4_init_11 : decode cX4_init 11 = .ok (.aload_n 0, 1) := by decide +kernel
theorem dX4_init_12 : decode cX4_init 12 = .ok (.iconst 5, 1) := by decide +kernel
theorem dX4_init_13 : decode cX4_init 13 = .ok (.newarray .int, 2) := by decide +kernel
theorem dX4_init_15 : decode cX4_init 15 = .ok (.putfield 15, 3) := by decide +kernel
theorem dX4_init_18 : decode cX4_init 18 = .ok (.aload_n 0, 1) := by decide +kernel
theorem dX4_init_19 : decode cX4_init 19 = .ok (.bipush (-4), 2) := by decide +kernel
theorem dX4_init_21 : decode cX4_init 21 = .ok (.putfield 18, 3) := by decide +kernel
theorem dX4_init_24 : decode cX4_init 24 = .ok (.return_, 1) := by decide +kernel
theorem dX4_least_0 : decode cX4_least 0 = .ok (.aload_n 0, 1) := by decide +kernel
theorem dX4_least_1 : decode cX4_least 1 = .ok (.bipush (-4), 2) := by decide +kernel
theorem dX4_least_3 : decode cX4_least 3 = .ok (.putfield 18, 3) := by decide +kernel
theorem dX4_least_6 : decode cX4_least 6 = .ok (.aload_n 0, 1) := by decide +kernel
theorem dX4_least_7 : decode cX4_least 7 = .ok (.aload_n 1, 1) := by decide +kernel
theorem dX4_least_8 : decode cX4_least 8 = .ok (.aload_n 2, 1) := by decide +kernel
theorem dX4_least_9 : decode cX4_least 9 = .ok (.iload_n 3, 1) := by decide +kernel
theorem dX4_least_10 : decode cX4_least 10 = .ok (.iconst 0, 1) := by decide +kernel
theorem dX4_least_11 : decode cX4_least 11 = .ok (.iload 4, 2) := by decide +kernel
theorem dX4_least_13 : decode cX4_least 13 = .ok (.invokestatic 22, 3) := by decide +kernel
theorem dX4_least_16 : decode cX4_least 16 = .ok (.aload_n 0, 1) := by decide +kernel
theorem dX4_least_17 : decode cX4_least 17 = .ok (.getfield 18, 3) := by decide +kernel
theorem dX4_least_20 : decode cX4_least 20 = .ok (.ireturn, 1) := by decide +kernel
theorem dX4_cellOfStroke_0 : decode cX4_cellOfStroke 0 = .ok (.iload_n 1, 1) := by decide +kernel
theorem dX4_cellOfStroke_1 : decode cX4_cellOfStroke 1 = .ok (.ifCond .lt 21, 3) := by decide +kernel
theorem dX4_cellOfStroke_4 : decode cX4_cellOfStroke 4 = .ok (.iload_n 1, 1) := by decide +kernel
theorem dX4_cellOfStroke_5 : decode cX4_cellOfStroke 5 = .ok (.aload_n 0, 1) := by decide +kernel
theorem dX4_cellOfStroke_6 : decode cX4_cellOfStroke 6 = .ok (.getfield 15, 3) := by decide +kernel
theorem dX4_cellOfStroke_9 : decode cX4_cellOfStroke 9 = .ok (.arraylength, 1) := by decide +kernel
theorem dX4_cellOfStroke_10 : decode cX4_cellOfStroke 10 = .ok (.if_icmp .ge 12, 3) := by decide +kernel
theorem dX4_cellOfStroke_13 : decode cX4_cellOfStroke 13 = .ok (.aload_n 0, 1) := by decide +kernel
theorem dX4_cellOfStroke_14 : decode cX4_cellOfStroke 14 = .ok (.getfield 15, 3) := by decide +kernel
theorem dX4_cellOfStroke_17 : decode cX4_cellOfStroke 17 = .ok (.iload_n 1, 1) := by decide +kernel
theorem dX4_cellOfStroke_18 : decode cX4_cellOfStroke 18 = .ok (.iaload, 1) := by decide +kernel
theorem dX4_cellOfStroke_19 : decode cX4_cellOfStroke 19 = .ok (.goto 5, 3) := by decide +kernel
theorem dX4_cellOfStroke_22 : decode cX4_cellOfStroke 22 = .ok (.bipush (-4), 2) := by decide +kernel
theorem dX4_cellOfStroke_24 : decode cX4_cellOfStroke 24 = .ok (.ireturn, 1) := by decide +kernel
theorem dX4_tryFrom_0 : decode cX4_tryFrom 0 = .ok (.iload 4, 2) := by decide +kernel
theorem dX4_tryFrom_2 : decode cX4_tryFrom 2 = .ok (.ifCond .lt 20, 3) := by decide +kernel
theorem dX4_tryFrom_5 : decode cX4_tryFrom 5 = .ok (.iload 4, 2) := by decide +kernel
theorem dX4_tryFrom_7 : decode cX4_tryFrom 7 = .ok (.iload 5, 2) := by decide +kernel
theorem dX4_tryFrom_9 : decode cX4_tryFrom 9 = .ok (.if_icmp .ge 13, 3) := by decide +kernel
theorem dX4_tryFrom_12 : decode cX4_tryFrom 12 = .ok (.iload 4, 2) := by decide +kernel
theorem dX4_tryFrom_14 : decode cX4_tryFrom 14 = .ok (.aload_n 0, 1) := by decide +kernel
theorem dX4_tryFrom_15 : decode cX4_tryFrom 15 = .ok (.getfield 9, 3) := by decide +kernel
theorem dX4_tryFrom_18 : decode cX4_tryFrom 18 = .ok (.arraylength, 1) := by decide +kernel
theorem dX4_tryFrom_19 : decode cX4_tryFrom 19 = .ok (.if_icmp .lt 12, 3) := by decide +kernel
theorem dX4_tryFrom_22 : decode cX4_tryFrom 22 = .ok (.aload_n 0, 1) := by decide +kernel
theorem dX4_tryFrom_23 : decode cX4_tryFrom 23 = .ok (.aload_n 2, 1) := by decide +kernel
theorem dX4_tryFrom_24 : decode cX4_tryFrom 24 = .ok (.invokevirtual 26, 3) := by decide +kernel
theorem dX4_tryFrom_27 : decode cX4_tryFrom 27 = .ok (.invokevirtual 32, 3) := by decide +kernel
theorem dX4_tryFrom_30 : decode cX4_tryFrom 30 = .ok (.return_, 1) := by decide +kernel
theorem dX4_tryFrom_31 : decode cX4_tryFrom 31 = .ok (.aload_n 2, 1) := by decide +kernel
theorem dX4_tryFrom_32 : decode cX4_tryFrom 32 = .ok (.iload_n 3, 1) := by decide +kernel
theorem dX4_tryFrom_33 : decode cX4_tryFrom 33 = .ok (.invokevirtual 36, 3) := by decide +kernel
theorem dX4_tryFrom_36 : decode cX4_tryFrom 36 = .ok (.istore 6, 2) := by decide +kernel
theorem dX4_tryFrom_38 : decode cX4_tryFrom 38 = .ok (.aload_n 2, 1) := by decide +kernel
theorem dX4_tryFrom_39 : decode cX4_tryFrom 39 = .ok (.iload_n 3, 1) := by decide +kernel
theorem dX4_tryFrom_40 : decode cX4_tryFrom 40 = .ok (.invokevirtual 40, 3) := by decide +kernel
theorem dX4_tryFrom_43 : decode cX4_tryFrom 43 = .ok (.istore 7, 2) := by decide +kernel
theorem dX4_tryFrom_45 : decode cX4_tryFrom 45 = .ok (.iconst 0, 1) := by decide +kernel
theorem dX4_tryFrom_46 : decode cX4_tryFrom 46 = .ok (.istore 8, 2) := by decide +kernel
theorem dX4_tryFrom_48 : decode cX4_tryFrom 48 = .ok (.iload 8, 2) := by decide +kernel
theorem dX4_tryFrom_50 : decode cX4_tryFrom 50 = .ok (.iconst 5, 1) := by decide +kernel
theorem dX4_tryFrom_51 : decode cX4_tryFrom 51 = .ok (.if_icmp .ge 109, 3) := by decide +kernel
theorem dX4_tryFrom_54 : decode cX4_tryFrom 54 = .ok (.aload_n 1, 1) := by decide +kernel
theorem dX4_tryFrom_55 : decode cX4_tryFrom 55 = .ok (.iload 6, 2) := by decide +kernel
theorem dX4_tryFrom_57 : decode cX4_tryFrom 57 = .ok (.iload 8, 2) := by decide +kernel
theorem dX4_tryFrom_59 : decode cX4_tryFrom 59 = .ok (.invokevirtual 43, 3) := by decide +kernel
theorem dX4_tryFrom_62 : decode cX4_tryFrom 62 = .ok (.istore 9, 2) := by decide +kernel
theorem dX4_tryFrom_64 : decode cX4_tryFrom 64 = .ok (.iload 9, 2) := by decide +kernel
theorem dX4_tryFrom_66 : decode cX4_tryFrom 66 = .ok (.iconst (-1), 1) := by decide +kernel
theorem dX4_tryFrom_67 : decode cX4_tryFrom 67 = .ok (.if_icmp .eq 87, 3) := by decide +kernel
theorem dX4_tryFrom_70 : decode cX4_tryFrom 70 = .ok (.aload_n 1, 1) := by decide +kernel
theorem dX4_tryFrom_71 : decode cX4_tryFrom 71 = .ok (.iload 9, 2) := by decide +kernel
theorem dX4_tryFrom_73 : decode cX4_tryFrom 73 = .ok (.invokevirtual 49, 3) := by decide +kernel
theorem dX4_tryFrom_76 : decode cX4_tryFrom 76 = .ok (.istore 10, 2) := by decide +kernel
theorem dX4_tryFrom_78 : decode cX4_tryFrom 78 = .ok (.aload_n 2, 1) := by decide +kernel
theorem dX4_tryFrom_79 : decode cX4_tryFrom 79 = .ok (.iload 9, 2) := by decide +kernel
theorem dX4_tryFrom_81 : decode cX4_tryFrom 81 = .ok (.invokevirtual 52, 3) := by decide +kernel
theorem dX4_tryFrom_84 : decode cX4_tryFrom 84 = .ok (.istore 11, 2) := by decide +kernel
theorem dX4_tryFrom_86 : decode cX4_tryFrom 86 = .ok (.aload_n 2, 1) := by decide +kernel
theorem dX4_tryFrom_87 : decode cX4_tryFrom 87 = .ok (.iload 10, 2) := by decide +kernel
theorem dX4_tryFrom_89 : decode cX4_tryFrom 89 = .ok (.invokevirtual 52, 3) := by decide +kernel
theorem dX4_tryFrom_92 : decode cX4_tryFrom 92 = .ok (.istore 12, 2) := by decide +kernel
theorem dX4_tryFrom_94 : decode cX4_tryFrom 94 = .ok (.aload_n 0, 1) := by decide +kernel
theorem dX4_tryFrom_95 : decode cX4_tryFrom 95 = .ok (.getfield 9, 3) := by decide +kernel
theorem dX4_tryFrom_98 : decode cX4_tryFrom 98 = .ok (.iload 4, 2) := by decide +kernel
theorem dX4_tryFrom_100 : decode cX4_tryFrom 100 = .ok (.iload 9, 2) := by decide +kernel
theorem dX4_tryFrom_102 : decode cX4_tryFrom 102 = .ok (.iastore, 1) := by decide +kernel
theorem dX4_tryFrom_103 : decode cX4_tryFrom 103 = .ok (.aload_n 1, 1) := by decide +kernel
theorem dX4_tryFrom_104 : decode cX4_tryFrom 104 = .ok (.aload_n 2, 1) := by decide +kernel
theorem dX4_tryFrom_105 : decode cX4_tryFrom 105 = .ok (.iload_n 3, 1) := by decide +kernel
theorem dX4_tryFrom_106 : decode cX4_tryFrom 106 = .ok (.iload 9, 2) := by decide +kernel
theorem dX4_tryFrom_108 : decode cX4_tryFrom 108 = .ok (.invokevirtual 55, 3) := by decide +kernel
theorem dX4_tryFrom_111 : decode cX4_tryFrom 111 = .ok (.aload_n 0, 1) := by decide +kernel
theorem dX4_tryFrom_112 : decode cX4_tryFrom 112 = .ok (.aload_n 1, 1) := by decide +kernel
theorem dX4_tryFrom_113 : decode cX4_tryFrom 113 = .ok (.aload_n 2, 1) := by decide +kernel
theorem dX4_tryFrom_114 : decode cX4_tryFrom 114 = .ok (.iload_n 3, 1) := by decide +kernel
theorem dX4_tryFrom_115 : decode cX4_tryFrom 115 = .ok (.iload 4, 2) := by decide +kernel
theorem dX4_tryFrom_117 : decode cX4_tryFrom 117 = .ok (.iconst 1, 1) := by decide +kernel
theorem dX4_tryFrom_118 : decode cX4_tryFrom 118 = .ok (.iadd, 1) := by decide +kernel
theorem dX4_tryFrom_119 : decode cX4_tryFrom 119 = .ok (.iload 5, 2) := by decide +kernel
theorem dX4_tryFrom_121 : decode cX4_tryFrom 121 = .ok (.invokestatic 22, 3) := by decide +kernel
theorem dX4_tryFrom_124 : decode cX4_tryFrom 124 = .ok (.aload_n 2, 1) := by decide +kernel
theorem dX4_tryFrom_125 : decode cX4_tryFrom 125 = .ok (.iload 9, 2) := by decide +kernel
theorem dX4_tryFrom_127 : decode cX4_tryFrom 127 = .ok (.iload 11, 2) := by decide +kernel
theorem dX4_tryFrom_129 : decode cX4_tryFrom 129 = .ok (.invokevirtual 59, 3) := by decide +kernel
theorem dX4_tryFrom_132 : decode cX4_tryFrom 132 = .ok (.aload_n 2, 1) := by decide +kernel
theorem dX4_tryFrom_133 : decode cX4_tryFrom 133 = .ok (.iload 10, 2) := by decide +kernel
theorem dX4_tryFrom_135 : decode cX4_tryFrom 135 = .ok (.iload 12, 2) := by decide +kernel
theorem dX4_tryFrom_137 : decode cX4_tryFrom 137 = .ok (.invokevirtual 59, 3) := by decide +kernel
theorem dX4_tryFrom_140 : decode cX4_tryFrom 140 = .ok (.aload_n 2, 1) := by decide +kernel
theorem dX4_tryFrom_141 : decode cX4_tryFrom 141 = .ok (.iload_n 3, 1) := by decide +kernel
theorem dX4_tryFrom_142 : decode cX4_tryFrom 142 = .ok (.iload 6, 2) := by decide +kernel
theorem dX4_tryFrom_144 : decode cX4_tryFrom 144 = .ok (.invokevirtual 63, 3) := by decide +kernel
theorem dX4_tryFrom_147 : decode cX4_tryFrom 147 = .ok (.aload_n 2, 1) := by decide +kernel
theorem dX4_tryFrom_148 : decode cX4_tryFrom 148 = .ok (.iload_n 3, 1) := by decide +kernel
theorem dX4_tryFrom_149 : decode cX4_tryFrom 149 = .ok (.iload 7, 2) := by decide +kernel
theorem dX4_tryFrom_151 : decode cX4_tryFrom 151 = .ok (.invokevirtual 66, 3) := by decide +kernel
theorem dX4_tryFrom_154 : decode cX4_tryFrom 154 = .ok (.iinc 8 1, 3) := by decide +kernel
theorem dX4_tryFrom_157 : decode cX4_tryFrom 157 = .ok (.goto (-109), 3) := by decide +kernel
theorem dX4_tryFrom_160 : decode cX4_tryFrom 160 = .ok (.return_, 1) := by decide +kernel
theorem dX4_noteIfBetter_0 : decode cX4_noteIfBetter 0 = .ok (.aload_n 0, 1) := by decide +kernel
theorem dX4_noteIfBetter_1 : decode cX4_noteIfBetter 1 = .ok (.getfield 18, 3) := by decide +kernel
theorem dX4_noteIfBetter_4 : decode cX4_noteIfBetter 4 = .ok (.bipush (-4), 2) := by decide +kernel
theorem dX4_noteIfBetter_6 : decode cX4_noteIfBetter 6 = .ok (.if_icmp .eq 11, 3) := by decide +kernel
theorem dX4_noteIfBetter_9 : decode cX4_noteIfBetter 9 = .ok (.iload_n 1, 1) := by decide +kernel
theorem dX4_noteIfBetter_10 : decode cX4_noteIfBetter 10 = .ok (.aload_n 0, 1) := by decide +kernel
theorem dX4_noteIfBetter_11 : decode cX4_noteIfBetter 11 = .ok (.getfield 18, 3) := by decide +kernel
theorem dX4_noteIfBetter_14 : decode cX4_noteIfBetter 14 = .ok (.if_icmp .ge 22, 3) := by decide +kernel
theorem dX4_noteIfBetter_17 : decode cX4_noteIfBetter 17 = .ok (.aload_n 0, 1) := by decide +kernel
theorem dX4_noteIfBetter_18 : decode cX4_noteIfBetter 18 = .ok (.iload_n 1, 1) := by decide +kernel
theorem dX4_noteIfBetter_19 : decode cX4_noteIfBetter 19 = .ok (.putfield 18, 3) := by decide +kernel
theorem dX4_noteIfBetter_22 : decode cX4_noteIfBetter 22 = .ok (.aload_n 0, 1) := by decide +kernel
theorem dX4_noteIfBetter_23 : decode cX4_noteIfBetter 23 = .ok (.getfield 9, 3) := by decide +kernel
theorem dX4_noteIfBetter_26 : decode cX4_noteIfBetter 26 = .ok (.iconst 0, 1) := by decide +kernel
theorem dX4_noteIfBetter_27 : decode cX4_noteIfBetter 27 = .ok (.aload_n 0, 1) := by decide +kernel
theorem dX4_noteIfBetter_28 : decode cX4_noteIfBetter 28 = .ok (.getfield 15, 3) := by decide +kernel
theorem dX4_noteIfBetter_31 : decode cX4_noteIfBetter 31 = .ok (.iconst 0, 1) := by decide +kernel
theorem dX4_noteIfBetter_32 : decode cX4_noteIfBetter 32 = .ok (.iconst 5, 1) := by decide +kernel
theorem dX4_noteIfBetter_33 : decode cX4_noteIfBetter 33 = .ok (.invokestatic 69, 3) := by decide +kernel
theorem dX4_noteIfBetter_36 : decode cX4_noteIfBetter 36 = .ok (.return_, 1) := by decide +kernel
theorem dX5_init_0 : decode cX5_init 0 = .ok (.aload_n 0, 1) := by decide +kernel
theorem dX5_init_1 : decode cX5_init 1 = .ok (.invokespecial 3, 3) := by decide +kernel
theorem dX5_init_4 : decode cX5_init 4 = .ok (.aload_n 0, 1) := by decide +kernel
theorem dX5_init_5 : decode cX5_init 5 = .ok (.bipush 16, 2) := by decide +kernel
theorem dX5_init_7 : decode cX5_init 7 = .ok (.newarray .int, 2) := by decide +kernel
theorem dX5_init_9 : decode cX5_init 9 = .ok (.putfield 11, 3) := by decide +kernel
theorem dX5_init_12 : decode cX5_init 12 = .ok (.aload_n 0, 1) := by decide +kernel
theorem dX5_init_13 : decode cX5_init 13 = .ok (.bipush 16, 2) := by decide +kernel
theorem dX5_init_15 : decode cX5_init 15 = .ok (.newarray .int, 2) := by decide +kernel
theorem dX5_init_17 : decode cX5_init 17 = .ok (.putfield 15, 3) := by decide +kernel
theorem dX5_init_20 : decode cX5_init 20 = .ok (.return_, 1) := by decide +kernel
theorem dX5_most_0 : decode cX5_most 0 = .ok (.aload_n 0, 1) := by decide +kernel
theorem dX5_most_1 : decode cX5_most 1 = .ok (.getfield 11, 3) := by decide +kernel
theorem dX5_most_4 : decode cX5_most 4 = .ok (.iconst (-1), 1) := by decide +kernel
theorem dX5_most_5 : decode cX5_most 5 = .ok (.invokestatic 18, 3) := by decide +kernel
theorem dX5_most_8 : decode cX5_most 8 = .ok (.aload_n 0, 1) := by decide +kernel
theorem dX5_most_9 : decode cX5_most 9 = .ok (.getfield 11, 3) := by decide +kernel
theorem dX5_most_12 : decode cX5_most 12 = .ok (.iconst 0, 1) := by decide +kernel
theorem dX5_most_13 : decode cX5_most 13 = .ok (.iconst 0, 1) := by decide +kernel
theorem dX5_most_14 : decode cX5_most 14 = .ok (.iastore, 1) := by decide +kernel
theorem dX5_most_15 : decode cX5_most 15 = .ok (.iconst 0, 1) := by decide +kernel
theorem dX5_most_16 : decode cX5_most 16 = .ok (.istore 4, 2) := by decide +kernel
theorem dX5_most_18 : decode cX5_most 18 = .ok (.iload 4, 2) := by decide +kernel
theorem dX5_most_20 : decode cX5_most 20 = .ok (.aload_n 1, 1) := by decide +kernel
theorem dX5_most_21 : decode cX5_most 21 = .ok (.invokevirtual 24, 3) := by decide +kernel
theorem dX5_most_24 : decode cX5_most 24 = .ok (.if_icmp .ge 99, 3) := by decide +kernel
theorem dX5_most_27 : decode cX5_most 27 = .ok (.aload_n 1, 1) := by decide +kernel
theorem dX5_most_28 : decode cX5_most 28 = .ok (.aload_n 2, 1) := by decide +kernel
theorem dX5_most_29 : decode cX5_most 29 = .ok (.iload 4, 2) := by decide +kernel
theorem dX5_most_31 : decode cX5_most 31 = .ok (.iload_n 3, 1) := by decide +kernel
theorem dX5_most_32 : decode cX5_most 32 = .ok (.invokestatic 30, 3) := by decide +kernel
theorem dX5_most_35 : decode cX5_most 35 = .ok (.istore 5, 2) := by decide +kernel
theorem dX5_most_37 : decode cX5_most 37 = .ok (.iconst 0, 1) := by decide +kernel
theorem dX5_most_38 : decode cX5_most 38 = .ok (.istore 6, 2) := by decide +kernel
theorem dX5_most_40 : decode cX5_most 40 = .ok (.iload 6, 2) := by decide +kernel
theorem dX5_most_42 : decode cX5_most 42 = .ok (.bipush 16, 2) := by decide +kernel
theorem dX5_most_44 : decode cX5_most 44 = .ok (.if_icmp .ge 58, 3) := by decide +kernel
theorem dX5_most_47 : decode cX5_most 47 = .ok (.iload 6, 2) := by decide +kernel
theorem dX5_most_49 : decode cX5_most 49 = .ok (.iload 5, 2) := by decide +kernel
theorem dX5_most_51 : decode cX5_most 51 = .ok (.iconst (-1), 1) := by decide +kernel
theorem dX5_most_52 : decode cX5_most 52 = .ok (.ixor, 1) := by decide +kernel
theorem dX5_most_53 : decode cX5_most 53 = .ok (.iand, 1) := by decide +kernel
theorem dX5_most_54 : decode cX5_most 54 = .ok (.ifCond .ne 17, 3) := by decide +kernel
theorem dX5_most_57 : decode cX5_most 57 = .ok (.iload 6, 2) := by decide +kernel
theorem dX5_most_59 : decode cX5_most 59 = .ok (.iload 6, 2) := by decide +kernel
theorem dX5_most_61 : decode cX5_most 61 = .ok (.iconst 1, 1) := by decide +kernel
theorem dX5_most_62 : decode cX5_most 62 = .ok (.ishr, 1) := by decide +kernel
theorem dX5_most_63 : decode cX5_most 63 = .ok (.iand, 1) := by decide +kernel
theorem dX5_most_64 : decode cX5_most 64 = .ok (.ifCond .ne 7, 3) := by decide +kernel
theorem dX5_most_67 : decode cX5_most 67 = .ok (.iconst 1, 1) := by decide +kernel
theorem dX5_most_68 : decode cX5_most 68 = .ok (.goto 4, 3) := by decide +kernel
theorem dX5_most_71 : decode cX5_most 71 = .ok (.iconst 0, 1) := by decide +kernel
theorem dX5_most_72 : decode cX5_most 72 = .ok (.istore 7, 2) := by decide +kernel
theorem dX5_most_74 : decode cX5_most 74 = .ok (.aload_n 0, 1) := by decide +kernel
theorem dX5_most_75 : decode cX5_most 75 = .ok (.getfield 15, 3) := by decide +kernel
theorem dX5_most_78 : decode cX5_most 78 = .ok (.iload 6, 2) := by decide +kernel
theorem dX5_most_80 : decode cX5_most 80 = .ok (.iload 7, 2) := by decide +kernel
theorem dX5_most_82 : decode cX5_most 82 = .ok (.ifCond .eq 12, 3) := by decide +kernel
theorem dX5_most_85 : decode cX5_most 85 = .ok (.aload_n 0, 1) := by decide +kernel
theorem dX5_most_86 : decode cX5_most 86 = .ok (.iload 6, 2) := by decide +kernel
theorem dX5_most_88 : decode cX5_most 88 = .ok (.invokevirtual 34, 3) := by decide +kernel
theorem dX5_most_91 : decode cX5_most 91 = .ok (.goto 4, 3) := by decide +kernel
theorem dX5_most_94 : decode cX5_most 94 = .ok (.iconst (-1), 1) := by decide +kernel
theorem dX5_most_95 : decode cX5_most 95 = .ok (.iastore, 1) := by decide +kernel
theorem dX5_most_96 : decode cX5_most 96 = .ok (.iinc 6 1, 3) := by decide +kernel
theorem dX5_most_99 : decode cX5_most 99 = .ok (.goto (-59), 3) := by decide +kernel
theorem dX5_most_102 : decode cX5_most 102 = .ok (.aload_n 0, 1) := by decide +kernel
theorem dX5_most_103 : decode cX5_most 103 = .ok (.getfield 15, 3) := by decide +kernel
theorem dX5_most_106 : decode cX5_most 106 = .ok (.iconst 0, 1) := by decide +kernel
theorem dX5_most_107 : decode cX5_most 107 = .ok (.aload_n 0, 1) := by decide +kernel
theorem dX5_most_108 : decode cX5_most 108 = .ok (.getfield 11, 3) := by decide +kernel
theorem dX5_most_111 : decode cX5_most 111 = .ok (.iconst 0, 1) := by decide +kernel
theorem dX5_most_112 : decode cX5_most 112 = .ok (.bipush 16, 2) := by decide +kernel
theorem dX5_most_114 : decode cX5_most 114 = .ok (.invokestatic 38, 3) := by decide +kernel
theorem dX5_most_117 : decode cX5_most 117 = .ok (.iinc 4 1, 3) := by decide +kernel
theorem dX5_most_120 : decode cX5_most 120 = .ok (.goto (-102), 3) := by decide +kernel
theorem dX5_most_123 : decode cX5_most 123 = .ok (.iconst 0, 1) := by decide +kernel
theorem dX5_most_124 : decode cX5_most 124 = .ok (.istore 4, 2) := by decide +kernel
theorem dX5_most_126 : decode cX5_most 126 = .ok (.iconst 0, 1) := by decide +kernel
theorem dX5_most_127 : decode cX5_most 127 = .ok (.istore 5, 2) := by decide +kernel
theorem dX5_most_129 : decode cX5_most 129 = .ok (.iload 5, 2) := by decide +kernel
theorem dX5_most_131 : decode cX5_most 131 = .ok (.bipush 16, 2) := by decide +kernel
theorem dX5_most_133 : decode cX5_most 133 = .ok (.if_icmp .ge 23, 3) := by decide +kernel
theorem dX5_most_136 : decode cX5_most 136 = .ok (.iload 4, 2) := by decide +kernel
theorem dX5_most_138 : decode cX5_most 138 = .ok (.aload_n 0, 1) := by decide +kernel
theorem dX5_most_139 : decode cX5_most 139 = .ok (.getfield 11, 3) := by decide +kernel
theorem dX5_most_142 : decode cX5_most 142 = .ok (.iload 5, 2) := by decide +kernel
theorem dX5_most_144 : decode cX5_most 144 = .ok (.iaload, 1) := by decide +kernel
theorem dX5_most_145 : decode cX5_most 145 = .ok (.invokestatic 44, 3) := by decide +kernel
theorem dX5_most_148 : decode cX5_most 148 = .ok (.istore 4, 2) := by decide +kernel
theorem dX5_most_150 : decode cX5_most 150 = .ok (.iinc 5 1, 3) := by decide +kernel
theorem dX5_most_153 : decode cX5_most 153 = .ok (.goto (-24), 3) := by decide +kernel
theorem dX5_most_156 : decode cX5_most 156 = .ok (.iload 4, 2) := by decide +kernel
theorem dX5_most_158 : decode cX5_most 158 = .ok (.ireturn, 1) := by decide +kernel
theorem dX5_freeCells_0 : decode cX5_freeCells 0 = .ok (.iconst 0, 1) := by decide +kernel
theorem dX5_freeCells_1 : decode cX5_freeCells 1 = .ok (.istore 4, 2) := by decide +kernel
theorem dX5_freeCells_3 : decode cX5_freeCells 3 = .ok (.iconst 0, 1) := by decide +kernel
theorem dX5_freeCells_4 : decode cX5_freeCells 4 = .ok (.istore 5, 2) := by decide +kernel
theorem dX5_freeCells_6 : decode cX5_freeCells 6 = .ok (.iload 5, 2) := by decide +kernel
theorem dX5_freeCells_8 : decode cX5_freeCells 8 = .ok (.aload_n 0, 1) := by decide +kernel
theorem dX5_freeCells_9 : decode cX5_freeCells 9 = .ok (.invokevirtual 50, 3) := by decide +kernel
theorem dX5_freeCells_12 : decode cX5_freeCells 12 = .ok (.if_icmp .ge 35, 3) := by decide +kernel
theorem dX5_freeCells_15 : decode cX5_freeCells 15 = .ok (.aload_n 1, 1) := by decide +kernel
theorem dX5_freeCells_16 : decode cX5_freeCells 16 = .ok (.iload 5, 2) := by decide +kernel
theorem dX5_freeCells_18 : decode cX5_freeCells 18 = .ok (.aload_n 0, 1) := by decide +kernel
theorem dX5_freeCells_19 : decode cX5_freeCells 19 = .ok (.invokevirtual 24, 3) := by decide +kernel
theorem dX5_freeCells_22 : decode cX5_freeCells 22 = .ok (.imul, 1) := by decide +kernel
theorem dX5_freeCells_23 : decode cX5_freeCells 23 = .ok (.iload_n 2, 1) := by decide +kernel
theorem dX5_freeCells_24 : decode cX5_freeCells 24 = .ok (.iadd, 1) := by decide +kernel
theorem dX5_freeCells_25 : decode cX5_freeCells 25 = .ok (.invokevirtual 53, 3) := by decide +kernel
theorem dX5_freeCells_28 : decode cX5_freeCells 28 = .ok (.iload_n 3, 1) := by decide +kernel
theorem dX5_freeCells_29 : decode cX5_freeCells 29 = .ok (.if_icmp .gt 12, 3) := by decide +kernel
theorem dX5_freeCells_32 : decode cX5_freeCells 32 = .ok (.iload 4, 2) := by decide +kernel
theorem dX5_freeCells_34 : decode cX5_freeCells 34 = .ok (.iconst 1, 1) := by decide +kernel
theorem dX5_freeCells_35 : decode cX5_freeCells 35 = .ok (.iload 5, 2) := by decide +kernel
theorem dX5_freeCells_37 : decode cX5_freeCells 37 = .ok (.ishl, 1) := by decide +kernel
theorem dX5_freeCells_38 : decode cX5_freeCells 38 = .ok (.ior, 1) := by decide +kernel
theorem dX5_freeCells_39 : decode cX5_freeCells 39 = .ok (.istore 4, 2) := by decide +kernel
theorem dX5_freeCells_41 : decode cX5_freeCells 41 = .ok (.iinc 5 1, 3) := by decide +kernel
theorem dX5_freeCells_44 : decode cX5_freeCells 44 = .ok (.goto (-38), 3) := by decide +kernel
theorem dX5_freeCells_47 : decode cX5_freeCells 47 = .ok (.iload 4, 2) := by decide +kernel
theorem dX5_freeCells_49 : decode cX5_freeCells 49 = .ok (.ireturn, 1) := by decide +kernel
theorem dX5_mostWith_0 : decode cX5_mostWith 0 = .ok (.iconst 0, 1) := by decide +kernel
theorem dX5_mostWith_1 : decode cX5_mostWith 1 = .ok (.istore_n 2, 1) := by decide +kernel
theorem dX5_mostWith_2 : decode cX5_mostWith 2 = .ok (.iconst 0, 1) := by decide +kernel
theorem dX5_mostWith_3 : decode cX5_mostWith 3 = .ok (.istore_n 3, 1) := by decide +kernel
theorem dX5_mostWith_4 : decode cX5_mostWith 4 = .ok (.iload_n 3, 1) := by decide +kernel
theorem dX5_mostWith_5 : decode cX5_mostWith 5 = .ok (.bipush 16, 2) := by decide +kernel
theorem dX5_mostWith_7 : decode cX5_mostWith 7 = .ok (.if_icmp .ge 26, 3) := by decide +kernel
theorem dX5_mostWith_10 : decode cX5_mostWith 10 = .ok (.iload_n 3, 1) := by decide +kernel
theorem dX5_mostWith_11 : decode cX5_mostWith 11 = .ok (.iload_n 1, 1) := by decide +kernel
theorem dX5_mostWith_12 : decode cX5_mostWith 12 = .ok (.iand, 1) := by decide +kernel
theorem dX5_mostWith_13 : decode cX5_mostWith 13 = .ok (.ifCond .ne 14, 3) := by decide +kernel
theorem dX5_mostWith_16 : decode cX5_mostWith 16 = .ok (.iload_n 2, 1) := by decide +kernel
theorem dX5_mostWith_17 : decode cX5_mostWith 17 = .ok (.aload_n 0, 1) := by decide +kernel
theorem dX5_mostWith_18 : decode cX5_mostWith 18 = .ok (.getfield 11, 3) := by decide +kernel
theorem dX5_mostWith_21 : decode cX5_mostWith 21 = .ok (.iload_n 3, 1) := by decide +kernel
theorem dX5_mostWith_22 : decode cX5_mostWith 22 = .ok (.iaload, 1) := by decide +kernel
theorem dX5_mostWith_23 : decode cX5_mostWith 23 = .ok (.invokestatic 44, 3) := by decide +kernel
theorem dX5_mostWith_26 : decode cX5_mostWith 26 = .ok (.istore_n 2, 1) := by decide +kernel
theorem dX5_mostWith_27 : decode cX5_mostWith 27 = .ok (.iinc 3 1, 3) := by decide +kernel
theorem dX5_mostWith_30 : decode cX5_mostWith 30 = .ok (.goto (-26), 3) := by decide +kernel
theorem dX5_mostWith_33 : decode cX5_mostWith 33 = .ok (.iload_n 2, 1) := by decide +kernel
theorem dX5_mostWith_34 : decode cX5_mostWith 34 = .ok (.iload_n 1, 1) := by decide +kernel
theorem dX5_mostWith_35 : decode cX5_mostWith 35 = .ok (.invokestatic 58, 3) := by decide +kernel
theorem dX5_mostWith_38 : decode cX5_mostWith 38 = .ok (.iadd, 1) := by decide +kernel
theorem dX5_mostWith_39 : decode cX5_mostWith 39 = .ok (.ireturn, 1) := by decide +kernel
theorem dX6_init_0 : decode cX6_init 0 = .ok (.aload_n 0, 1) := by decide +kernel
theorem dX6_init_1 : decode cX6_init 1 = .ok (.invokespecial 3, 3) := by decide +kernel
theorem dX6_init_4 : decode cX6_init 4 = .ok (.aload_n 0, 1) := by decide +kernel
theorem dX6_init_5 : decode cX6_init 5 = .ok (.bipush 8, 2) := by decide +kernel
theorem dX6_init_7 : decode cX6_init 7 = .ok (.newarray .int, 2) := by decide +kernel
theorem dX6_init_9 : decode cX6_init 9 = .ok (.putfield 9, 3) := by decide +kernel
theorem dX6_init_12 : decode cX6_init 12 = .ok (.aload_n 0, 1) := by decide +kernel
theorem dX6_init_13 : decode cX6_init 13 = .ok (.bipush 8, 2) := by decide +kernel
theorem dX6_init_15 : decode cX6_init 15 = .ok (.newarray .int, 2) := by decide +kernel
theorem dX6_init_17 : decode cX6_init 17 = .ok (.putfield 15, 3) := by decide +kernel
theorem dX6_init_20 : decode cX6_init 20 = .ok (.aload_n 0, 1) := by decide +kernel
theorem dX6_init_21 : decode cX6_init 21 = .ok (.iconst 0, 1) := by decide +kernel
theorem dX6_init_22 : decode cX6_init 22 = .ok (.putfield 18, 3) := by decide +kernel
theorem dX6_init_25 : decode cX6_init 25 = .ok (.return_, 1) := by decide +kernel
theorem dX6_size_0 : decode cX6_size 0 = .ok (.aload_n 0, 1) := by decide +kernel
theorem dX6_size_1 : decode cX6_size 1 = .ok (.getfield 18, 3) := by decide +kernel
theorem dX6_size_4 : decode cX6_size 4 = .ok (.ireturn, 1) := by decide +kernel
theorem dX6_isFull_0 : decode cX6_isFull 0 = .ok (.aload_n 0, 1) := by decide +kernel
theorem dX6_isFull_1 : decode cX6_isFull 1 = .ok (.getfield 18, 3) := by decide +kernel
theorem dX6_isFull_4 : decode cX6_isFull 4 = .ok (.bipush 8, 2) := by decide +kernel
theorem dX6_isFull_6 : decode cX6_isFull 6 = .ok (.if_icmp .lt 7, 3) := by decide +kernel
theorem dX6_isFull_9 : decode cX6_isFull 9 = .ok (.iconst 1, 1) := by decide +kernel
theorem dX6_isFull_10 : decode cX6_isFull 10 = .ok (.goto 4, 3) := by decide +kernel
theorem dX6_isFull_13 : decode cX6_isFull 13 = .ok (.iconst 0, 1) := by decide +kernel
theorem dX6_isFull_14 : decode cX6_isFull 14 = .ok (.ireturn, 1) := by decide +kernel
theorem dX6_clear_0 : decode cX6_clear 0 = .ok (.aload_n 0, 1) := by decide +kernel
theorem dX6_clear_1 : decode cX6_clear 1 = .ok (.iconst 0, 1) := by decide +kernel
theorem dX6_clear_2 : decode cX6_clear 2 = .ok (.putfield 18, 3) := by decide +kernel
theorem dX6_clear_5 : decode cX6_clear 5 = .ok (.return_, 1) := by decide +kernel
theorem dX6_add_0 : decode cX6_add 0 = .ok (.aload_n 0, 1) := by decide +kernel
theorem dX6_add_1 : decode cX6_add 1 = .ok (.getfield 18, 3) := by decide +kernel
theorem dX6_add_4 : decode cX6_add 4 = .ok (.ifCond .lt 42, 3) := by decide +kernel
theorem dX6_add_7 : decode cX6_add 7 = .ok (.aload_n 0, 1) := by decide +kernel
theorem dX6_add_8 : decode cX6_add 8 = .ok (.getfield 18, 3) := by decide +kernel
theorem dX6_add_11 : decode cX6_add 11 = .ok (.bipush 8, 2) := by decide +kernel
theorem dX6_add_13 : decode cX6_add 13 = .ok (.if_icmp .ge 33, 3) := by decide +kernel
theorem dX6_add_16 : decode cX6_add 16 = .ok (.aload_n 0, 1) := by decide +kernel
theorem dX6_add_17 : decode cX6_add 17 = .ok (.getfield 9, 3) := by decide +kernel
theorem dX6_add_20 : decode cX6_add 20 = .ok (.aload_n 0, 1) := by decide +kernel
theorem dX6_add_21 : decode cX6_add 21 = .ok (.getfield 18, 3) := by decide +kernel
theorem dX6_add_24 : decode cX6_add 24 = .ok (.iload_n 1, 1) := by decide +kernel
theorem dX6_add_25 : decode cX6_add 25 = .ok (.iastore, 1) := by decide +kernel
theorem dX6_add_26 : decode cX6_add 26 = .ok (.aload_n 0, 1) := by decide +kernel
theorem dX6_add_27 : decode cX6_add 27 = .ok (.getfield 15, 3) := by decide +kernel
theorem dX6_add_30 : decode cX6_add 30 = .ok (.aload_n 0, 1) := by decide +kernel
theorem dX6_add_31 : decode cX6_add 31 = .ok (.getfield 18, 3) := by decide +kernel
theorem dX6_add_34 : decode cX6_add 34 = .ok (.iload_n 2, 1) := by decide +kernel
theorem dX6_add_35 : decode cX6_add 35 = .ok (.iastore, 1) := by decide +kernel
theorem dX6_add_36 : decode cX6_add 36 = .ok (.aload_n 0, 1) := by decide +kernel
theorem dX6_add_37 : decode cX6_add 37 = .ok (.dup, 1) := by decide +kernel
theorem dX6_add_38 : decode cX6_add 38 = .ok (.getfield 18, 3) := by decide +kernel
theorem dX6_add_41 : decode cX6_add 41 = .ok (.iconst 1, 1) := by decide +kernel
theorem dX6_add_42 : decode cX6_add 42 = .ok (.iadd, 1) := by decide +kernel
theorem dX6_add_43 : decode cX6_add 43 = .ok (.putfield 18, 3) := by decide +kernel
theorem dX6_add_46 : decode cX6_add 46 = .ok (.return_, 1) := by decide +kernel
theorem dX6_agreeWith_0 : decode cX6_agreeWith 0 = .ok (.iconst 0, 1) := by decide +kernel
theorem dX6_agreeWith_1 : decode cX6_agreeWith 1 = .ok (.istore_n 2, 1) := by decide +kernel
theorem dX6_agreeWith_2 : decode cX6_agreeWith 2 = .ok (.iload_n 2, 1) := by decide +kernel
theorem dX6_agreeWith_3 : decode cX6_agreeWith 3 = .ok (.aload_n 0, 1) := by decide +kernel
theorem dX6_agreeWith_4 : decode cX6_agreeWith 4 = .ok (.getfield 18, 3) := by decide +kernel
theorem dX6_agreeWith_7 : decode cX6_agreeWith 7 = .ok (.if_icmp .ge 36, 3) := by decide +kernel
theorem dX6_agreeWith_10 : decode cX6_agreeWith 10 = .ok (.iload_n 2, 1) := by decide +kernel
theorem dX6_agreeWith_11 : decode cX6_agreeWith 11 = .ok (.bipush 8, 2) := by decide +kernel
theorem dX6_agreeWith_13 : decode cX6_agreeWith 13 = .ok (.if_icmp .ge 30, 3) := by decide +kernel
theorem dX6_agreeWith_16 : decode cX6_agreeWith 16 = .ok (.aload_n 1, 1) := by decide +kernel
theorem dX6_agreeWith_17 : decode cX6_agreeWith 17 = .ok (.aload_n 0, 1) := by decide +kernel
theorem dX6_agreeWith_18 : decode cX6_agreeWith 18 = .ok (.getfield 9, 3) := by decide +kernel
theorem dX6_agreeWith_21 : decode cX6_agreeWith 21 = .ok (.iload_n 2, 1) := by decide +kernel
theorem dX6_agreeWith_22 : decode cX6_agreeWith 22 = .ok (.iaload, 1) := by decide +kernel
theorem dX6_agreeWith_23 : decode cX6_agreeWith 23 = .ok (.invokevirtual 22, 3) := by decide +kernel
theorem dX6_agreeWith_26 : decode cX6_agreeWith 26 = .ok (.aload_n 0, 1) := by decide +kernel
theorem dX6_agreeWith_27 : decode cX6_agreeWith 27 = .ok (.getfield 15, 3) := by decide +kernel
theorem dX6_agreeWith_30 : decode cX6_agreeWith 30 = .ok (.iload_n 2, 1) := by decide +kernel
theorem dX6_agreeWith_31 : decode cX6_agreeWith 31 = .ok (.iaload, 1) := by decide +kernel
theorem dX6_agreeWith_32 : decode cX6_agreeWith 32 = .ok (.if_icmp .eq 5, 3) := by decide +kernel
theorem dX6_agreeWith_35 : decode cX6_agreeWith 35 = .ok (.iconst 0, 1) := by decide +kernel
theorem dX6_agreeWith_36 : decode cX6_agreeWith 36 = .ok (.ireturn, 1) := by decide +kernel
theorem dX6_agreeWith_37 : decode cX6_agreeWith 37 = .ok (.iinc 2 1, 3) := by decide +kernel
theorem dX6_agreeWith_40 : decode cX6_agreeWith 40 = .ok (.goto (-38), 3) := by decide +kernel
theorem dX6_agreeWith_43 : decode cX6_agreeWith 43 = .ok (.iconst 1, 1) := by decide +kernel
theorem dX6_agreeWith_44 : decode cX6_agreeWith 44 = .ok (.ireturn, 1) := by decide +kernel
theorem dX7_init_0 : decode cX7_init 0 = .ok (.aload_n 0, 1) := by decide +kernel
theorem dX7_init_1 : decode cX7_init 1 = .ok (.invokespecial 3, 3) := by decide +kernel
theorem dX7_init_4 : decode cX7_init 4 = .ok (.aload_n 0, 1) := by decide +kernel
theorem dX7_init_5 : decode cX7_init 5 = .ok (.sipush 984, 3) := by decide +kernel
theorem dX7_init_8 : decode cX7_init 8 = .ok (.newarray .int, 2) := by decide +kernel
theorem dX7_init_10 : decode cX7_init 10 = .ok (.putfield 11, 3) := by decide +kernel
theorem dX7_init_13 : decode cX7_init 13 = .ok (.aload_n 0, 1) := by decide +kernel
theorem dX7_init_14 : decode cX7_init 14 = .ok (.bipush 9, 2) := by decide +kernel
theorem dX7_init_16 : decode cX7_init 16 = .ok (.newarray .int, 2) := by decide +kernel
theorem dX7_init_18 : decode cX7_init 18 = .ok (.putfield 15, 3) := by decide +kernel
theorem dX7_init_21 : decode cX7_init 21 = .ok (.return_, 1) := by decide +kernel
theorem dX7_fewest_0 : decode cX7_fewest 0 = .ok (.aload_n 2, 1) := by decide +kernel
theorem dX7_fewest_1 : decode cX7_fewest 1 = .ok (.iload_n 3, 1) := by decide +kernel
theorem dX7_fewest_2 : decode cX7_fewest 2 = .ok (.invokevirtual 18, 3) := by decide +kernel
theorem dX7_fewest_5 : decode cX7_fewest 5 = .ok (.istore 5, 2) := by decide +kernel
theorem dX7_fewest_7 : decode cX7_fewest 7 = .ok (.aload_n 2, 1) := by decide +kernel
theorem dX7_fewest_8 : decode cX7_fewest 8 = .ok (.iload 4, 2) := by decide +kernel
theorem dX7_fewest_10 : decode cX7_fewest 10 = .ok (.invokevirtual 24, 3) := by decide +kernel
theorem dX7_fewest_13 : decode cX7_fewest 13 = .ok (.istore 6, 2) := by decide +kernel
theorem dX7_fewest_15 : decode cX7_fewest 15 = .ok (.aload_n 0, 1) := by decide +kernel
theorem dX7_fewest_16 : decode cX7_fewest 16 = .ok (.invokevirtual 27, 3) := by decide +kernel
theorem dX7_fewest_19 : decode cX7_fewest 19 = .ok (.iconst 1, 1) := by decide +kernel
theorem dX7_fewest_20 : decode cX7_fewest 20 = .ok (.istore 7, 2) := by decide +kernel
theorem dX7_fewest_22 : decode cX7_fewest 22 = .ok (.iload 7, 2) := by decide +kernel
theorem dX7_fewest_24 : decode cX7_fewest 24 = .ok (.aload_n 2, 1) := by decide +kernel
theorem dX7_fewest_25 : decode cX7_fewest 25 = .ok (.iload_n 3, 1) := by decide +kernel
theorem dX7_fewest_26 : decode cX7_fewest 26 = .ok (.invokevirtual 30, 3) := by decide +kernel
theorem dX7_fewest_29 : decode cX7_fewest 29 = .ok (.if_icmp .gt 34, 3) := by decide +kernel
theorem dX7_fewest_32 : decode cX7_fewest 32 = .ok (.aload_n 0, 1) := by decide +kernel
theorem dX7_fewest_33 : decode cX7_fewest 33 = .ok (.iload 5, 2) := by decide +kernel
theorem dX7_fewest_35 : decode cX7_fewest 35 = .ok (.iload 6, 2) := by decide +kernel
theorem dX7_fewest_37 : decode cX7_fewest 37 = .ok (.invokevirtual 33, 3) := by decide +kernel
theorem dX7_fewest_40 : decode cX7_fewest 40 = .ok (.bipush (-4), 2) := by decide +kernel
theorem dX7_fewest_42 : decode cX7_fewest 42 = .ok (.if_icmp .ne 21, 3) := by decide +kernel
theorem dX7_fewest_45 : decode cX7_fewest 45 = .ok (.aload_n 0, 1) := by decide +kernel
theorem dX7_fewest_46 : decode cX7_fewest 46 = .ok (.aload_n 1, 1) := by decide +kernel
theorem dX7_fewest_47 : decode cX7_fewest 47 = .ok (.iload_n 3, 1) := by decide +kernel
theorem dX7_fewest_48 : decode cX7_fewest 48 = .ok (.iload 4, 2) := by decide +kernel
theorem dX7_fewest_50 : decode cX7_fewest 50 = .ok (.iload 6, 2) := by decide +kernel
theorem dX7_fewest_52 : decode cX7_fewest 52 = .ok (.iload 7, 2) := by decide +kernel
theorem dX7_fewest_54 : decode cX7_fewest 54 = .ok (.invokevirtual 37, 3) := by decide +kernel
theorem dX7_fewest_57 : decode cX7_fewest 57 = .ok (.iinc 7 1, 3) := by decide +kernel
theorem dX7_fewest_60 : decode cX7_fewest 60 = .ok (.goto (-38), 3) := by decide +kernel
theorem dX7_fewest_63 : decode cX7_fewest 63 = .ok (.aload_n 0, 1) := by decide +kernel
theorem dX7_fewest_64 : decode cX7_fewest 64 = .ok (.aload_n 1, 1) := by decide +kernel
theorem dX7_fewest_65 : decode cX7_fewest 65 = .ok (.iload_n 3, 1) := by decide +kernel
theorem dX7_fewest_66 : decode cX7_fewest 66 = .ok (.iload 4, 2) := by decide +kernel
theorem dX7_fewest_68 : decode cX7_fewest 68 = .ok (.iload 5, 2) := by decide +kernel
theorem dX7_fewest_70 : decode cX7_fewest 70 = .ok (.iload 6, 2) := by decide +kernel
theorem dX7_fewest_72 : decode cX7_fewest 72 = .ok (.invokevirtual 41, 3) := by decide +kernel
theorem dX7_fewest_75 : decode cX7_fewest 75 = .ok (.aload_n 0, 1) := by decide +kernel
theorem dX7_fewest_76 : decode cX7_fewest 76 = .ok (.iload 5, 2) := by decide +kernel
theorem dX7_fewest_78 : decode cX7_fewest 78 = .ok (.iload 6, 2) := by decide +kernel
theorem dX7_fewest_80 : decode cX7_fewest 80 = .ok (.invokevirtual 33, 3) := by decide +kernel
theorem dX7_fewest_83 : decode cX7_fewest 83 = .ok (.ireturn, 1) := by decide +kernel
theorem dX7_cellOfStroke_0 : decode cX7_cellOfStroke 0 = .ok (.iload_n 1, 1) := by decide +kernel
theorem dX7_cellOfStroke_1 : decode cX7_cellOfStroke 1 = .ok (.ifCond .lt 21, 3) := by decide +kernel
theorem dX7_cellOfStroke_4 : decode cX7_cellOfStroke 4 = .ok (.iload_n 1, 1) := by decide +kernel
theorem dX7_cellOfStroke_5 : decode cX7_cellOfStroke 5 = .ok (.aload_n 0, 1) := by decide +kernel
theorem dX7_cellOfStroke_6 : decode cX7_cellOfStroke 6 = .ok (.getfield 15, 3) := by decide +kernel
theorem dX7_cellOfStroke_9 : decode cX7_cellOfStroke 9 = .ok (.arraylength, 1) := by decide +kernel
theorem dX7_cellOfStroke_10 : decode cX7_cellOfStroke 10 = .ok (.if_icmp .ge 12, 3) := by decide +kernel
theorem dX7_cellOfStroke_13 : decode cX7_cellOfStroke 13 = .ok (.aload_n 0, 1) := by decide +kernel
theorem dX7_cellOfStroke_14 : decode cX7_cellOfStroke 14 = .ok (.getfield 15, 3) := by decide +kernel
theorem dX7_cellOfStroke_17 : decode cX7_cellOfStroke 17 = .ok (.iload_n 1, 1) := by decide +kernel
theorem dX7_cellOfStroke_18 : decode cX7_cellOfStroke 18 = .ok (.iaload, 1) := by decide +kernel
theorem dX7_cellOfStroke_19 : decode cX7_cellOfStroke 19 = .ok (.goto 5, 3) := by decide +kernel
theorem dX7_cellOfStroke_22 : decode cX7_cellOfStroke 22 = .ok (.bipush (-4), 2) := by decide +kernel
theorem dX7_cellOfStroke_24 : decode cX7_cellOfStroke 24 = .ok (.ireturn, 1) := by decide +kernel
theorem dX7_fewestFrom_0 : decode cX7_fewestFrom 0 = .ok (.iload_n 1, 1) := by decide +kernel
theorem dX7_fewestFrom_1 : decode cX7_fewestFrom 1 = .ok (.bipush 41, 2) := by decide +kernel
theorem dX7_fewestFrom_3 : decode cX7_fewestFrom 3 = .ok (.imul, 1) := by decide +kernel
theorem dX7_fewestFrom_4 : decode cX7_fewestFrom 4 = .ok (.iload_n 2, 1) := by decide +kernel
theorem dX7_fewestFrom_5 : decode cX7_fewestFrom 5 = .ok (.iadd, 1) := by decide +kernel
theorem dX7_fewestFrom_6 : decode cX7_fewestFrom 6 = .ok (.istore_n 3, 1) := by decide +kernel
theorem dX7_fewestFrom_7 : decode cX7_fewestFrom 7 = .ok (.iload_n 3, 1) := by decide +kernel
theorem dX7_fewestFrom_8 : decode cX7_fewestFrom 8 = .ok (.ifCond .lt 21, 3) := by decide +kernel
theorem dX7_fewestFrom_11 : decode cX7_fewestFrom 11 = .ok (.iload_n 3, 1) := by decide +kernel
theorem dX7_fewestFrom_12 : decode cX7_fewestFrom 12 = .ok (.aload_n 0, 1) := by decide +kernel
theorem dX7_fewestFrom_13 : decode cX7_fewestFrom 13 = .ok (.getfield 11, 3) := by decide +kernel
theorem dX7_fewestFrom_16 : decode cX7_fewestFrom 16 = .ok (.arraylength, 1) := by decide +kernel
theorem dX7_fewestFrom_17 : decode cX7_fewestFrom 17 = .ok (.if_icmp .ge 12, 3) := by decide +kernel
theorem dX7_fewestFrom_20 : decode cX7_fewestFrom 20 = .ok (.aload_n 0, 1) := by decide +kernel
theorem dX7_fewestFrom_21 : decode cX7_fewestFrom 21 = .ok (.getfield 11, 3) := by decide +kernel
theorem dX7_fewestFrom_24 : decode cX7_fewestFrom 24 = .ok (.iload_n 3, 1) := by decide +kernel
theorem dX7_fewestFrom_25 : decode cX7_fewestFrom 25 = .ok (.iaload, 1) := by decide +kernel
theorem dX7_fewestFrom_26 : decode cX7_fewestFrom 26 = .ok (.goto 5, 3) := by decide +kernel
theorem dX7_fewestFrom_29 : decode cX7_fewestFrom 29 = .ok (.bipush (-4), 2) := by decide +kernel
theorem dX7_fewestFrom_31 : decode cX7_fewestFrom 31 = .ok (.ireturn, 1) := by decide +kernel
theorem dX7_markSmooth_0 : decode cX7_markSmooth 0 = .ok (.iconst 0, 1) := by decide +kernel
theorem dX7_markSmooth_1 : decode cX7_markSmooth 1 = .ok (.istore_n 1, 1) := by decide +kernel
theorem dX7_markSmooth_2 : decode cX7_markSmooth 2 = .ok (.iload_n 1, 1) := by decide +kernel
theorem dX7_markSmooth_3 : decode cX7_markSmooth 3 = .ok (.aload_n 0, 1) := by decide +kernel
theorem dX7_markSmooth_4 : decode cX7_markSmooth 4 = .ok (.getfield 11, 3) := by decide +kernel
theorem dX7_markSmooth_7 : decode cX7_markSmooth 7 = .ok (.arraylength, 1) := by decide +kernel
theorem dX7_markSmooth_8 : decode cX7_markSmooth 8 = .ok (.if_icmp .ge 28, 3) := by decide +kernel
theorem dX7_markSmooth_11 : decode cX7_markSmooth 11 = .ok (.aload_n 0, 1) := by decide +kernel
theorem dX7_markSmooth_12 : decode cX7_markSmooth 12 = .ok (.getfield 11, 3) := by decide +kernel
theorem dX7_markSmooth_15 : decode cX7_markSmooth 15 = .ok (.iload_n 1, 1) := by decide +kernel
theorem dX7_markSmooth_16 : decode cX7_markSmooth 16 = .ok (.iload_n 1, 1) := by decide +kernel
theorem dX7_markSmooth_17 : decode cX7_markSmooth 17 = .ok (.bipush 41, 2) := by decide +kernel
theorem dX7_markSmooth_19 : decode cX7_markSmooth 19 = .ok (.irem, 1) := by decide +kernel
theorem dX7_markSmooth_20 : decode cX7_markSmooth 20 = .ok (.ifCond .ne 7, 3) := by decide +kernel
theorem dX7_markSmooth_23 : decode cX7_markSmooth 23 = .ok (.iconst 0, 1) := by decide +kernel
theorem dX7_markSmooth_24 : decode cX7_markSmooth 24 = .ok (.goto 5, 3) := by decide +kernel
theorem dX7_markSmooth_27 : decode cX7_markSmooth 27 = .ok (.bipush (-4), 2) := by decide +kernel
theorem dX7_markSmooth_29 : decode cX7_markSmooth 29 = .ok (.iastore, 1) := by decide +kernel
theorem dX7_markSmooth_30 : decode cX7_markSmooth 30 = .ok (.iinc 1 1, 3) := by decide +kernel
theorem dX7_markSmooth_33 : decode cX7_markSmooth 33 = .ok (.goto (-31), 3) := by decide +kernel
theorem dX7_markSmooth_36 : decode cX7_markSmooth 36 = .ok (.return_, 1) := by decide +kernel
theorem dX7_findStrokes_0 : decode cX7_findStrokes 0 = .ok (.iconst 0, 1) := by decide +kernel
theorem dX7_findStrokes_1 : decode cX7_findStrokes 1 = .ok (.istore 6, 2) := by decide +kernel
theorem dX7_findStrokes_3 : decode cX7_findStrokes 3 = .ok (.iload 6, 2) := by decide +kernel
theorem dX7_findStrokes_5 : decode cX7_findStrokes 5 = .ok (.aload_n 1, 1) := by decide +kernel
theorem dX7_findStrokes_6 : decode cX7_findStrokes 6 = .ok (.invokevirtual 44, 3) := by decide +kernel
theorem dX7_findStrokes_9 : decode cX7_findStrokes 9 = .ok (.if_icmp .ge 83, 3) := by decide +kernel
theorem dX7_findStrokes_12 : decode cX7_findStrokes 12 = .ok (.iconst 1, 1) := by decide +kernel
theorem dX7_findStrokes_13 : decode cX7_findStrokes 13 = .ok (.istore 7, 2) := by decide +kernel
theorem dX7_findStrokes_15 : decode cX7_findStrokes 15 = .ok (.iload 7, 2) := by decide +kernel
theorem dX7_findStrokes_17 : decode cX7_findStrokes 17 = .ok (.iload 4, 2) := by decide +kernel
theorem dX7_findStrokes_19 : decode cX7_findStrokes 19 = .ok (.if_icmp .gt 67, 3) := by decide +kernel
theorem dX7_findStrokes_22 : decode cX7_findStrokes 22 = .ok (.iload 6, 2) := by decide +kernel
theorem dX7_findStrokes_24 : decode cX7_findStrokes 24 = .ok (.bipush 41, 2) := by decide +kernel
theorem dX7_findStrokes_26 : decode cX7_findStrokes 26 = .ok (.imul, 1) := by decide +kernel
theorem dX7_findStrokes_27 : decode cX7_findStrokes 27 = .ok (.iload 7, 2) := by decide +kernel
theorem dX7_findStrokes_29 : decode cX7_findStrokes 29 = .ok (.iadd, 1) := by decide +kernel
theorem dX7_findStrokes_30 : decode cX7_findStrokes 30 = .ok (.istore 8, 2) := by decide +kernel
theorem dX7_findStrokes_32 : decode cX7_findStrokes 32 = .ok (.iload 8, 2) := by decide +kernel
theorem dX7_findStrokes_34 : decode cX7_findStrokes 34 = .ok (.aload_n 0, 1) := by decide +kernel
theorem dX7_findStrokes_35 : decode cX7_findStrokes 35 = .ok (.getfield 11, 3) := by decide +kernel
theorem dX7_findStrokes_38 : decode cX7_findStrokes 38 = .ok (.arraylength, 1) := by decide +kernel
theorem dX7_findStrokes_39 : decode cX7_findStrokes 39 = .ok (.if_icmp .ge 41, 3) := by decide +kernel
theorem dX7_findStrokes_42 : decode cX7_findStrokes 42 = .ok (.aload_n 0, 1) := by decide +kernel
theorem dX7_findStrokes_43 : decode cX7_findStrokes 43 = .ok (.getfield 11, 3) := by decide +kernel
theorem dX7_findStrokes_46 : decode cX7_findStrokes 46 = .ok (.iload 8, 2) := by decide +kernel
theorem dX7_findStrokes_48 : decode cX7_findStrokes 48 = .ok (.iaload, 1) := by decide +kernel
theorem dX7_findStrokes_49 : decode cX7_findStrokes 49 = .ok (.bipush (-4), 2) := by decide +kernel
theorem dX7_findStrokes_51 : decode cX7_findStrokes 51 = .ok (.if_icmp .ne 29, 3) := by decide +kernel
theorem dX7_findStrokes_54 : decode cX7_findStrokes 54 = .ok (.aload_n 0, 1) := by decide +kernel
theorem dX7_findStrokes_55 : decode cX7_findStrokes 55 = .ok (.aload_n 1, 1) := by decide +kernel
theorem dX7_findStrokes_56 : decode cX7_findStrokes 56 = .ok (.iload_n 2, 1) := by decide +kernel
theorem dX7_findStrokes_57 : decode cX7_findStrokes 57 = .ok (.iload_n 3, 1) := by decide +kernel
theorem dX7_findStrokes_58 : decode cX7_findStrokes 58 = .ok (.iload 6, 2) := by decide +kernel
theorem dX7_findStrokes_60 : decode cX7_findStrokes 60 = .ok (.iload 7, 2) := by decide +kernel
theorem dX7_findStrokes_62 : decode cX7_findStrokes 62 = .ok (.iload 5, 2) := by decide +kernel
theorem dX7_findStrokes_64 : decode cX7_findStrokes 64 = .ok (.invokevirtual 50, 3) := by decide +kernel
theorem dX7_findStrokes_67 : decode cX7_findStrokes 67 = .ok (.iconst (-1), 1) := by decide +kernel
theorem dX7_findStrokes_68 : decode cX7_findStrokes 68 = .ok (.if_icmp .eq 12, 3) := by decide +kernel
theorem dX7_findStrokes_71 : decode cX7_findStrokes 71 = .ok (.aload_n 0, 1) := by decide +kernel
theorem dX7_findStrokes_72 : decode cX7_findStrokes 72 = .ok (.getfield 11, 3) := by decide +kernel
theorem dX7_findStrokes_75 : decode cX7_findStrokes 75 = .ok (.iload 8, 2) := by decide +kernel
theorem dX7_findStrokes_77 : decode cX7_findStrokes 77 = .ok (.iload 5, 2) := by decide +kernel
theorem dX7_findStrokes_79 : decode cX7_findStrokes 79 = .ok (.iastore, 1) := by decide +kernel
theorem dX7_findStrokes_80 : decode cX7_findStrokes 80 = .ok (.iinc 7 1, 3) := by decide +kernel
theorem dX7_findStrokes_83 : decode cX7_findStrokes 83 = .ok (.goto (-68), 3) := by decide +kernel
theorem dX7_findStrokes_86 : decode cX7_findStrokes 86 = .ok (.iinc 6 1, 3) := by decide +kernel
theorem dX7_findStrokes_89 : decode cX7_findStrokes 89 = .ok (.goto (-86), 3) := by decide +kernel
theorem dX7_findStrokes_92 : decode cX7_findStrokes 92 = .ok (.return_, 1) := by decide +kernel
theorem dX7_firstStroke_0 : decode cX7_firstStroke 0 = .ok (.iconst 0, 1) := by decide +kernel
theorem dX7_firstStroke_1 : decode cX7_firstStroke 1 = .ok (.istore 7, 2) := by decide +kernel
theorem dX7_firstStroke_3 : decode cX7_firstStroke 3 = .ok (.iload 7, 2) := by decide +kernel
theorem dX7_firstStroke_5 : decode cX7_firstStroke 5 = .ok (.iconst 5, 1) := by decide +kernel
theorem dX7_firstStroke_6 : decode cX7_firstStroke 6 = .ok (.if_icmp .ge 51, 3) := by decide +kernel
theorem dX7_firstStroke_9 : decode cX7_firstStroke 9 = .ok (.aload_n 1, 1) := by decide +kernel
theorem dX7_firstStroke_10 : decode cX7_firstStroke 10 = .ok (.iload 4, 2) := by decide +kernel
theorem dX7_firstStroke_12 : decode cX7_firstStroke 12 = .ok (.iload 7, 2) := by decide +kernel
theorem dX7_firstStroke_14 : decode cX7_firstStroke 14 = .ok (.invokevirtual 54, 3) := by decide +kernel
theorem dX7_firstStroke_17 : decode cX7_firstStroke 17 = .ok (.istore 8, 2) := by decide +kernel
theorem dX7_firstStroke_19 : decode cX7_firstStroke 19 = .ok (.iload 8, 2) := by decide +kernel
theorem dX7_firstStroke_21 : decode cX7_firstStroke 21 = .ok (.iconst (-1), 1) := by decide +kernel
theorem dX7_firstStroke_22 : decode cX7_firstStroke 22 = .ok (.if_icmp .eq 29, 3) := by decide +kernel
theorem dX7_firstStroke_25 : decode cX7_firstStroke 25 = .ok (.aload_n 0, 1) := by decide +kernel
theorem dX7_firstStroke_26 : decode cX7_firstStroke 26 = .ok (.iload 8, 2) := by decide +kernel
theorem dX7_firstStroke_28 : decode cX7_firstStroke 28 = .ok (.aload_n 1, 1) := by decide +kernel
theorem dX7_firstStroke_29 : decode cX7_firstStroke 29 = .ok (.iload_n 2, 1) := by decide +kernel
theorem dX7_firstStroke_30 : decode cX7_firstStroke 30 = .ok (.iload_n 3, 1) := by decide +kernel
theorem dX7_firstStroke_31 : decode cX7_firstStroke 31 = .ok (.iload 5, 2) := by decide +kernel
theorem dX7_firstStroke_33 : decode cX7_firstStroke 33 = .ok (.iload 8, 2) := by decide +kernel
theorem dX7_firstStroke_35 : decode cX7_firstStroke 35 = .ok (.invokestatic 57, 3) := by decide +kernel
theorem dX7_firstStroke_38 : decode cX7_firstStroke 38 = .ok (.invokevirtual 33, 3) := by decide +kernel
theorem dX7_firstStroke_41 : decode cX7_firstStroke 41 = .ok (.iload 6, 2) := by decide +kernel
theorem dX7_firstStroke_43 : decode cX7_firstStroke 43 = .ok (.iconst 1, 1) := by decide +kernel
theorem dX7_firstStroke_44 : decode cX7_firstStroke 44 = .ok (.isub, 1) := by decide +kernel
theorem dX7_firstStroke_45 : decode cX7_firstStroke 45 = .ok (.if_icmp .ne 6, 3) := by decide +kernel
theorem dX7_firstStroke_48 : decode cX7_firstStroke 48 = .ok (.iload 8, 2) := by decide +kernel
theorem dX7_firstStroke_50 : decode cX7_firstStroke 50 = .ok (.ireturn, 1) := by decide +kernel
theorem dX7_firstStroke_51 : decode cX7_firstStroke 51 = .ok (.iinc 7 1, 3) := by decide +kernel
theorem dX7_firstStroke_54 : decode cX7_firstStroke 54 = .ok (.goto (-51), 3) := by decide +kernel
theorem dX7_firstStroke_57 : decode cX7_firstStroke 57 = .ok (.iconst (-1), 1) := by decide +kernel
theorem dX7_firstStroke_58 : decode cX7_firstStroke 58 = .ok (.ireturn, 1) := by decide +kernel
theorem dX7_lowered_0 : decode cX7_lowered 0 = .ok (.iload 4, 2) := by decide +kernel
theorem dX7_lowered_2 : decode cX7_lowered 2 = .ok (.iload_n 2, 1) := by decide +kernel
theorem dX7_lowered_3 : decode cX7_lowered 3 = .ok (.if_icmp .ne 16, 3) := by decide +kernel
theorem dX7_lowered_6 : decode cX7_lowered 6 = .ok (.iconst 0, 1) := by decide +kernel
theorem dX7_lowered_7 : decode cX7_lowered 7 = .ok (.iload_n 3, 1) := by decide +kernel
theorem dX7_lowered_8 : decode cX7_lowered 8 = .ok (.aload_n 0, 1) := by decide +kernel
theorem dX7_lowered_9 : decode cX7_lowered 9 = .ok (.iload_n 1, 1) := by decide +kernel
theorem dX7_lowered_10 : decode cX7_lowered 10 = .ok (.iload_n 3, 1) := by decide +kernel
theorem dX7_lowered_11 : decode cX7_lowered 11 = .ok (.invokevirtual 61, 3) := by decide +kernel
theorem dX7_lowered_14 : decode cX7_lowered 14 = .ok (.isub, 1) := by decide +kernel
theorem dX7_lowered_15 : decode cX7_lowered 15 = .ok (.invokestatic 64, 3) := by decide +kernel
theorem dX7_lowered_18 : decode cX7_lowered 18 = .ok (.ireturn, 1) := by decide +kernel
theorem dX7_lowered_19 : decode cX7_lowered 19 = .ok (.aload_n 0, 1) := by decide +kernel
theorem dX7_lowered_20 : decode cX7_lowered 20 = .ok (.iload 4, 2) := by decide +kernel
theorem dX7_lowered_22 : decode cX7_lowered 22 = .ok (.invokevirtual 69, 3) := by decide +kernel
theorem dX7_lowered_25 : decode cX7_lowered 25 = .ok (.iload_n 2, 1) := by decide +kernel
theorem dX7_lowered_26 : decode cX7_lowered 26 = .ok (.if_icmp .ne 17, 3) := by decide +kernel
theorem dX7_lowered_29 : decode cX7_lowered 29 = .ok (.iconst 0, 1) := by decide +kernel
theorem dX7_lowered_30 : decode cX7_lowered 30 = .ok (.iload_n 3, 1) := by decide +kernel
theorem dX7_lowered_31 : decode cX7_lowered 31 = .ok (.aload_n 0, 1) := by decide +kernel
theorem dX7_lowered_32 : decode cX7_lowered 32 = .ok (.iload_n 1, 1) := by decide +kernel
theorem dX7_lowered_33 : decode cX7_lowered 33 = .ok (.invokevirtual 72, 3) := by decide +kernel
theorem dX7_lowered_36 : decode cX7_lowered 36 = .ok (.isub, 1) := by decide +kernel
theorem dX7_lowered_37 : decode cX7_lowered 37 = .ok (.invokestatic 64, 3) := by decide +kernel
theorem dX7_lowered_40 : decode cX7_lowered 40 = .ok (.goto 4, 3) := by decide +kernel
theorem dX7_lowered_43 : decode cX7_lowered 43 = .ok (.iload_n 3, 1) := by decide +kernel
theorem dX7_lowered_44 : decode cX7_lowered 44 = .ok (.ireturn, 1) := by decide +kernel
theorem dX7_tellRow_0 : decode cX7_tellRow 0 = .ok (.iload 4, 2) := by decide +kernel
theorem dX7_tellRow_2 : decode cX7_tellRow 2 = .ok (.istore 6, 2) := by decide +kernel
theorem dX7_tellRow_4 : decode cX7_tellRow 4 = .ok (.iload 5, 2) := by decide +kernel
theorem dX7_tellRow_6 : decode cX7_tellRow 6 = .ok (.istore 7, 2) := by decide +kernel
theorem dX7_tellRow_8 : decode cX7_tellRow 8 = .ok (.aload_n 0, 1) := by decide +kernel
theorem dX7_tellRow_9 : decode cX7_tellRow 9 = .ok (.iload 4, 2) := by decide +kernel
theorem dX7_tellRow_11 : decode cX7_tellRow 11 = .ok (.iload 5, 2) := by decide +kernel
theorem dX7_tellRow_13 : decode cX7_tellRow 13 = .ok (.invokevirtual 33, 3) := by decide +kernel
theorem dX7_tellRow_16 : decode cX7_tellRow 16 = .ok (.istore 8, 2) := by decide +kernel
theorem dX7_tellRow_18 : decode cX7_tellRow 18 = .ok (.iconst 0, 1) := by decide +kernel
theorem dX7_tellRow_19 : decode cX7_tellRow 19 = .ok (.istore 9, 2) := by decide +kernel
theorem dX7_tellRow_21 : decode cX7_tellRow 21 = .ok (.iload 9, 2) := by decide +kernel
theorem dX7_tellRow_23 : decode cX7_tellRow 23 = .ok (.iload 8, 2) := by decide +kernel
theorem dX7_tellRow_25 : decode cX7_tellRow 25 = .ok (.if_icmp .ge 68, 3) := by decide +kernel
theorem dX7_tellRow_28 : decode cX7_tellRow 28 = .ok (.iload 9, 2) := by decide +kernel
theorem dX7_tellRow_30 : decode cX7_tellRow 30 = .ok (.aload_n 0, 1) := by decide +kernel
theorem dX7_tellRow_31 : decode cX7_tellRow 31 = .ok (.getfield 15, 3) := by decide +kernel
theorem dX7_tellRow_34 : decode cX7_tellRow 34 = .ok (.arraylength, 1) := by decide +kernel
theorem dX7_tellRow_35 : decode cX7_tellRow 35 = .ok (.if_icmp .ge 58, 3) := by decide +kernel
theorem dX7_tellRow_38 : decode cX7_tellRow 38 = .ok (.aload_n 0, 1) := by decide +kernel
theorem dX7_tellRow_39 : decode cX7_tellRow 39 = .ok (.getfield 15, 3) := by decide +kernel
theorem dX7_tellRow_42 : decode cX7_tellRow 42 = .ok (.iload 9, 2) := by decide +kernel
theorem dX7_tellRow_44 : decode cX7_tellRow 44 = .ok (.aload_n 0, 1) := by decide +kernel
theorem dX7_tellRow_45 : decode cX7_tellRow 45 = .ok (.aload_n 1, 1) := by decide +kernel
theorem dX7_tellRow_46 : decode cX7_tellRow 46 = .ok (.iload_n 2, 1) := by decide +kernel
theorem dX7_tellRow_47 : decode cX7_tellRow 47 = .ok (.iload_n 3, 1) := by decide +kernel
theorem dX7_tellRow_48 : decode cX7_tellRow 48 = .ok (.iload 6, 2) := by decide +kernel
theorem dX7_tellRow_50 : decode cX7_tellRow 50 = .ok (.iload 7, 2) := by decide +kernel
theorem dX7_tellRow_52 : decode cX7_tellRow 52 = .ok (.iload 8, 2) := by decide +kernel
theorem dX7_tellRow_54 : decode cX7_tellRow 54 = .ok (.iload 9, 2) := by decide +kernel
theorem dX7_tellRow_56 : decode cX7_tellRow 56 = .ok (.isub, 1) := by decide +kernel
theorem dX7_tellRow_57 : decode cX7_tellRow 57 = .ok (.invokevirtual 50, 3) := by decide +kernel
theorem dX7_tellRow_60 : decode cX7_tellRow 60 = .ok (.iastore, 1) := by decide +kernel
theorem dX7_tellRow_61 : decode cX7_tellRow 61 = .ok (.aload_n 1, 1) := by decide +kernel
theorem dX7_tellRow_62 : decode cX7_tellRow 62 = .ok (.iload_n 2, 1) := by decide +kernel
theorem dX7_tellRow_63 : decode cX7_tellRow 63 = .ok (.iload_n 3, 1) := by decide +kernel
theorem dX7_tellRow_64 : decode cX7_tellRow 64 = .ok (.iload 7, 2) := by decide +kernel
theorem dX7_tellRow_66 : decode cX7_tellRow 66 = .ok (.aload_n 0, 1) := by decide +kernel
theorem dX7_tellRow_67 : decode cX7_tellRow 67 = .ok (.getfield 15, 3) := by decide +kernel
theorem dX7_tellRow_70 : decode cX7_tellRow 70 = .ok (.iload 9, 2) := by decide +kernel
theorem dX7_tellRow_72 : decode cX7_tellRow 72 = .ok (.iaload, 1) := by decide +kernel
theorem dX7_tellRow_73 : decode cX7_tellRow 73 = .ok (.invokestatic 57, 3) := by decide +kernel
theorem dX7_tellRow_76 : decode cX7_tellRow 76 = .ok (.istore 7, 2) := by decide +kernel
theorem dX7_tellRow_78 : decode cX7_tellRow 78 = .ok (.aload_n 0, 1) := by decide +kernel
theorem dX7_tellRow_79 : decode cX7_tellRow 79 = .ok (.getfield 15, 3) := by decide +kernel
theorem dX7_tellRow_82 : decode cX7_tellRow 82 = .ok (.iload 9, 2) := by decide +kernel
theorem dX7_tellRow_84 : decode cX7_tellRow 84 = .ok (.iaload, 1) := by decide +kernel
theorem dX7_tellRow_85 : decode cX7_tellRow 85 = .ok (.istore 6, 2) := by decide +kernel
theorem dX7_tellRow_87 : decode cX7_tellRow 87 = .ok (.iinc 9 1, 3) := by decide +kernel
theorem dX7_tellRow_90 : decode cX7_tellRow 90 = .ok (.goto (-69), 3) := by decide +kernel
theorem dX7_tellRow_93 : decode cX7_tellRow 93 = .ok (.return_, 1) := by decide +kernel
theorem dX8_init_0 : decode cX8_init 0 = .ok (.aload_n 0, 1) := by decide +kernel
theorem dX8_init_1 : decode cX8_init 1 = .ok (.invokespecial 3, 3) := by decide +kernel
theorem dX8_init_4 : decode cX8_init 4 = .ok (.aload_n 0, 1) := by decide +kernel
theorem dX8_init_5 : decode cX8_init 5 = .ok (.bipush 24, 2) := by decide +kernel
theorem dX8_init_7 : decode cX8_init 7 = .ok (.newarray .int, 2) := by decide +kernel
theorem dX8_init_9 : decode cX8_init 9 = .ok (.putfield 9, 3) := by decide +kernel
theorem dX8_init_12 : decode cX8_init 12 = .ok (.aload_n 0, 1) := by decide +kernel
theorem dX8_init_13 : decode cX8_init 13 = .ok (.iconst 3, 1) := by decide +kernel
theorem dX8_init_14 : decode cX8_init 14 = .ok (.newarray .int, 2) := by decide +kernel
theorem dX8_init_16 : decode cX8_init 16 = .ok (.putfield 15, 3) := by decide +kernel
theorem dX8_init_19 : decode cX8_init 19 = .ok (.aload_n 0, 1) := by decide +kernel
theorem dX8_init_20 : decode cX8_init 20 = .ok (.iconst 3, 1) := by decide +kernel
theorem dX8_init_21 : decode cX8_init 21 = .ok (.newarray .int, 2) := by decide +kernel
theorem dX8_init_23 : decode cX8_init 23 = .ok (.putfield 18, 3) := by decide +kernel
theorem dX8_init_26 : decode cX8_init 26 = .ok (.aload_n 0, 1) := by decide +kernel
theorem dX8_init_27 : decode cX8_init 27 = .ok (.iconst 0, 1) := by decide +kernel
theorem dX8_init_28 : decode cX8_init 28 = .ok (.putfield 21, 3) := by decide +kernel
theorem dX8_init_31 : decode cX8_init 31 = .ok (.aload_n 0, 1) := by decide +kernel
theorem dX8_init_32 : decode cX8_init 32 = .ok (.iconst 0, 1) := by decide +kernel
theorem dX8_init_33 : decode cX8_init 33 = .ok (.putfield 25, 3) := by decide +kernel
theorem dX8_init_36 : decode cX8_init 36 = .ok (.return_, 1) := by decide +kernel
theorem dX8_clear_0 : decode cX8_clear 0 = .ok (.aload_n 0, 1) := by decide +kernel
theorem dX8_clear_1 : decode cX8_clear 1 = .ok (.getfield 9, 3) := by decide +kernel
theorem dX8_clear_4 : decode cX8_clear 4 = .ok (.iconst 0, 1) := by decide +kernel
theorem dX8_clear_5 : decode cX8_clear 5 = .ok (.invokestatic 28, 3) := by decide +kernel
theorem dX8_clear_8 : decode cX8_clear 8 = .ok (.aload_n 0, 1) := by decide +kernel
theorem dX8_clear_9 : decode cX8_clear 9 = .ok (.getfield 15, 3) := by decide +kernel
theorem dX8_clear_12 : decode cX8_clear 12 = .ok (.iconst 0, 1) := by decide +kernel
theorem dX8_clear_13 : decode cX8_clear 13 = .ok (.invokestatic 28, 3) := by decide +kernel
theorem dX8_clear_16 : decode cX8_clear 16 = .ok (.aload_n 0, 1) := by decide +kernel
theorem dX8_clear_17 : decode cX8_clear 17 = .ok (.getfield 18, 3) := by decide +kernel
theorem dX8_clear_20 : decode cX8_clear 20 = .ok (.iconst 0, 1) := by decide +kernel
theorem dX8_clear_21 : decode cX8_clear 21 = .ok (.invokestatic 28, 3) := by decide +kernel
theorem dX8_clear_24 : decode cX8_clear 24 = .ok (.aload_n 0, 1) := by decide +kernel
theorem dX8_clear_25 : decode cX8_clear 25 = .ok (.iconst 0, 1) := by decide +kernel
theorem dX8_clear_26 : decode cX8_clear 26 = .ok (.putfield 21, 3) := by decide +kernel
theorem dX8_clear_29 : decode cX8_clear 29 = .ok (.aload_n 0, 1) := by decide +kernel
theorem dX8_clear_30 : decode cX8_clear 30 = .ok (.iconst 0, 1) := by decide +kernel
theorem dX8_clear_31 : decode cX8_clear 31 = .ok (.putfield 25, 3) := by decide +kernel
theorem dX8_clear_34 : decode cX8_clear 34 = .ok (.return_, 1) := by decide +kernel
theorem dX8_copyFrom_0 : decode cX8_copyFrom 0 = .ok (.aload_n 1, 1) := by decide +kernel
theorem dX8_copyFrom_1 : decode cX8_copyFrom 1 = .ok (.getfield 9, 3) := by decide +kernel
theorem dX8_copyFrom_4 : decode cX8_copyFrom 4 = .ok (.iconst 0, 1) := by decide +kernel
theorem dX8_copyFrom_5 : decode cX8_copyFrom 5 = .ok (.aload_n 0, 1) := by decide +kernel
theorem dX8_copyFrom_6 : decode cX8_copyFrom 6 = .ok (.getfield 9, 3) := by decide +kernel
theorem dX8_copyFrom_9 : decode cX8_copyFrom 9 = .ok (.iconst 0, 1) := by decide +kernel
theorem dX8_copyFrom_10 : decode cX8_copyFrom 10 = .ok (.bipush 24, 2) := by decide +kernel
theorem dX8_copyFrom_12 : decode cX8_copyFrom 12 = .ok (.invokestatic 34, 3) := by decide +kernel
theorem dX8_copyFrom_15 : decode cX8_copyFrom 15 = .ok (.aload_n 1, 1) := by decide +kernel
theorem dX8_copyFrom_16 : decode cX8_copyFrom 16 = .ok (.getfield 15, 3) := by decide +kernel
theorem dX8_copyFrom_19 : decode cX8_copyFrom 19 = .ok (.iconst 0, 1) := by decide +kernel
theorem dX8_copyFrom_20 : decode cX8_copyFrom 20 = .ok (.aload_n 0, 1) := by decide +kernel
theorem dX8_copyFrom_21 : decode cX8_copyFrom 21 = .ok (.getfield 15, 3) := by decide +kernel
theorem dX8_copyFrom_24 : decode cX8_copyFrom 24 = .ok (.iconst 0, 1) := by decide +kernel
theorem dX8_copyFrom_25 : decode cX8_copyFrom 25 = .ok (.iconst 3, 1) := by decide +kernel
theorem dX8_copyFrom_26 : decode cX8_copyFrom 26 = .ok (.invokestatic 34, 3) := by decide +kernel
theorem dX8_copyFrom_29 : decode cX8_copyFrom 29 = .ok (.aload_n 1, 1) := by decide +kernel
theorem dX8_copyFrom_30 : decode cX8_copyFrom 30 = .ok (.getfield 18, 3) := by decide +kernel
theorem dX8_copyFrom_33 : decode cX8_copyFrom 33 = .ok (.iconst 0, 1) := by decide +kernel
theorem dX8_copyFrom_34 : decode cX8_copyFrom 34 = .ok (.aload_n 0, 1) := by decide +kernel
theorem dX8_copyFrom_35 : decode cX8_copyFrom 35 = .ok (.getfield 18, 3) := by decide +kernel
theorem dX8_copyFrom_38 : decode cX8_copyFrom 38 = .ok (.iconst 0, 1) := by decide +kernel
theorem dX8_copyFrom_39 : decode cX8_copyFrom 39 = .ok (.iconst 3, 1) := by decide +kernel
theorem dX8_copyFrom_40 : decode cX8_copyFrom 40 = .ok (.invokestatic 34, 3) := by decide +kernel
theorem dX8_copyFrom_43 : decode cX8_copyFrom 43 = .ok (.aload_n 0, 1) := by decide +kernel
theorem dX8_copyFrom_44 : decode cX8_copyFrom 44 = .ok (.aload_n 1, 1) := by decide +kernel
theorem dX8_copyFrom_45 : decode cX8_copyFrom 45 = .ok (.getfield 21, 3) := by decide +kernel
theorem dX8_copyFrom_48 : decode cX8_copyFrom 48 = .ok (.putfield 21, 3) := by decide +kernel
theorem dX8_copyFrom_51 : decode cX8_copyFrom 51 = .ok (.aload_n 0, 1) := by decide +kernel
theorem dX8_copyFrom_52 : decode cX8_copyFrom 52 = .ok (.aload_n 1, 1) := by decide +kernel
theorem dX8_copyFrom_53 : decode cX8_copyFrom 53 = .ok (.getfield 25, 3) := by decide +kernel
theorem dX8_copyFrom_56 : decode cX8_copyFrom 56 = .ok (.putfield 25, 3) := by decide +kernel
theorem dX8_copyFrom_59 : decode cX8_copyFrom 59 = .ok (.return_, 1) := by decide +kernel
theorem dX8_highAt_0 : decode cX8_highAt 0 = .ok (.iload_n 1, 1) := by decide +kernel
theorem dX8_highAt_1 : decode cX8_highAt 1 = .ok (.ifCond .lt 21, 3) := by decide +kernel
theorem dX8_highAt_4 : decode cX8_highAt 4 = .ok (.iload_n 1, 1) := by decide +kernel
theorem dX8_highAt_5 : decode cX8_highAt 5 = .ok (.aload_n 0, 1) := by decide +kernel
theorem dX8_highAt_6 : decode cX8_highAt 6 = .ok (.getfield 9, 3) := by decide +kernel
theorem dX8_highAt_9 : decode cX8_highAt 9 = .ok (.arraylength, 1) := by decide +kernel
theorem dX8_highAt_10 : decode cX8_highAt 10 = .ok (.if_icmp .ge 12, 3) := by decide +kernel
theorem dX8_highAt_13 : decode cX8_highAt 13 = .ok (.aload_n 0, 1) := by decide +kernel
theorem dX8_highAt_14 : decode cX8_highAt 14 = .ok (.getfield 9, 3) := by decide +kernel
theorem dX8_highAt_17 : decode cX8_highAt 17 = .ok (.iload_n 1, 1) := by decide +kernel
theorem dX8_highAt_18 : decode cX8_highAt 18 = .ok (.iaload, 1) := by decide +kernel
theorem dX8_highAt_19 : decode cX8_highAt 19 = .ok (.goto 4, 3) := by decide +kernel
theorem dX8_highAt_22 : decode cX8_highAt 22 = .ok (.iconst 0, 1) := by decide +kernel
theorem dX8_highAt_23 : decode cX8_highAt 23 = .ok (.ireturn, 1) := by decide +kernel
theorem dX8_setHigh_0 : decode cX8_setHigh 0 = .ok (.iload_n 1, 1) := by decide +kernel
theorem dX8_setHigh_1 : decode cX8_setHigh 1 = .ok (.ifCond .lt 28, 3) := by decide +kernel
theorem dX8_setHigh_4 : decode cX8_setHigh 4 = .ok (.iload_n 1, 1) := by decide +kernel
theorem dX8_setHigh_5 : decode cX8_setHigh 5 = .ok (.aload_n 0, 1) := by decide +kernel
theorem dX8_setHigh_6 : decode cX8_setHigh 6 = .ok (.getfield 9, 3) := by decide +kernel
theorem dX8_setHigh_9 : decode cX8_setHigh 9 = .ok (.arraylength, 1) := by decide +kernel
theorem dX8_setHigh_10 : decode cX8_setHigh 10 = .ok (.if_icmp .ge 19, 3) := by decide +kernel
theorem dX8_setHigh_13 : decode cX8_setHigh 13 = .ok (.aload_n 0, 1) := by decide +kernel
theorem dX8_setHigh_14 : decode cX8_setHigh 14 = .ok (.getfield 9, 3) := by decide +kernel
theorem dX8_setHigh_17 : decode cX8_setHigh 17 = .ok (.iload_n 1, 1) := by decide +kernel
theorem dX8_setHigh_18 : decode cX8_setHigh 18 = .ok (.iconst 0, 1) := by decide +kernel
theorem dX8_setHigh_19 : decode cX8_setHigh 19 = .ok (.iload_n 2, 1) := by decide +kernel
theorem dX8_setHigh_20 : decode cX8_setHigh 20 = .ok (.bipush 40, 2) := by decide +kernel
theorem dX8_setHigh_22 : decode cX8_setHigh 22 = .ok (.invokestatic 40, 3) := by decide +kernel
theorem dX8_setHigh_25 : decode cX8_setHigh 25 = .ok (.invokestatic 46, 3) := by decide +kernel
theorem dX8_setHigh_28 : decode cX8_setHigh 28 = .ok (.iastore, 1) := by decide +kernel
theorem dX8_setHigh_29 : decode cX8_setHigh 29 = .ok (.return_, 1) := by decide +kernel
theorem dX8_raise_0 : decode cX8_raise 0 = .ok (.aload_n 0, 1) := by decide +kernel
theorem dX8_raise_1 : decode cX8_raise 1 = .ok (.iload_n 1, 1) := by decide +kernel
theorem dX8_raise_2 : decode cX8_raise 2 = .ok (.aload_n 0, 1) := by decide +kernel
theorem dX8_raise_3 : decode cX8_raise 3 = .ok (.iload_n 1, 1) := by decide +kernel
theorem dX8_raise_4 : decode cX8_raise 4 = .ok (.invokevirtual 49, 3) := by decide +kernel
theorem dX8_raise_7 : decode cX8_raise 7 = .ok (.iload_n 2, 1) := by decide +kernel
theorem dX8_raise_8 : decode cX8_raise 8 = .ok (.iadd, 1) := by decide +kernel
theorem dX8_raise_9 : decode cX8_raise 9 = .ok (.invokevirtual 53, 3) := by decide +kernel
theorem dX8_raise_12 : decode cX8_raise 12 = .ok (.return_, 1) := by decide +kernel
theorem dX8_lower_0 : decode cX8_lower 0 = .ok (.aload_n 0, 1) := by decide +kernel
theorem dX8_lower_1 : decode cX8_lower 1 = .ok (.iload_n 1, 1) := by decide +kernel
theorem dX8_lower_2 : decode cX8_lower 2 = .ok (.aload_n 0, 1) := by decide +kernel
theorem dX8_lower_3 : decode cX8_lower 3 = .ok (.iload_n 1, 1) := by decide +kernel
theorem dX8_lower_4 : decode cX8_lower 4 = .ok (.invokevirtual 49, 3) := by decide +kernel
theorem dX8_lower_7 : decode cX8_lower 7 = .ok (.iload_n 2, 1) := by decide +kernel
theorem dX8_lower_8 : decode cX8_lower 8 = .ok (.isub, 1) := by decide +kernel
theorem dX8_lower_9 : decode cX8_lower 9 = .ok (.invokevirtual 53, 3) := by decide +kernel
theorem dX8_lower_12 : decode cX8_lower 12 = .ok (.return_, 1) := by decide +kernel
theorem dX8_sum_0 : decode cX8_sum 0 = .ok (.iconst 0, 1) := by decide +kernel
theorem dX8_sum_1 : decode cX8_sum 1 = .ok (.istore_n 1, 1) := by decide +kernel
theorem dX8_sum_2 : decode cX8_sum 2 = .ok (.iconst 0, 1) := by decide +kernel
theorem dX8_sum_3 : decode cX8_sum 3 = .ok (.istore_n 2, 1) := by decide +kernel
theorem dX8_sum_4 : decode cX8_sum 4 = .ok (.iload_n 2, 1) := by decide +kernel
theorem dX8_sum_5 : decode cX8_sum 5 = .ok (.aload_n 0, 1) := by decide +kernel
theorem dX8_sum_6 : decode cX8_sum 6 = .ok (.getfield 9, 3) := by decide +kernel
theorem dX8_sum_9 : decode cX8_sum 9 = .ok (.arraylength, 1) := by decide +kernel
theorem dX8_sum_10 : decode cX8_sum 10 = .ok (.if_icmp .ge 18, 3) := by decide +kernel
theorem dX8_sum_13 : decode cX8_sum 13 = .ok (.iload_n 1, 1) := by decide +kernel
theorem dX8_sum_14 : decode cX8_sum 14 = .ok (.aload_n 0, 1) := by decide +kernel
theorem dX8_sum_15 : decode cX8_sum 15 = .ok (.getfield 9, 3) := by decide +kernel
theorem dX8_sum_18 : decode cX8_sum 18 = .ok (.iload_n 2, 1) := by decide +kernel
theorem dX8_sum_19 : decode cX8_sum 19 = .ok (.iaload, 1) := by decide +kernel
theorem dX8_sum_20 : decode cX8_sum 20 = .ok (.iadd, 1) := by decide +kernel
theorem dX8_sum_21 : decode cX8_sum 21 = .ok (.istore_n 1, 1) := by decide +kernel
theorem dX8_sum_22 : decode cX8_sum 22 = .ok (.iinc 2 1, 3) := by decide +kernel
theorem dX8_sum_25 : decode cX8_sum 25 = .ok (.goto (-21), 3) := by decide +kernel
theorem dX8_sum_28 : decode cX8_sum 28 = .ok (.iload_n 1, 1) := by decide +kernel
theorem dX8_sum_29 : decode cX8_sum 29 = .ok (.ireturn, 1) := by decide +kernel
theorem dX8_hollowCells_0 : decode cX8_hollowCells 0 = .ok (.iconst 0, 1) := by decide +kernel
theorem dX8_hollowCells_1 : decode cX8_hollowCells 1 = .ok (.istore_n 1, 1) := by decide +kernel
theorem dX8_hollowCells_2 : decode cX8_hollowCells 2 = .ok (.iconst 0, 1) := by decide +kernel
theorem dX8_hollowCells_3 : decode cX8_hollowCells 3 = .ok (.istore_n 2, 1) := by decide +kernel
theorem dX8_hollowCells_4 : decode cX8_hollowCells 4 = .ok (.iload_n 2, 1) := by decide +kernel
theorem dX8_hollowCells_5 : decode cX8_hollowCells 5 = .ok (.aload_n 0, 1) := by decide +kernel
theorem dX8_hollowCells_6 : decode cX8_hollowCells 6 = .ok (.getfield 9, 3) := by decide +kernel
theorem dX8_hollowCells_9 : decode cX8_hollowCells 9 = .ok (.arraylength, 1) := by decide +kernel
theorem dX8_hollowCells_10 : decode cX8_hollowCells 10 = .ok (.if_icmp .ge 29, 3) := by decide +kernel
theorem dX8_hollowCells_13 : decode cX8_hollowCells 13 = .ok (.iload_n 1, 1) := by decide +kernel
theorem dX8_hollowCells_14 : decode cX8_hollowCells 14 = .ok (.aload_n 0, 1) := by decide +kernel
theorem dX8_hollowCells_15 : decode cX8_hollowCells 15 = .ok (.getfield 9, 3) := by decide +kernel
theorem dX8_hollowCells_18 : decode cX8_hollowCells 18 = .ok (.iload_n 2, 1) := by decide +kernel
theorem dX8_hollowCells_19 : decode cX8_hollowCells 19 = .ok (.iaload, 1) := by decide +kernel
theorem dX8_hollowCells_20 : decode cX8_hollowCells 20 = .ok (.invokestatic 57, 3) := by decide +kernel
theorem dX8_hollowCells_23 : decode cX8_hollowCells 23 = .ok (.ifCond .eq 7, 3) := by decide +kernel
theorem dX8_hollowCells_26 : decode cX8_hollowCells 26 = .ok (.iconst 1, 1) := by decide +kernel
theorem dX8_hollowCells_27 : decode cX8_hollowCells 27 = .ok (.goto 4, 3) := by decide +kernel
theorem dX8_hollowCells_30 : decode cX8_hollowCells 30 = .ok (.iconst 0, 1) := by decide +kernel
theorem dX8_hollowCells_31 : decode cX8_hollowCells 31 = .ok (.iadd, 1) := by decide +kernel
theorem dX8_hollowCells_32 : decode cX8_hollowCells 32 = .ok (.istore_n 1, 1) := by decide +kernel
theorem dX8_hollowCells_33 : decode cX8_hollowCells 33 = .ok (.iinc 2 1, 3) := by decide +kernel
theorem dX8_hollowCells_36 : decode cX8_hollowCells 36 = .ok (.goto (-32), 3) := by decide +kernel
theorem dX8_hollowCells_39 : decode cX8_hollowCells 39 = .ok (.iload_n 1, 1) := by decide +kernel
theorem dX8_hollowCells_40 : decode cX8_hollowCells 40 = .ok (.ireturn, 1) := by decide +kernel
theorem dX8_leftTo_0 : decode cX8_leftTo 0 = .ok (.iload_n 1, 1) := by decide +kernel
theorem dX8_leftTo_1 : decode cX8_leftTo 1 = .ok (.ifCond .lt 21, 3) := by decide +kernel
theorem dX8_leftTo_4 : decode cX8_leftTo 4 = .ok (.iload_n 1, 1) := by decide +kernel
theorem dX8_leftTo_5 : decode cX8_leftTo 5 = .ok (.aload_n 0, 1) := by decide +kernel
theorem dX8_leftTo_6 : decode cX8_leftTo 6 = .ok (.getfield 15, 3) := by decide +kernel
theorem dX8_leftTo_9 : decode cX8_leftTo 9 = .ok (.arraylength, 1) := by decide +kernel
theorem dX8_leftTo_10 : decode cX8_leftTo 10 = .ok (.if_icmp .ge 12, 3) := by decide +kernel
theorem dX8_leftTo_13 : decode cX8_leftTo 13 = .ok (.aload_n 0, 1) := by decide +kernel
theorem dX8_leftTo_14 : decode cX8_leftTo 14 = .ok (.getfield 15, 3) := by decide +kernel
theorem dX8_leftTo_17 : decode cX8_leftTo 17 = .ok (.iload_n 1, 1) := by decide +kernel
theorem dX8_leftTo_18 : decode cX8_leftTo 18 = .ok (.iaload, 1) := by decide +kernel
theorem dX8_leftTo_19 : decode cX8_leftTo 19 = .ok (.goto 4, 3) := by decide +kernel
theorem dX8_leftTo_22 : decode cX8_leftTo 22 = .ok (.iconst 0, 1) := by decide +kernel
theorem dX8_leftTo_23 : decode cX8_leftTo 23 = .ok (.ireturn, 1) := by decide +kernel
theorem dX8_setLeft_0 : decode cX8_setLeft 0 = .ok (.iload_n 1, 1) := by decide +kernel
theorem dX8_setLeft_1 : decode cX8_setLeft 1 = .ok (.ifCond .lt 19, 3) := by decide +kernel
theorem dX8_setLeft_4 : decode cX8_setLeft 4 = .ok (.iload_n 1, 1) := by decide +kernel
theorem dX8_setLeft_5 : decode cX8_setLeft 5 = .ok (.aload_n 0, 1) := by decide +kernel
theorem dX8_setLeft_6 : decode cX8_setLeft 6 = .ok (.getfield 15, 3) := by decide +kernel
theorem dX8_setLeft_9 : decode cX8_setLeft 9 = .ok (.arraylength, 1) := by decide +kernel
theorem dX8_setLeft_10 : decode cX8_setLeft 10 = .ok (.if_icmp .ge 10, 3) := by decide +kernel
theorem dX8_setLeft_13 : decode cX8_setLeft 13 = .ok (.aload_n 0, 1) := by decide +kernel
theorem dX8_setLeft_14 : decode cX8_setLeft 14 = .ok (.getfield 15, 3) := by decide +kernel
theorem dX8_setLeft_17 : decode cX8_setLeft 17 = .ok (.iload_n 1, 1) := by decide +kernel
theorem dX8_setLeft_18 : decode cX8_setLeft 18 = .ok (.iload_n 2, 1) := by decide +kernel
theorem dX8_setLeft_19 : decode cX8_setLeft 19 = .ok (.iastore, 1) := by decide +kernel
theorem dX8_setLeft_20 : decode cX8_setLeft 20 = .ok (.return_, 1) := by decide +kernel
theorem dX8_leftToAll_0 : decode cX8_leftToAll 0 = .ok (.iconst 0, 1) := by decide +kernel
theorem dX8_leftToAll_1 : decode cX8_leftToAll 1 = .ok (.istore_n 1, 1) := by decide +kernel
theorem dX8_leftToAll_2 : decode cX8_leftToAll 2 = .ok (.iconst 0, 1) := by decide +kernel
theorem dX8_leftToAll_3 : decode cX8_leftToAll 3 = .ok (.istore_n 2, 1) := by decide +kernel
theorem dX8_leftToAll_4 : decode cX8_leftToAll 4 = .ok (.iload_n 2, 1) := by decide +kernel
theorem dX8_leftToAll_5 : decode cX8_leftToAll 5 = .ok (.aload_n 0, 1) := by decide +kernel
theorem dX8_leftToAll_6 : decode cX8_leftToAll 6 = .ok (.getfield 15, 3) := by decide +kernel
theorem dX8_leftToAll_9 : decode cX8_leftToAll 9 = .ok (.arraylength, 1) := by decide +kernel
theorem dX8_leftToAll_10 : decode cX8_leftToAll 10 = .ok (.if_icmp .ge 18, 3) := by decide +kernel
theorem dX8_leftToAll_13 : decode cX8_leftToAll 13 = .ok (.iload_n 1, 1) := by decide +kernel
theorem dX8_leftToAll_14 : decode cX8_leftToAll 14 = .ok (.aload_n 0, 1) := by decide +kernel
theorem dX8_leftToAll_15 : decode cX8_leftToAll 15 = .ok (.getfield 15, 3) := by decide +kernel
theorem dX8_leftToAll_18 : decode cX8_leftToAll 18 = .ok (.iload_n 2, 1) := by decide +kernel
theorem dX8_leftToAll_19 : decode cX8_leftToAll 19 = .ok (.iaload, 1) := by decide +kernel
theorem dX8_leftToAll_20 : decode cX8_leftToAll 20 = .ok (.iadd, 1) := by decide +kernel
theorem dX8_leftToAll_21 : decode cX8_leftToAll 21 = .ok (.istore_n 1, 1) := by decide +kernel
theorem dX8_leftToAll_22 : decode cX8_leftToAll 22 = .ok (.iinc 2 1, 3) := by decide +kernel
theorem dX8_leftToAll_25 : decode cX8_leftToAll 25 = .ok (.goto (-21), 3) := by decide +kernel
theorem dX8_leftToAll_28 : decode cX8_leftToAll 28 = .ok (.iload_n 1, 1) := by decide +kernel
theorem dX8_leftToAll_29 : decode cX8_leftToAll 29 = .ok (.ireturn, 1) := by decide +kernel
theorem dX8_placeOf_0 : decode cX8_placeOf 0 = .ok (.iload_n 1, 1) := by decide +kernel
theorem dX8_placeOf_1 : decode cX8_placeOf 1 = .ok (.ifCond .lt 21, 3) := by decide +kernel
theorem dX8_placeOf_4 : decode cX8_placeOf 4 = .ok (.iload_n 1, 1) := by decide +kernel
theorem dX8_placeOf_5 : decode cX8_placeOf 5 = .ok (.aload_n 0, 1) := by decide +kernel
theorem dX8_placeOf_6 : decode cX8_placeOf 6 = .ok (.getfield 18, 3) := by decide +kernel
theorem dX8_placeOf_9 : decode cX8_placeOf 9 = .ok (.arraylength, 1) := by decide +kernel
theorem dX8_placeOf_10 : decode cX8_placeOf 10 = .ok (.if_icmp .ge 12, 3) := by decide +kernel
theorem dX8_placeOf_13 : decode cX8_placeOf 13 = .ok (.aload_n 0, 1) := by decide +kernel
theorem dX8_placeOf_14 : decode cX8_placeOf 14 = .ok (.getfield 18, 3) := by decide +kernel
theorem dX8_placeOf_17 : decode cX8_placeOf 17 = .ok (.iload_n 1, 1) := by decide +kernel
theorem dX8_placeOf_18 : decode cX8_placeOf 18 = .ok (.iaload, 1) := by decide +kernel
theorem dX8_placeOf_19 : decode cX8_placeOf 19 = .ok (.goto 4, 3) := by decide +kernel
theorem dX8_placeOf_22 : decode cX8_placeOf 22 = .ok (.iconst (-1), 1) := by decide +kernel
theorem dX8_placeOf_23 : decode cX8_placeOf 23 = .ok (.ireturn, 1) := by decide +kernel
theorem dX8_setPlace_0 : decode cX8_setPlace 0 = .ok (.iload_n 1, 1) := by decide +kernel
theorem dX8_setPlace_1 : decode cX8_setPlace 1 = .ok (.ifCond .lt 19, 3) := by decide +kernel
theorem dX8_setPlace_4 : decode cX8_setPlace 4 = .ok (.iload_n 1, 1) := by decide +kernel
theorem dX8_setPlace_5 : decode cX8_setPlace 5 = .ok (.aload_n 0, 1) := by decide +kernel
theorem dX8_setPlace_6 : decode cX8_setPlace 6 = .ok (.getfield 18, 3) := by decide +kernel
theorem dX8_setPlace_9 : decode cX8_setPlace 9 = .ok (.arraylength, 1) := by decide +kernel
theorem dX8_setPlace_10 : decode cX8_setPlace 10 = .ok (.if_icmp .ge 10, 3) := by decide +kernel
theorem dX8_setPlace_13 : decode cX8_setPlace 13 = .ok (.aload_n 0, 1) := by decide +kernel
theorem dX8_setPlace_14 : decode cX8_setPlace 14 = .ok (.getfield 18, 3) := by decide +kernel
theorem dX8_setPlace_17 : decode cX8_setPlace 17 = .ok (.iload_n 1, 1) := by decide +kernel
theorem dX8_setPlace_18 : decode cX8_setPlace 18 = .ok (.iload_n 2, 1) := by decide +kernel
theorem dX8_setPlace_19 : decode cX8_setPlace 19 = .ok (.iastore, 1) := by decide +kernel
theorem dX8_setPlace_20 : decode cX8_setPlace 20 = .ok (.return_, 1) := by decide +kernel
theorem dX8_isPardoned_0 : decode cX8_isPardoned 0 = .ok (.aload_n 0, 1) := by decide +kernel
theorem dX8_isPardoned_1 : decode cX8_isPardoned 1 = .ok (.getfield 21, 3) := by decide +kernel
theorem dX8_isPardoned_4 : decode cX8_isPardoned 4 = .ok (.iload_n 1, 1) := by decide +kernel
theorem dX8_isPardoned_5 : decode cX8_isPardoned 5 = .ok (.ishr, 1) := by decide +kernel
theorem dX8_isPardoned_6 : decode cX8_isPardoned 6 = .ok (.iconst 1, 1) := by decide +kernel
theorem dX8_isPardoned_7 : decode cX8_isPardoned 7 = .ok (.iand, 1) := by decide +kernel
theorem dX8_isPardoned_8 : decode cX8_isPardoned 8 = .ok (.iconst 1, 1) := by decide +kernel
theorem dX8_isPardoned_9 : decode cX8_isPardoned 9 = .ok (.if_icmp .ne 7, 3) := by decide +kernel
theorem dX8_isPardoned_12 : decode cX8_isPardoned 12 = .ok (.iconst 1, 1) := by decide +kernel
theorem dX8_isPardoned_13 : decode cX8_isPardoned 13 = .ok (.goto 4, 3) := by decide +kernel
theorem dX8_isPardoned_16 : decode cX8_isPardoned 16 = .ok (.iconst 0, 1) := by decide +kernel
theorem dX8_isPardoned_17 : decode cX8_isPardoned 17 = .ok (.ireturn, 1) := by decide +kernel
theorem dX8_letOff_0 : decode cX8_letOff 0 = .ok (.aload_n 0, 1) := by decide +kernel
theorem dX8_letOff_1 : decode cX8_letOff 1 = .ok (.dup, 1) := by decide +kernel
theorem dX8_letOff_2 : decode cX8_letOff 2 = .ok (.getfield 21, 3) := by decide +kernel
theorem dX8_letOff_5 : decode cX8_letOff 5 = .ok (.iconst 1, 1) := by decide +kernel
theorem dX8_letOff_6 : decode cX8_letOff 6 = .ok (.iload_n 1, 1) := by decide +kernel
theorem dX8_letOff_7 : decode cX8_letOff 7 = .ok (.ishl, 1) := by decide +kernel
theorem dX8_letOff_8 : decode cX8_letOff 8 = .ok (.ior, 1) := by decide +kernel
theorem dX8_letOff_9 : decode cX8_letOff 9 = .ok (.putfield 21, 3) := by decide +kernel
theorem dX8_letOff_12 : decode cX8_letOff 12 = .ok (.return_, 1) := by decide +kernel
theorem dX8_pardonedCases_0 : decode cX8_pardonedCases 0 = .ok (.aload_n 0, 1) := by decide +kernel
theorem dX8_pardonedCases_1 : decode cX8_pardonedCases 1 = .ok (.getfield 21, 3) := by decide +kernel
theorem dX8_pardonedCases_4 : decode cX8_pardonedCases 4 = .ok (.invokestatic 61, 3) := by decide +kernel
theorem dX8_pardonedCases_7 : decode cX8_pardonedCases 7 = .ok (.ireturn, 1) := by decide +kernel
theorem dX8_yearIs_0 : decode cX8_yearIs 0 = .ok (.aload_n 0, 1) := by decide +kernel
theorem dX8_yearIs_1 : decode cX8_yearIs 1 = .ok (.getfield 25, 3) := by decide +kernel
theorem dX8_yearIs_4 : decode cX8_yearIs 4 = .ok (.ireturn, 1) := by decide +kernel
theorem dX8_nextYear_0 : decode cX8_nextYear 0 = .ok (.aload_n 0, 1) := by decide +kernel
theorem dX8_nextYear_1 : decode cX8_nextYear 1 = .ok (.dup, 1) := by decide +kernel
theorem dX8_nextYear_2 : decode cX8_nextYear 2 = .ok (.getfield 25, 3) := by decide +kernel
theorem dX8_nextYear_5 : decode cX8_nextYear 5 = .ok (.iconst 1, 1) := by decide +kernel
theorem dX8_nextYear_6 : decode cX8_nextYear 6 = .ok (.iadd, 1) := by decide +kernel
theorem dX8_nextYear_7 : decode cX8_nextYear 7 = .ok (.putfield 25, 3) := by decide +kernel
theorem dX8_nextYear_10 : decode cX8_nextYear 10 = .ok (.return_, 1) := by decide +kernel
theorem dJ6_bitCount_0f7a4_0 : decode cJ6_bitCount_0f7a4 0 = .ok (.iload_n 0, 1) := by decide +kernel
theorem dJ6_bitCount_0f7a4_1 : decode cJ6_bitCount_0f7a4 1 = .ok (.iload_n 0, 1) := by decide +kernel
theorem dJ6_bitCount_0f7a4_2 : decode cJ6_bitCount_0f7a4 2 = .ok (.iconst 1, 1) := by decide +kernel
theorem dJ6_bitCount_0f7a4_3 : decode cJ6_bitCount_0f7a4 3 = .ok (.iushr, 1) := by decide +kernel
theorem dJ6_bitCount_0f7a4_4 : decode cJ6_bitCount_0f7a4 4 = .ok (.ldc_w 265, 3) := by decide +kernel
theorem dJ6_bitCount_0f7a4_7 : decode cJ6_bitCount_0f7a4 7 = .ok (.iand, 1) := by decide +kernel
theorem dJ6_bitCount_0f7a4_8 : decode cJ6_bitCount_0f7a4 8 = .ok (.isub, 1) := by decide +kernel
theorem dJ6_bitCount_0f7a4_9 : decode cJ6_bitCount_0f7a4 9 = .ok (.istore_n 0, 1) := by decide +kernel
theorem dJ6_bitCount_0f7a4_10 : decode cJ6_bitCount_0f7a4 10 = .ok (.iload_n 0, 1) := by decide +kernel
theorem dJ6_bitCount_0f7a4_11 : decode cJ6_bitCount_0f7a4 11 = .ok (.ldc_w 266, 3) := by decide +kernel
theorem dJ6_bitCount_0f7a4_14 : decode cJ6_bitCount_0f7a4 14 = .ok (.iand, 1) := by decide +kernel
theorem dJ6_bitCount_0f7a4_15 : decode cJ6_bitCount_0f7a4 15 = .ok (.iload_n 0, 1) := by decide +kernel
theorem dJ6_bitCount_0f7a4_16 : decode cJ6_bitCount_0f7a4 16 = .ok (.iconst 2, 1) := by decide +kernel
theorem dJ6_bitCount_0f7a4_17 : decode cJ6_bitCount_0f7a4 17 = .ok (.iushr, 1) := by decide +kernel
theorem dJ6_bitCount_0f7a4_18 : decode cJ6_bitCount_0f7a4 18 = .ok (.ldc_w 266, 3) := by decide +kernel
theorem dJ6_bitCount_0f7a4_21 : decode cJ6_bitCount_0f7a4 21 = .ok (.iand, 1) := by decide +kernel
theorem dJ6_bitCount_0f7a4_22 : decode cJ6_bitCount_0f7a4 22 = .ok (.iadd, 1) := by decide +kernel
theorem dJ6_bitCount_0f7a4_23 : decode cJ6_bitCount_0f7a4 23 = .ok (.istore_n 0, 1) := by decide +kernel
theorem dJ6_bitCount_0f7a4_24 : decode cJ6_bitCount_0f7a4 24 = .ok (.iload_n 0, 1) := by decide +kernel
theorem dJ6_bitCount_0f7a4_25 : decode cJ6_bitCount_0f7a4 25 = .ok (.iload_n 0, 1) := by decide +kernel
theorem dJ6_bitCount_0f7a4_26 : decode cJ6_bitCount_0f7a4 26 = .ok (.iconst 4, 1) := by decide +kernel
theorem dJ6_bitCount_0f7a4_27 : decode cJ6_bitCount_0f7a4 27 = .ok (.iushr, 1) := by decide +kernel
theorem dJ6_bitCount_0f7a4_28 : decode cJ6_bitCount_0f7a4 28 = .ok (.iadd, 1) := by decide +kernel
theorem dJ6_bitCount_0f7a4_29 : decode cJ6_bitCount_0f7a4 29 = .ok (.ldc_w 267, 3) := by decide +kernel
theorem dJ6_bitCount_0f7a4_32 : decode cJ6_bitCount_0f7a4 32 = .ok (.iand, 1) := by decide +kernel
theorem dJ6_bitCount_0f7a4_33 : decode cJ6_bitCount_0f7a4 33 = .ok (.istore_n 0, 1) := by decide +kernel
theorem dJ6_bitCount_0f7a4_34 : decode cJ6_bitCount_0f7a4 34 = .ok (.iload_n 0, 1) := by decide +kernel
theorem dJ6_bitCount_0f7a4_35 : decode cJ6_bitCount_0f7a4 35 = .ok (.iload_n 0, 1) := by decide +kernel
theorem dJ6_bitCount_0f7a4_36 : decode cJ6_bitCount_0f7a4 36 = .ok (.bipush 8, 2) := by decide +kernel
theorem dJ6_bitCount_0f7a4_38 : decode cJ6_bitCount_0f7a4 38 = .ok (.iushr, 1) := by decide +kernel
theorem dJ6_bitCount_0f7a4_39 : decode cJ6_bitCount_0f7a4 39 = .ok (.iadd, 1) := by decide +kernel
theorem dJ6_bitCount_0f7a4_40 : decode cJ6_bitCount_0f7a4 40 = .ok (.istore_n 0, 1) := by decide +kernel
theorem dJ6_bitCount_0f7a4_41 : decode cJ6_bitCount_0f7a4 41 = .ok (.iload_n 0, 1) := by decide +kernel
theorem dJ6_bitCount_0f7a4_42 : decode cJ6_bitCount_0f7a4 42 = .ok (.iload_n 0, 1) := by decide +kernel
theorem dJ6_bitCount_0f7a4_43 : decode cJ6_bitCount_0f7a4 43 = .ok (.bipush 16, 2) := by decide +kernel
theorem dJ6_bitCount_0f7a4_45 : decode cJ6_bitCount_0f7a4 45 = .ok (.iushr, 1) := by decide +kernel
theorem dJ6_bitCount_0f7a4_46 : decode cJ6_bitCount_0f7a4 46 = .ok (.iadd, 1) := by decide +kernel
theorem dJ6_bitCount_0f7a4_47 : decode cJ6_bitCount_0f7a4 47 = .ok (.istore_n 0, 1) := by decide +kernel
theorem dJ6_bitCount_0f7a4_48 : decode cJ6_bitCount_0f7a4 48 = .ok (.iload_n 0, 1) := by decide +kernel
theorem dJ6_bitCount_0f7a4_49 : decode cJ6_bitCount_0f7a4 49 = .ok (.bipush 63, 2) := by decide +kernel
theorem dJ6_bitCount_0f7a4_51 : decode cJ6_bitCount_0f7a4 51 = .ok (.iand, 1) := by decide +kernel
theorem dJ6_bitCount_0f7a4_52 : decode cJ6_bitCount_0f7a4 52 = .ok (.ireturn, 1) := by decide +kernel
theorem dJ9_max_7cf53_0 : decode cJ9_max_7cf53 0 = .ok (.iload_n 0, 1) := by decide +kernel
theorem dJ9_max_7cf53_1 : decode cJ9_max_7cf53 1 = .ok (.iload_n 1, 1) := by decide +kernel
theorem dJ9_max_7cf53_2 : decode cJ9_max_7cf53 2 = .ok (.if_icmp .lt 7, 3) := by decide +kernel
theorem dJ9_max_7cf53_5 : decode cJ9_max_7cf53 5 = .ok (.iload_n 0, 1) := by decide +kernel
theorem dJ9_max_7cf53_6 : decode cJ9_max_7cf53 6 = .ok (.goto 4, 3) := by decide +kernel
theorem dJ9_max_7cf53_9 : decode cJ9_max_7cf53 9 = .ok (.iload_n 1, 1) := by decide +kernel
theorem dJ9_max_7cf53_10 : decode cJ9_max_7cf53 10 = .ok (.ireturn, 1) := by decide +kernel
theorem dJ9_min_7cf53_0 : decode cJ9_min_7cf53 0 = .ok (.iload_n 0, 1) := by decide +kernel
theorem dJ9_min_7cf53_1 : decode cJ9_min_7cf53 1 = .ok (.iload_n 1, 1) := by decide +kernel
theorem dJ9_min_7cf53_2 : decode cJ9_min_7cf53 2 = .ok (.if_icmp .gt 7, 3) := by decide +kernel
theorem dJ9_min_7cf53_5 : decode cJ9_min_7cf53 5 = .ok (.iload_n 0, 1) := by decide +kernel
theorem dJ9_min_7cf53_6 : decode cJ9_min_7cf53 6 = .ok (.goto 4, 3) := by decide +kernel
theorem dJ9_min_7cf53_9 : decode cJ9_min_7cf53 9 = .ok (.iload_n 1, 1) := by decide +kernel
theorem dJ9_min_7cf53_10 : decode cJ9_min_7cf53 10 = .ok (.ireturn, 1) := by decide +kernel
theorem dJ0_length_8abf5_0 : decode cJ0_length_8abf5 0 = .ok (.aload_n 0, 1) := by decide +kernel
theorem dJ0_length_8abf5_1 : decode cJ0_length_8abf5 1 = .ok (.getfield 9, 3) := by decide +kernel
theorem dJ0_length_8abf5_4 : decode cJ0_length_8abf5 4 = .ok (.arraylength, 1) := by decide +kernel
theorem dJ0_length_8abf5_5 : decode cJ0_length_8abf5 5 = .ok (.aload_n 0, 1) := by decide +kernel
theorem dJ0_length_8abf5_6 : decode cJ0_length_8abf5 6 = .ok (.invokevirtual 335, 3) := by decide +kernel
theorem dJ0_length_8abf5_9 : decode cJ0_length_8abf5 9 = .ok (.ishr, 1) := by decide +kernel
theorem dJ0_length_8abf5_10 : decode cJ0_length_8abf5 10 = .ok (.ireturn, 1) := by decide +kernel
theorem dJ0_charAt_5068e_0 : decode cJ0_charAt_5068e 0 = .ok (.aload_n 0, 1) := by decide +kernel
theorem dJ0_charAt_5068e_1 : decode cJ0_charAt_5068e 1 = .ok (.invokevirtual 492, 3) := by decide +kernel
theorem dJ0_charAt_5068e_4 : decode cJ0_charAt_5068e 4 = .ok (.ifCond .eq 12, 3) := by decide +kernel
theorem dJ0_charAt_5068e_7 : decode cJ0_charAt_5068e 7 = .ok (.aload_n 0, 1) := by decide +kernel
theorem dJ0_charAt_5068e_8 : decode cJ0_charAt_5068e 8 = .ok (.getfield 9, 3) := by decide +kernel
theorem dJ0_charAt_5068e_11 : decode cJ0_charAt_5068e 11 = .ok (.iload_n 1, 1) := by decide +kernel
theorem dJ0_charAt_5068e_12 : decode cJ0_charAt_5068e 12 = .ok (.invokestatic 495, 3) := by decide +kernel
theorem dJ0_charAt_5068e_15 : decode cJ0_charAt_5068e 15 = .ok (.ireturn, 1) := by decide +kernel
theorem dJ0_charAt_5068e_16 : decode cJ0_charAt_5068e 16 = .ok (.aload_n 0, 1) := by decide +kernel
theorem dJ0_charAt_5068e_17 : decode cJ0_charAt_5068e 17 = .ok (.getfield 9, 3) := by decide +kernel
theorem dJ0_charAt_5068e_20 : decode cJ0_charAt_5068e 20 = .ok (.iload_n 1, 1) := by decide +kernel
theorem dJ0_charAt_5068e_21 : decode cJ0_charAt_5068e 21 = .ok (.invokestatic 498, 3) := by decide +kernel
theorem dJ0_charAt_5068e_24 : decode cJ0_charAt_5068e 24 = .ok (.ireturn, 1) := by decide +kernel
theorem dJ0_coder_7d493_0 : decode cJ0_coder_7d493 0 = .ok (.getstatic 38, 3) := by decide +kernel
theorem dJ0_coder_7d493_3 : decode cJ0_coder_7d493 3 = .ok (.ifCond .eq 10, 3) := by decide +kernel
theorem dJ0_coder_7d493_6 : decode cJ0_coder_7d493 6 = .ok (.aload_n 0, 1) := by decide +kernel
theorem dJ0_coder_7d493_7 : decode cJ0_coder_7d493 7 = .ok (.getfield 15, 3) := by decide +kernel
theorem dJ0_coder_7d493_10 : decode cJ0_coder_7d493 10 = .ok (.goto 4, 3) := by decide +kernel
theorem dJ0_coder_7d493_13 : decode cJ0_coder_7d493 13 = .ok (.iconst 1, 1) := by decide +kernel
theorem dJ0_coder_7d493_14 : decode cJ0_coder_7d493 14 = .ok (.ireturn, 1) := by decide +kernel
theorem dJ0_isLatin1_aae02_0 : decode cJ0_isLatin1_aae02 0 = .ok (.getstatic 38, 3) := by decide +kernel
theorem dJ0_isLatin1_aae02_3 : decode cJ0_isLatin1_aae02 3 = .ok (.ifCond .eq 14, 3) := by decide +kernel
theorem dJ0_isLatin1_aae02_6 : decode cJ0_isLatin1_aae02 6 = .ok (.aload_n 0, 1) := by decide +kernel
theorem dJ0_isLatin1_aae02_7 : decode cJ0_isLatin1_aae02 7 = .ok (.getfield 15, 3) := by decide +kernel
theorem dJ0_isLatin1_aae02_10 : decode cJ0_isLatin1_aae02 10 = .ok (.ifCond .ne 7, 3) := by decide +kernel
theorem dJ0_isLatin1_aae02_13 : decode cJ0_isLatin1_aae02 13 = .ok (.iconst 1, 1) := by decide +kernel
theorem dJ0_isLatin1_aae02_14 : decode cJ0_isLatin1_aae02 14 = .ok (.goto 4, 3) := by decide +kernel
theorem dJ0_isLatin1_aae02_17 : decode cJ0_isLatin1_aae02 17 = .ok (.iconst 0, 1) := by decide +kernel
theorem dJ0_isLatin1_aae02_18 : decode cJ0_isLatin1_aae02 18 = .ok (.ireturn, 1) := by decide +kernel
theorem dJ0_checkIndex_df160_0 : decode cJ0_checkIndex_df160 0 = .ok (.iload_n 0, 1) := by decide +kernel
theorem dJ0_checkIndex_df160_1 : decode cJ0_checkIndex_df160 1 = .ok (.iload_n 1, 1) := by decide +kernel
theorem dJ0_checkIndex_df160_2 : decode cJ0_checkIndex_df160 2 = .ok (.getstatic 1053, 3) := by decide +kernel
theorem dJ0_checkIndex_df160_5 : decode cJ0_checkIndex_df160 5 = .ok (.invokestatic 1059, 3) := by decide +kernel
theorem dJ0_checkIndex_df160_8 : decode cJ0_checkIndex_df160 8 = .ok (.pop, 1) := by decide +kernel
theorem dJ0_checkIndex_df160_9 : decode cJ0_checkIndex_df160 9 = .ok (.return_, 1) := by decide +kernel
theorem dJ1_charAt_3b067_0 : decode cJ1_charAt_3b067 0 = .ok (.iload_n 1, 1) := by decide +kernel
theorem dJ1_charAt_3b067_1 : decode cJ1_charAt_3b067 1 = .ok (.aload_n 0, 1) := by decide +kernel
theorem dJ1_charAt_3b067_2 : decode cJ1_charAt_3b067 2 = .ok (.arraylength, 1) := by decide +kernel
theorem dJ1_charAt_3b067_3 : decode cJ1_charAt_3b067 3 = .ok (.invokestatic 9, 3) := by decide +kernel
theorem dJ1_charAt_3b067_6 : decode cJ1_charAt_3b067 6 = .ok (.aload_n 0, 1) := by decide +kernel
theorem dJ1_charAt_3b067_7 : decode cJ1_charAt_3b067 7 = .ok (.iload_n 1, 1) := by decide +kernel
theorem dJ1_charAt_3b067_8 : decode cJ1_charAt_3b067 8 = .ok (.baload, 1) := by decide +kernel
theorem dJ1_charAt_3b067_9 : decode cJ1_charAt_3b067 9 = .ok (.sipush 255, 3) := by decide +kernel
theorem dJ1_charAt_3b067_12 : decode cJ1_charAt_3b067 12 = .ok (.iand, 1) := by decide +kernel
theorem dJ1_charAt_3b067_13 : decode cJ1_charAt_3b067 13 = .ok (.i2c, 1) := by decide +kernel
theorem dJ1_charAt_3b067_14 : decode cJ1_charAt_3b067 14 = .ok (.ireturn, 1) := by decide +kernel
theorem dJ2_getChar_3b067_0 : decode cJ2_getChar_3b067 0 = .ok (.getstatic 44, 3) := by decide +kernel
theorem dJ2_getChar_3b067_3 : decode cJ2_getChar_3b067 3 = .ok (.ifCond .ne 25, 3) := by decide +kernel
theorem dJ2_getChar_3b067_6 : decode cJ2_getChar_3b067 6 = .ok (.iload_n 1, 1) := by decide +kernel
theorem dJ2_getChar_3b067_7 : decode cJ2_getChar_3b067 7 = .ok (.ifCond .lt 11, 3) := by decide +kernel
theorem dJ2_getChar_3b067_10 : decode cJ2_getChar_3b067 10 = .ok (.iload_n 1, 1) := by decide +kernel
theorem dJ2_getChar_3b067_11 : decode cJ2_getChar_3b067 11 = .ok (.aload_n 0, 1) := by decide +kernel
theorem dJ2_getChar_3b067_12 : decode cJ2_getChar_3b067 12 = .ok (.invokestatic 48, 3) := by decide +kernel
theorem dJ2_getChar_3b067_15 : decode cJ2_getChar_3b067 15 = .ok (.if_icmp .lt 13, 3) := by decide +kernel
theorem dJ2_getChar_3b067_18 : decode cJ2_getChar_3b067 18 = .ok (.new 52, 3) := by decide +kernel
theorem dJ2_getChar_3b067_21 : decode cJ2_getChar_3b067 21 = .ok (.dup, 1) := by decide +kernel
theorem dJ2_getChar_3b067_22 : decode cJ2_getChar_3b067 22 = .ok (.ldc 54, 2) := by decide +kernel
theorem dJ2_getChar_3b067_24 : decode cJ2_getChar_3b067 24 = .ok (.invokespecial 56, 3) := by decide +kernel
theorem dJ2_getChar_3b067_27 : decode cJ2_getChar_3b067 27 = .ok (.athrow, 1) := by decide +kernel
theorem dJ2_getChar_3b067_28 : decode cJ2_getChar_3b067 28 = .ok (.iload_n 1, 1) := by decide +kernel
theorem dJ2_getChar_3b067_29 : decode cJ2_getChar_3b067 29 = .ok (.iconst 1, 1) := by decide +kernel
theorem dJ2_getChar_3b067_30 : decode cJ2_getChar_3b067 30 = .ok (.ishl, 1) := by decide +kernel
theorem dJ2_getChar_3b067_31 : decode cJ2_getChar_3b067 31 = .ok (.istore_n 1, 1) := by decide +kernel
theorem dJ2_getChar_3b067_32 : decode cJ2_getChar_3b067 32 = .ok (.aload_n 0, 1) := by decide +kernel
theorem dJ2_getChar_3b067_33 : decode cJ2_getChar_3b067 33 = .ok (.iload_n 1, 1) := by decide +kernel
theorem dJ2_getChar_3b067_34 : decode cJ2_getChar_3b067 34 = .ok (.iinc 1 1, 3) := by decide +kernel
theorem dJ2_getChar_3b067_37 : decode cJ2_getChar_3b067 37 = .ok (.baload, 1) := by decide +kernel
theorem dJ2_getChar_3b067_38 : decode cJ2_getChar_3b067 38 = .ok (.sipush 255, 3) := by decide +kernel
theorem dJ2_getChar_3b067_41 : decode cJ2_getChar_3b067 41 = .ok (.iand, 1) := by decide +kernel
theorem dJ2_getChar_3b067_42 : decode cJ2_getChar_3b067 42 = .ok (.getstatic 59, 3) := by decide +kernel
theorem dJ2_getChar_3b067_45 : decode cJ2_getChar_3b067 45 = .ok (.ishl, 1) := by decide +kernel
theorem dJ2_getChar_3b067_46 : decode cJ2_getChar_3b067 46 = .ok (.aload_n 0, 1) := by decide +kernel
theorem dJ2_getChar_3b067_47 : decode cJ2_getChar_3b067 47 = .ok (.iload_n 1, 1) := by decide +kernel
theorem dJ2_getChar_3b067_48 : decode cJ2_getChar_3b067 48 = .ok (.baload, 1) := by decide +kernel
theorem dJ2_getChar_3b067_49 : decode cJ2_getChar_3b067 49 = .ok (.sipush 255, 3) := by decide +kernel
theorem dJ2_getChar_3b067_52 : decode cJ2_getChar_3b067 52 = .ok (.iand, 1) := by decide +kernel
theorem dJ2_getChar_3b067_53 : decode cJ2_getChar_3b067 53 = .ok (.getstatic 63, 3) := by decide +kernel
theorem dJ2_getChar_3b067_56 : decode cJ2_getChar_3b067 56 = .ok (.ishl, 1) := by decide +kernel
theorem dJ2_getChar_3b067_57 : decode cJ2_getChar_3b067 57 = .ok (.ior, 1) := by decide +kernel
theorem dJ2_getChar_3b067_58 : decode cJ2_getChar_3b067 58 = .ok (.i2c, 1) := by decide +kernel
theorem dJ2_getChar_3b067_59 : decode cJ2_getChar_3b067 59 = .ok (.ireturn, 1) := by decide +kernel
theorem dJ2_length_9d52b_0 : decode cJ2_length_9d52b 0 = .ok (.aload_n 0, 1) := by decide +kernel
theorem dJ2_length_9d52b_1 : decode cJ2_length_9d52b 1 = .ok (.arraylength, 1) := by decide +kernel
theorem dJ2_length_9d52b_2 : decode cJ2_length_9d52b 2 = .ok (.iconst 1, 1) := by decide +kernel
theorem dJ2_length_9d52b_3 : decode cJ2_length_9d52b 3 = .ok (.ishr, 1) := by decide +kernel
theorem dJ2_length_9d52b_4 : decode cJ2_length_9d52b 4 = .ok (.ireturn, 1) := by decide +kernel
theorem dJ2_charAt_3b067_0 : decode cJ2_charAt_3b067 0 = .ok (.iload_n 1, 1) := by decide +kernel
theorem dJ2_charAt_3b067_1 : decode cJ2_charAt_3b067 1 = .ok (.aload_n 0, 1) := by decide +kernel
theorem dJ2_charAt_3b067_2 : decode cJ2_charAt_3b067 2 = .ok (.invokestatic 67, 3) := by decide +kernel
theorem dJ2_charAt_3b067_5 : decode cJ2_charAt_3b067 5 = .ok (.aload_n 0, 1) := by decide +kernel
theorem dJ2_charAt_3b067_6 : decode cJ2_charAt_3b067 6 = .ok (.iload_n 1, 1) := by decide +kernel
theorem dJ2_charAt_3b067_7 : decode cJ2_charAt_3b067 7 = .ok (.invokestatic 71, 3) := by decide +kernel
theorem dJ2_charAt_3b067_10 : decode cJ2_charAt_3b067 10 = .ok (.ireturn, 1) := by decide +kernel
theorem dJ2_checkIndex_2214a_0 : decode cJ2_checkIndex_2214a 0 = .ok (.iload_n 0, 1) := by decide +kernel
theorem dJ2_checkIndex_2214a_1 : decode cJ2_checkIndex_2214a 1 = .ok (.aload_n 1, 1) := by decide +kernel
theorem dJ2_checkIndex_2214a_2 : decode cJ2_checkIndex_2214a 2 = .ok (.invokestatic 48, 3) := by decide +kernel
theorem dJ2_checkIndex_2214a_5 : decode cJ2_checkIndex_2214a 5 = .ok (.invokestatic 414, 3) := by decide +kernel
theorem dJ2_checkIndex_2214a_8 : decode cJ2_checkIndex_2214a 8 = .ok (.return_, 1) := by decide +kernel
theorem dJ7_fill_53178_0 : decode cJ7_fill_53178 0 = .ok (.iconst 0, 1) := by decide +kernel
theorem dJ7_fill_53178_1 : decode cJ7_fill_53178 1 = .ok (.istore_n 2, 1) := by decide +kernel
theorem dJ7_fill_53178_2 : decode cJ7_fill_53178 2 = .ok (.aload_n 0, 1) := by decide +kernel
theorem dJ7_fill_53178_3 : decode cJ7_fill_53178 3 = .ok (.arraylength, 1) := by decide +kernel
theorem dJ7_fill_53178_4 : decode cJ7_fill_53178 4 = .ok (.istore_n 3, 1) := by decide +kernel
theorem dJ7_fill_53178_5 : decode cJ7_fill_53178 5 = .ok (.iload_n 2, 1) := by decide +kernel
theorem dJ7_fill_53178_6 : decode cJ7_fill_53178 6 = .ok (.iload_n 3, 1) := by decide +kernel
theorem dJ7_fill_53178_7 : decode cJ7_fill_53178 7 = .ok (.if_icmp .ge 13, 3) := by decide +kernel
theorem dJ7_fill_53178_10 : decode cJ7_fill_53178 10 = .ok (.aload_n 0, 1) := by decide +kernel
theorem dJ7_fill_53178_11 : decode cJ7_fill_53178 11 = .ok (.iload_n 2, 1) := by decide +kernel
theorem dJ7_fill_53178_12 : decode cJ7_fill_53178 12 = .ok (.iload_n 1, 1) := by decide +kernel
theorem dJ7_fill_53178_13 : decode cJ7_fill_53178 13 = .ok (.iastore, 1) := by decide +kernel
theorem dJ7_fill_53178_14 : decode cJ7_fill_53178 14 = .ok (.iinc 2 1, 3) := by decide +kernel
theorem dJ7_fill_53178_17 : decode cJ7_fill_53178 17 = .ok (.goto (-12), 3) := by decide +kernel
theorem dJ7_fill_53178_20 : decode cJ7_fill_53178 20 = .ok (.return_, 1) := by decide +kernel
theorem dJ3_checkIndex_8e157_0 : decode cJ3_checkIndex_8e157 0 = .ok (.iload_n 0, 1) := by decide +kernel
theorem dJ3_checkIndex_8e157_1 : decode cJ3_checkIndex_8e157 1 = .ok (.ifCond .lt 8, 3) := by decide +kernel
theorem dJ3_checkIndex_8e157_4 : decode cJ3_checkIndex_8e157 4 = .ok (.iload_n 0, 1) := by decide +kernel
theorem dJ3_checkIndex_8e157_5 : decode cJ3_checkIndex_8e157 5 = .ok (.iload_n 1, 1) := by decide +kernel
theorem dJ3_checkIndex_8e157_6 : decode cJ3_checkIndex_8e157 6 = .ok (.if_icmp .lt 10, 3) := by decide +kernel
theorem dJ3_checkIndex_8e157_9 : decode cJ3_checkIndex_8e157 9 = .ok (.aload_n 2, 1) := by decide +kernel
theorem dJ3_checkIndex_8e157_10 : decode cJ3_checkIndex_8e157 10 = .ok (.iload_n 0, 1) := by decide +kernel
theorem dJ3_checkIndex_8e157_11 : decode cJ3_checkIndex_8e157 11 = .ok (.iload_n 1, 1) := by decide +kernel
theorem dJ3_checkIndex_8e157_12 : decode cJ3_checkIndex_8e157 12 = .ok (.invokestatic 95, 3) := by decide +kernel
theorem dJ3_checkIndex_8e157_15 : decode cJ3_checkIndex_8e157 15 = .ok (.athrow, 1) := by decide +kernel
theorem dJ3_checkIndex_8e157_16 : decode cJ3_checkIndex_8e157 16 = .ok (.iload_n 0, 1) := by decide +kernel
theorem dJ3_checkIndex_8e157_17 : decode cJ3_checkIndex_8e157 17 = .ok (.ireturn, 1) := by decide +kernel
