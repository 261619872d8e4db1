theorem d_Hi_init_0 : decode b_Hi_init 0 = .ok (.aload_n 0, 1) := by decide +kernel
theorem d_Hi_init_1 : decode b_Hi_init 1 = .ok (.invokespecial 3, 3) := by decide +kernel
theorem d_Hi_init_4 : decode b_Hi_init 4 = .ok (.aload_n 0, 1) := by decide +kernel
theorem d_Hi_init_5 : decode b_Hi_init 5 = .ok (.bipush 6, 2) := by decide +kernel
theorem d_Hi_init_7 : decode b_Hi_init 7 = .ok (.anewarray 9, 3) := by decide +kernel
theorem d_Hi_init_10 : decode b_Hi_init 10 = .ok (.putfield 11, 3) := by decide +kernel
theorem d_Hi_init_13 : decode b_Hi_init 13 = .ok (.iconst 0, 1) := by decide +kernel
theorem d_Hi_init_14 : decode b_Hi_init 14 = .ok (.istore_n 1, 1) := by decide +kernel
theorem d_Hi_init_15 : decode b_Hi_init 15 = .ok (.iload_n 1, 1) := by decide +kernel
theorem d_Hi_init_16 : decode b_Hi_init 16 = .ok (.bipush 6, 2) := by decide +kernel
theorem d_Hi_init_18 : decode b_Hi_init 18 = .ok (.if_icmp .ge 22, 3) := by decide +kernel
theorem d_Hi_init_21 : decode b_Hi_init 21 = .ok (.aload_n 0, 1) := by decide +kernel
theorem d_Hi_init_22 : decode b_Hi_init 22 = .ok (.getfield 11, 3) := by decide +kernel
theorem d_Hi_init_25 : decode b_Hi_init 25 = .ok (.iload_n 1, 1) := by decide +kernel
theorem d_Hi_init_26 : decode b_Hi_init 26 = .ok (.new 9, 3) := by decide +kernel
theorem d_Hi_init_29 : decode b_Hi_init 29 = .ok (.dup, 1) := by decide +kernel
theorem d_Hi_init_30 : decode b_Hi_init 30 = .ok (.invokespecial 17, 3) := by decide +kernel
theorem d_Hi_init_33 : decode b_Hi_init 33 = .ok (.aastore, 1) := by decide +kernel
theorem d_Hi_init_34 : decode b_Hi_init 34 = .ok (.iinc 1 1, 3) := by decide +kernel
theorem d_Hi_init_37 : decode b_Hi_init 37 = .ok (.goto (-22), 3) := by decide +kernel
theorem d_Hi_init_40 : decode b_Hi_init 40 = .ok (.return_, 1) := by decide +kernel
theorem d_Hi_remember_0 : decode b_Hi_remember 0 = .ok (.aload_n 0, 1) := by decide +kernel
theorem d_Hi_remember_1 : decode b_Hi_remember 1 = .ok (.getfield 11, 3) := by decide +kernel
theorem d_Hi_remember_4 : decode b_Hi_remember 4 = .ok (.aload_n 0, 1) := by decide +kernel
theorem d_Hi_remember_5 : decode b_Hi_remember 5 = .ok (.getfield 18, 3) := by decide +kernel
theorem d_Hi_remember_8 : decode b_Hi_remember 8 = .ok (.aaload, 1) := by decide +kernel
theorem d_Hi_remember_9 : decode b_Hi_remember 9 = .ok (.aload_n 1, 1) := by decide +kernel
theorem d_Hi_remember_10 : decode b_Hi_remember 10 = .ok (.invokevirtual 22, 3) := by decide +kernel
theorem d_Hi_remember_13 : decode b_Hi_remember 13 = .ok (.aload_n 0, 1) := by decide +kernel
theorem d_Hi_remember_14 : decode b_Hi_remember 14 = .ok (.aload_n 0, 1) := by decide +kernel
theorem d_Hi_remember_15 : decode b_Hi_remember 15 = .ok (.getfield 18, 3) := by decide +kernel
theorem d_Hi_remember_18 : decode b_Hi_remember 18 = .ok (.iconst 1, 1) := by decide +kernel
theorem d_Hi_remember_19 : decode b_Hi_remember 19 = .ok (.iadd, 1) := by decide +kernel
theorem d_Hi_remember_20 : decode b_Hi_remember 20 = .ok (.bipush 6, 2) := by decide +kernel
theorem d_Hi_remember_22 : decode b_Hi_remember 22 = .ok (.irem, 1) := by decide +kernel
theorem d_Hi_remember_23 : decode b_Hi_remember 23 = .ok (.putfield 18, 3) := by decide +kernel
theorem d_Hi_remember_26 : decode b_Hi_remember 26 = .ok (.aload_n 0, 1) := by decide +kernel
theorem d_Hi_remember_27 : decode b_Hi_remember 27 = .ok (.aload_n 0, 1) := by decide +kernel
theorem d_Hi_remember_28 : decode b_Hi_remember 28 = .ok (.getfield 26, 3) := by decide +kernel
theorem d_Hi_remember_31 : decode b_Hi_remember 31 = .ok (.iconst 1, 1) := by decide +kernel
theorem d_Hi_remember_32 : decode b_Hi_remember 32 = .ok (.iadd, 1) := by decide +kernel
theorem d_Hi_remember_33 : decode b_Hi_remember 33 = .ok (.bipush 6, 2) := by decide +kernel
theorem d_Hi_remember_35 : decode b_Hi_remember 35 = .ok (.invokestatic 29, 3) := by decide +kernel
theorem d_Hi_remember_38 : decode b_Hi_remember 38 = .ok (.putfield 26, 3) := by decide +kernel
theorem d_Hi_remember_41 : decode b_Hi_remember 41 = .ok (.return_, 1) := by decide +kernel
theorem d_Hi_restore_0 : decode b_Hi_restore 0 = .ok (.aload_n 0, 1) := by decide +kernel
theorem d_Hi_restore_1 : decode b_Hi_restore 1 = .ok (.getfield 26, 3) := by decide +kernel
theorem d_Hi_restore_4 : decode b_Hi_restore 4 = .ok (.iconst 1, 1) := by decide +kernel
theorem d_Hi_restore_5 : decode b_Hi_restore 5 = .ok (.if_icmp .ge 5, 3) := by decide +kernel
theorem d_Hi_restore_8 : decode b_Hi_restore 8 = .ok (.iconst 0, 1) := by decide +kernel
theorem d_Hi_restore_9 : decode b_Hi_restore 9 = .ok (.ireturn, 1) := by decide +kernel
theorem d_Hi_restore_10 : decode b_Hi_restore 10 = .ok (.aload_n 0, 1) := by decide +kernel
theorem d_Hi_restore_11 : decode b_Hi_restore 11 = .ok (.aload_n 0, 1) := by decide +kernel
theorem d_Hi_restore_12 : decode b_Hi_restore 12 = .ok (.getfield 18, 3) := by decide +kernel
theorem d_Hi_restore_15 : decode b_Hi_restore 15 = .ok (.bipush 6, 2) := by decide +kernel
theorem d_Hi_restore_17 : decode b_Hi_restore 17 = .ok (.iadd, 1) := by decide +kernel
theorem d_Hi_restore_18 : decode b_Hi_restore 18 = .ok (.iconst 1, 1) := by decide +kernel
theorem d_Hi_restore_19 : decode b_Hi_restore 19 = .ok (.isub, 1) := by decide +kernel
theorem d_Hi_restore_20 : decode b_Hi_restore 20 = .ok (.bipush 6, 2) := by decide +kernel
theorem d_Hi_restore_22 : decode b_Hi_restore 22 = .ok (.irem, 1) := by decide +kernel
theorem d_Hi_restore_23 : decode b_Hi_restore 23 = .ok (.putfield 18, 3) := by decide +kernel
theorem d_Hi_restore_26 : decode b_Hi_restore 26 = .ok (.aload_n 0, 1) := by decide +kernel
theorem d_Hi_restore_27 : decode b_Hi_restore 27 = .ok (.dup, 1) := by decide +kernel
theorem d_Hi_restore_28 : decode b_Hi_restore 28 = .ok (.getfield 26, 3) := by decide +kernel
theorem d_Hi_restore_31 : decode b_Hi_restore 31 = .ok (.iconst 1, 1) := by decide +kernel
theorem d_Hi_restore_32 : decode b_Hi_restore 32 = .ok (.isub, 1) := by decide +kernel
theorem d_Hi_restore_33 : decode b_Hi_restore 33 = .ok (.putfield 26, 3) := by decide +kernel
theorem d_Hi_restore_36 : decode b_Hi_restore 36 = .ok (.aload_n 1, 1) := by decide +kernel
theorem d_Hi_restore_37 : decode b_Hi_restore 37 = .ok (.aload_n 0, 1) := by decide +kernel
theorem d_Hi_restore_38 : decode b_Hi_restore 38 = .ok (.getfield 11, 3) := by decide +kernel
theorem d_Hi_restore_41 : decode b_Hi_restore 41 = .ok (.aload_n 0, 1) := by decide +kernel
theorem d_Hi_restore_42 : decode b_Hi_restore 42 = .ok (.getfield 18, 3) := by decide +kernel
theorem d_Hi_restore_45 : decode b_Hi_restore 45 = .ok (.aaload, 1) := by decide +kernel
theorem d_Hi_restore_46 : decode b_Hi_restore 46 = .ok (.invokevirtual 22, 3) := by decide +kernel
theorem d_Hi_restore_49 : decode b_Hi_restore 49 = .ok (.iconst 1, 1) := by decide +kernel
theorem d_Hi_restore_50 : decode b_Hi_restore 50 = .ok (.ireturn, 1) := by decide +kernel
theorem d_Hi_empty_0 : decode b_Hi_empty 0 = .ok (.aload_n 0, 1) := by decide +kernel
theorem d_Hi_empty_1 : decode b_Hi_empty 1 = .ok (.iconst 0, 1) := by decide +kernel
theorem d_Hi_empty_2 : decode b_Hi_empty 2 = .ok (.putfield 26, 3) := by decide +kernel
theorem d_Hi_empty_5 : decode b_Hi_empty 5 = .ok (.return_, 1) := by decide +kernel
