/-! what the bytes of the methods are (by program) -/
theorem d_UN_init_0 : decode (mB M_UN_init) 0 = .ok (.aload_n 0, 1) := by decide +kernel
theorem d_UN_init_1 : decode (mB M_UN_init) 1 = .ok (.invokespecial 3, 3) := by decide +kernel
theorem d_UN_init_4 : decode (mB M_UN_init) 4 = .ok (.aload_n 0, 1) := by decide +kernel
theorem d_UN_init_5 : decode (mB M_UN_init) 5 = .ok (.iconst 0, 1) := by decide +kernel
theorem d_UN_init_6 : decode (mB M_UN_init) 6 = .ok (.putfield 9, 3) := by decide +kernel
theorem d_UN_init_9 : decode (mB M_UN_init) 9 = .ok (.aload_n 0, 1) := by decide +kernel
theorem d_UN_init_10 : decode (mB M_UN_init) 10 = .ok (.iconst (-1), 1) := by decide +kernel
theorem d_UN_init_11 : decode (mB M_UN_init) 11 = .ok (.putfield 15, 3) := by decide +kernel
theorem d_UN_init_14 : decode (mB M_UN_init) 14 = .ok (.aload_n 0, 1) := by decide +kernel
theorem d_UN_init_15 : decode (mB M_UN_init) 15 = .ok (.iconst (-1), 1) := by decide +kernel
theorem d_UN_init_16 : decode (mB M_UN_init) 16 = .ok (.putfield 18, 3) := by decide +kernel
theorem d_UN_init_19 : decode (mB M_UN_init) 19 = .ok (.aload_n 0, 1) := by decide +kernel
theorem d_UN_init_20 : decode (mB M_UN_init) 20 = .ok (.iload_n 1, 1) := by decide +kernel
theorem d_UN_init_21 : decode (mB M_UN_init) 21 = .ok (.putfield 21, 3) := by decide +kernel
theorem d_UN_init_24 : decode (mB M_UN_init) 24 = .ok (.aload_n 0, 1) := by decide +kernel
theorem d_UN_init_25 : decode (mB M_UN_init) 25 = .ok (.iload_n 2, 1) := by decide +kernel
theorem d_UN_init_26 : decode (mB M_UN_init) 26 = .ok (.putfield 24, 3) := by decide +kernel
theorem d_UN_init_29 : decode (mB M_UN_init) 29 = .ok (.aload_n 0, 1) := by decide +kernel
theorem d_UN_init_30 : decode (mB M_UN_init) 30 = .ok (.iload_n 3, 1) := by decide +kernel
theorem d_UN_init_31 : decode (mB M_UN_init) 31 = .ok (.putfield 27, 3) := by decide +kernel
theorem d_UN_init_34 : decode (mB M_UN_init) 34 = .ok (.aload_n 0, 1) := by decide +kernel
theorem d_UN_init_35 : decode (mB M_UN_init) 35 = .ok (.iload 4, 2) := by decide +kernel
theorem d_UN_init_37 : decode (mB M_UN_init) 37 = .ok (.putfield 30, 3) := by decide +kernel
theorem d_UN_init_40 : decode (mB M_UN_init) 40 = .ok (.aload_n 0, 1) := by decide +kernel
theorem d_UN_init_41 : decode (mB M_UN_init) 41 = .ok (.iload 5, 2) := by decide +kernel
theorem d_UN_init_43 : decode (mB M_UN_init) 43 = .ok (.putfield 33, 3) := by decide +kernel
theorem d_UN_init_46 : decode (mB M_UN_init) 46 = .ok (.return_, 1) := by decide +kernel
theorem d_UN_isExpired_0 : decode (mB M_UN_isExpired) 0 = .ok (.iload_n 1, 1) := by decide +kernel
theorem d_UN_isExpired_1 : decode (mB M_UN_isExpired) 1 = .ok (.aload_n 0, 1) := by decide +kernel
theorem d_UN_isExpired_2 : decode (mB M_UN_isExpired) 2 = .ok (.getfield 33, 3) := by decide +kernel
theorem d_UN_isExpired_5 : decode (mB M_UN_isExpired) 5 = .ok (.if_icmp .lt 7, 3) := by decide +kernel
theorem d_UN_isExpired_8 : decode (mB M_UN_isExpired) 8 = .ok (.iconst 1, 1) := by decide +kernel
theorem d_UN_isExpired_9 : decode (mB M_UN_isExpired) 9 = .ok (.goto 4, 3) := by decide +kernel
theorem d_UN_isExpired_12 : decode (mB M_UN_isExpired) 12 = .ok (.iconst 0, 1) := by decide +kernel
theorem d_UN_isExpired_13 : decode (mB M_UN_isExpired) 13 = .ok (.ireturn, 1) := by decide +kernel
theorem d_UN_isBarred_0 : decode (mB M_UN_isBarred) 0 = .ok (.aload_n 0, 1) := by decide +kernel
theorem d_UN_isBarred_1 : decode (mB M_UN_isBarred) 1 = .ok (.getfield 30, 3) := by decide +kernel
theorem d_UN_isBarred_4 : decode (mB M_UN_isBarred) 4 = .ok (.iload_n 1, 1) := by decide +kernel
theorem d_UN_isBarred_5 : decode (mB M_UN_isBarred) 5 = .ok (.iand, 1) := by decide +kernel
theorem d_UN_isBarred_6 : decode (mB M_UN_isBarred) 6 = .ok (.ifCond .eq 7, 3) := by decide +kernel
theorem d_UN_isBarred_9 : decode (mB M_UN_isBarred) 9 = .ok (.iconst 1, 1) := by decide +kernel
theorem d_UN_isBarred_10 : decode (mB M_UN_isBarred) 10 = .ok (.goto 4, 3) := by decide +kernel
theorem d_UN_isBarred_13 : decode (mB M_UN_isBarred) 13 = .ok (.iconst 0, 1) := by decide +kernel
theorem d_UN_isBarred_14 : decode (mB M_UN_isBarred) 14 = .ok (.ireturn, 1) := by decide +kernel
theorem d_UN_isInHouse_0 : decode (mB M_UN_isInHouse) 0 = .ok (.aload_n 0, 1) := by decide +kernel
theorem d_UN_isInHouse_1 : decode (mB M_UN_isInHouse) 1 = .ok (.getfield 9, 3) := by decide +kernel
theorem d_UN_isInHouse_4 : decode (mB M_UN_isInHouse) 4 = .ok (.ifCond .eq 11, 3) := by decide +kernel
theorem d_UN_isInHouse_7 : decode (mB M_UN_isInHouse) 7 = .ok (.aload_n 0, 1) := by decide +kernel
theorem d_UN_isInHouse_8 : decode (mB M_UN_isInHouse) 8 = .ok (.getfield 9, 3) := by decide +kernel
theorem d_UN_isInHouse_11 : decode (mB M_UN_isInHouse) 11 = .ok (.iconst 1, 1) := by decide +kernel
theorem d_UN_isInHouse_12 : decode (mB M_UN_isInHouse) 12 = .ok (.if_icmp .ne 7, 3) := by decide +kernel
theorem d_UN_isInHouse_15 : decode (mB M_UN_isInHouse) 15 = .ok (.iconst 1, 1) := by decide +kernel
theorem d_UN_isInHouse_16 : decode (mB M_UN_isInHouse) 16 = .ok (.goto 4, 3) := by decide +kernel
theorem d_UN_isInHouse_19 : decode (mB M_UN_isInHouse) 19 = .ok (.iconst 0, 1) := by decide +kernel
theorem d_UN_isInHouse_20 : decode (mB M_UN_isInHouse) 20 = .ok (.ireturn, 1) := by decide +kernel
theorem d_UN_isForEmergencies_0 : decode (mB M_UN_isForEmergencies) 0 = .ok (.aload_n 0, 1) := by decide +kernel
theorem d_UN_isForEmergencies_1 : decode (mB M_UN_isForEmergencies) 1 = .ok (.getfield 21, 3) := by decide +kernel
theorem d_UN_isForEmergencies_4 : decode (mB M_UN_isForEmergencies) 4 = .ok (.ifCond .ne 10, 3) := by decide +kernel
theorem d_UN_isForEmergencies_7 : decode (mB M_UN_isForEmergencies) 7 = .ok (.aload_n 0, 1) := by decide +kernel
theorem d_UN_isForEmergencies_8 : decode (mB M_UN_isForEmergencies) 8 = .ok (.getfield 24, 3) := by decide +kernel
theorem d_UN_isForEmergencies_11 : decode (mB M_UN_isForEmergencies) 11 = .ok (.ifCond .eq 19, 3) := by decide +kernel
theorem d_UN_isForEmergencies_14 : decode (mB M_UN_isForEmergencies) 14 = .ok (.aload_n 0, 1) := by decide +kernel
theorem d_UN_isForEmergencies_15 : decode (mB M_UN_isForEmergencies) 15 = .ok (.getfield 21, 3) := by decide +kernel
theorem d_UN_isForEmergencies_18 : decode (mB M_UN_isForEmergencies) 18 = .ok (.iconst 1, 1) := by decide +kernel
theorem d_UN_isForEmergencies_19 : decode (mB M_UN_isForEmergencies) 19 = .ok (.if_icmp .ne 15, 3) := by decide +kernel
theorem d_UN_isForEmergencies_22 : decode (mB M_UN_isForEmergencies) 22 = .ok (.aload_n 0, 1) := by decide +kernel
theorem d_UN_isForEmergencies_23 : decode (mB M_UN_isForEmergencies) 23 = .ok (.getfield 24, 3) := by decide +kernel
theorem d_UN_isForEmergencies_26 : decode (mB M_UN_isForEmergencies) 26 = .ok (.iconst 3, 1) := by decide +kernel
theorem d_UN_isForEmergencies_27 : decode (mB M_UN_isForEmergencies) 27 = .ok (.if_icmp .ne 7, 3) := by decide +kernel
theorem d_UN_isForEmergencies_30 : decode (mB M_UN_isForEmergencies) 30 = .ok (.iconst 1, 1) := by decide +kernel
theorem d_UN_isForEmergencies_31 : decode (mB M_UN_isForEmergencies) 31 = .ok (.goto 4, 3) := by decide +kernel
theorem d_UN_isForEmergencies_34 : decode (mB M_UN_isForEmergencies) 34 = .ok (.iconst 0, 1) := by decide +kernel
theorem d_UN_isForEmergencies_35 : decode (mB M_UN_isForEmergencies) 35 = .ok (.ireturn, 1) := by decide +kernel
theorem d_UN_wentTo_0 : decode (mB M_UN_wentTo) 0 = .ok (.aload_n 0, 1) := by decide +kernel
theorem d_UN_wentTo_1 : decode (mB M_UN_wentTo) 1 = .ok (.getfield 18, 3) := by decide +kernel
theorem d_UN_wentTo_4 : decode (mB M_UN_wentTo) 4 = .ok (.iconst (-1), 1) := by decide +kernel
theorem d_UN_wentTo_5 : decode (mB M_UN_wentTo) 5 = .ok (.if_icmp .eq 15, 3) := by decide +kernel
theorem d_UN_wentTo_8 : decode (mB M_UN_wentTo) 8 = .ok (.aload_n 0, 1) := by decide +kernel
theorem d_UN_wentTo_9 : decode (mB M_UN_wentTo) 9 = .ok (.getfield 15, 3) := by decide +kernel
theorem d_UN_wentTo_12 : decode (mB M_UN_wentTo) 12 = .ok (.iload_n 1, 1) := by decide +kernel
theorem d_UN_wentTo_13 : decode (mB M_UN_wentTo) 13 = .ok (.if_icmp .ne 7, 3) := by decide +kernel
theorem d_UN_wentTo_16 : decode (mB M_UN_wentTo) 16 = .ok (.iconst 1, 1) := by decide +kernel
theorem d_UN_wentTo_17 : decode (mB M_UN_wentTo) 17 = .ok (.goto 4, 3) := by decide +kernel
theorem d_UN_wentTo_20 : decode (mB M_UN_wentTo) 20 = .ok (.iconst 0, 1) := by decide +kernel
theorem d_UN_wentTo_21 : decode (mB M_UN_wentTo) 21 = .ok (.ireturn, 1) := by decide +kernel
theorem d_UN_antigenValue_0 : decode (mB M_UN_antigenValue) 0 = .ok (.iconst 1, 1) := by decide +kernel
theorem d_UN_antigenValue_1 : decode (mB M_UN_antigenValue) 1 = .ok (.iload_n 1, 1) := by decide +kernel
theorem d_UN_antigenValue_2 : decode (mB M_UN_antigenValue) 2 = .ok (.ishl, 1) := by decide +kernel
theorem d_UN_antigenValue_3 : decode (mB M_UN_antigenValue) 3 = .ok (.istore_n 2, 1) := by decide +kernel
theorem d_UN_antigenValue_4 : decode (mB M_UN_antigenValue) 4 = .ok (.aload_n 0, 1) := by decide +kernel
theorem d_UN_antigenValue_5 : decode (mB M_UN_antigenValue) 5 = .ok (.getfield 36, 3) := by decide +kernel
theorem d_UN_antigenValue_8 : decode (mB M_UN_antigenValue) 8 = .ok (.iload_n 2, 1) := by decide +kernel
theorem d_UN_antigenValue_9 : decode (mB M_UN_antigenValue) 9 = .ok (.iand, 1) := by decide +kernel
theorem d_UN_antigenValue_10 : decode (mB M_UN_antigenValue) 10 = .ok (.ifCond .eq 5, 3) := by decide +kernel
theorem d_UN_antigenValue_13 : decode (mB M_UN_antigenValue) 13 = .ok (.iconst 1, 1) := by decide +kernel
theorem d_UN_antigenValue_14 : decode (mB M_UN_antigenValue) 14 = .ok (.ireturn, 1) := by decide +kernel
theorem d_UN_antigenValue_15 : decode (mB M_UN_antigenValue) 15 = .ok (.aload_n 0, 1) := by decide +kernel
theorem d_UN_antigenValue_16 : decode (mB M_UN_antigenValue) 16 = .ok (.getfield 39, 3) := by decide +kernel
theorem d_UN_antigenValue_19 : decode (mB M_UN_antigenValue) 19 = .ok (.iload_n 2, 1) := by decide +kernel
theorem d_UN_antigenValue_20 : decode (mB M_UN_antigenValue) 20 = .ok (.iand, 1) := by decide +kernel
theorem d_UN_antigenValue_21 : decode (mB M_UN_antigenValue) 21 = .ok (.ifCond .eq 7, 3) := by decide +kernel
theorem d_UN_antigenValue_24 : decode (mB M_UN_antigenValue) 24 = .ok (.iconst 0, 1) := by decide +kernel
theorem d_UN_antigenValue_25 : decode (mB M_UN_antigenValue) 25 = .ok (.goto 4, 3) := by decide +kernel
theorem d_UN_antigenValue_28 : decode (mB M_UN_antigenValue) 28 = .ok (.iconst 2, 1) := by decide +kernel
theorem d_UN_antigenValue_29 : decode (mB M_UN_antigenValue) 29 = .ok (.ireturn, 1) := by decide +kernel
theorem d_UN_setAntigen_0 : decode (mB M_UN_setAntigen) 0 = .ok (.iconst 1, 1) := by decide +kernel
theorem d_UN_setAntigen_1 : decode (mB M_UN_setAntigen) 1 = .ok (.iload_n 1, 1) := by decide +kernel
theorem d_UN_setAntigen_2 : decode (mB M_UN_setAntigen) 2 = .ok (.ishl, 1) := by decide +kernel
theorem d_UN_setAntigen_3 : decode (mB M_UN_setAntigen) 3 = .ok (.istore_n 3, 1) := by decide +kernel
theorem d_UN_setAntigen_4 : decode (mB M_UN_setAntigen) 4 = .ok (.aload_n 0, 1) := by decide +kernel
theorem d_UN_setAntigen_5 : decode (mB M_UN_setAntigen) 5 = .ok (.iload_n 2, 1) := by decide +kernel
theorem d_UN_setAntigen_6 : decode (mB M_UN_setAntigen) 6 = .ok (.iconst 1, 1) := by decide +kernel
theorem d_UN_setAntigen_7 : decode (mB M_UN_setAntigen) 7 = .ok (.if_icmp .ne 12, 3) := by decide +kernel
theorem d_UN_setAntigen_10 : decode (mB M_UN_setAntigen) 10 = .ok (.aload_n 0, 1) := by decide +kernel
theorem d_UN_setAntigen_11 : decode (mB M_UN_setAntigen) 11 = .ok (.getfield 36, 3) := by decide +kernel
theorem d_UN_setAntigen_14 : decode (mB M_UN_setAntigen) 14 = .ok (.iload_n 3, 1) := by decide +kernel
theorem d_UN_setAntigen_15 : decode (mB M_UN_setAntigen) 15 = .ok (.ior, 1) := by decide +kernel
theorem d_UN_setAntigen_16 : decode (mB M_UN_setAntigen) 16 = .ok (.goto 11, 3) := by decide +kernel
theorem d_UN_setAntigen_19 : decode (mB M_UN_setAntigen) 19 = .ok (.aload_n 0, 1) := by decide +kernel
theorem d_UN_setAntigen_20 : decode (mB M_UN_setAntigen) 20 = .ok (.getfield 36, 3) := by decide +kernel
theorem d_UN_setAntigen_23 : decode (mB M_UN_setAntigen) 23 = .ok (.iload_n 3, 1) := by decide +kernel
theorem d_UN_setAntigen_24 : decode (mB M_UN_setAntigen) 24 = .ok (.iconst (-1), 1) := by decide +kernel
theorem d_UN_setAntigen_25 : decode (mB M_UN_setAntigen) 25 = .ok (.ixor, 1) := by decide +kernel
theorem d_UN_setAntigen_26 : decode (mB M_UN_setAntigen) 26 = .ok (.iand, 1) := by decide +kernel
theorem d_UN_setAntigen_27 : decode (mB M_UN_setAntigen) 27 = .ok (.putfield 36, 3) := by decide +kernel
theorem d_UN_setAntigen_30 : decode (mB M_UN_setAntigen) 30 = .ok (.aload_n 0, 1) := by decide +kernel
theorem d_UN_setAntigen_31 : decode (mB M_UN_setAntigen) 31 = .ok (.iload_n 2, 1) := by decide +kernel
theorem d_UN_setAntigen_32 : decode (mB M_UN_setAntigen) 32 = .ok (.ifCond .ne 12, 3) := by decide +kernel
theorem d_UN_setAntigen_35 : decode (mB M_UN_setAntigen) 35 = .ok (.aload_n 0, 1) := by decide +kernel
theorem d_UN_setAntigen_36 : decode (mB M_UN_setAntigen) 36 = .ok (.getfield 39, 3) := by decide +kernel
theorem d_UN_setAntigen_39 : decode (mB M_UN_setAntigen) 39 = .ok (.iload_n 3, 1) := by decide +kernel
theorem d_UN_setAntigen_40 : decode (mB M_UN_setAntigen) 40 = .ok (.ior, 1) := by decide +kernel
theorem d_UN_setAntigen_41 : decode (mB M_UN_setAntigen) 41 = .ok (.goto 11, 3) := by decide +kernel
theorem d_UN_setAntigen_44 : decode (mB M_UN_setAntigen) 44 = .ok (.aload_n 0, 1) := by decide +kernel
theorem d_UN_setAntigen_45 : decode (mB M_UN_setAntigen) 45 = .ok (.getfield 39, 3) := by decide +kernel
theorem d_UN_setAntigen_48 : decode (mB M_UN_setAntigen) 48 = .ok (.iload_n 3, 1) := by decide +kernel
theorem d_UN_setAntigen_49 : decode (mB M_UN_setAntigen) 49 = .ok (.iconst (-1), 1) := by decide +kernel
theorem d_UN_setAntigen_50 : decode (mB M_UN_setAntigen) 50 = .ok (.ixor, 1) := by decide +kernel
theorem d_UN_setAntigen_51 : decode (mB M_UN_setAntigen) 51 = .ok (.iand, 1) := by decide +kernel
theorem d_UN_setAntigen_52 : decode (mB M_UN_setAntigen) 52 = .ok (.putfield 39, 3) := by decide +kernel
theorem d_UN_setAntigen_55 : decode (mB M_UN_setAntigen) 55 = .ok (.return_, 1) := by decide +kernel
theorem d_UN_reserveFor_0 : decode (mB M_UN_reserveFor) 0 = .ok (.aload_n 0, 1) := by decide +kernel
theorem d_UN_reserveFor_1 : decode (mB M_UN_reserveFor) 1 = .ok (.iconst 1, 1) := by decide +kernel
theorem d_UN_reserveFor_2 : decode (mB M_UN_reserveFor) 2 = .ok (.putfield 9, 3) := by decide +kernel
theorem d_UN_reserveFor_5 : decode (mB M_UN_reserveFor) 5 = .ok (.aload_n 0, 1) := by decide +kernel
theorem d_UN_reserveFor_6 : decode (mB M_UN_reserveFor) 6 = .ok (.iload_n 1, 1) := by decide +kernel
theorem d_UN_reserveFor_7 : decode (mB M_UN_reserveFor) 7 = .ok (.putfield 15, 3) := by decide +kernel
theorem d_UN_reserveFor_10 : decode (mB M_UN_reserveFor) 10 = .ok (.aload_n 0, 1) := by decide +kernel
theorem d_UN_reserveFor_11 : decode (mB M_UN_reserveFor) 11 = .ok (.iload_n 2, 1) := by decide +kernel
theorem d_UN_reserveFor_12 : decode (mB M_UN_reserveFor) 12 = .ok (.putfield 42, 3) := by decide +kernel
theorem d_UN_reserveFor_15 : decode (mB M_UN_reserveFor) 15 = .ok (.return_, 1) := by decide +kernel
theorem d_UN_endReservationWhenOver_0 : decode (mB M_UN_endReservationWhenOver) 0 = .ok (.aload_n 0, 1) := by decide +kernel
theorem d_UN_endReservationWhenOver_1 : decode (mB M_UN_endReservationWhenOver) 1 = .ok (.getfield 9, 3) := by decide +kernel
theorem d_UN_endReservationWhenOver_4 : decode (mB M_UN_endReservationWhenOver) 4 = .ok (.iconst 1, 1) := by decide +kernel
theorem d_UN_endReservationWhenOver_5 : decode (mB M_UN_endReservationWhenOver) 5 = .ok (.if_icmp .ne 15, 3) := by decide +kernel
theorem d_UN_endReservationWhenOver_8 : decode (mB M_UN_endReservationWhenOver) 8 = .ok (.iload_n 1, 1) := by decide +kernel
theorem d_UN_endReservationWhenOver_9 : decode (mB M_UN_endReservationWhenOver) 9 = .ok (.aload_n 0, 1) := by decide +kernel
theorem d_UN_endReservationWhenOver_10 : decode (mB M_UN_endReservationWhenOver) 10 = .ok (.getfield 42, 3) := by decide +kernel
theorem d_UN_endReservationWhenOver_13 : decode (mB M_UN_endReservationWhenOver) 13 = .ok (.if_icmp .lt 7, 3) := by decide +kernel
theorem d_UN_endReservationWhenOver_16 : decode (mB M_UN_endReservationWhenOver) 16 = .ok (.aload_n 0, 1) := by decide +kernel
theorem d_UN_endReservationWhenOver_17 : decode (mB M_UN_endReservationWhenOver) 17 = .ok (.invokevirtual 45, 3) := by decide +kernel
theorem d_UN_endReservationWhenOver_20 : decode (mB M_UN_endReservationWhenOver) 20 = .ok (.return_, 1) := by decide +kernel
theorem d_UN_store_0 : decode (mB M_UN_store) 0 = .ok (.aload_n 0, 1) := by decide +kernel
theorem d_UN_store_1 : decode (mB M_UN_store) 1 = .ok (.iconst 0, 1) := by decide +kernel
theorem d_UN_store_2 : decode (mB M_UN_store) 2 = .ok (.putfield 9, 3) := by decide +kernel
theorem d_UN_store_5 : decode (mB M_UN_store) 5 = .ok (.aload_n 0, 1) := by decide +kernel
theorem d_UN_store_6 : decode (mB M_UN_store) 6 = .ok (.iconst (-1), 1) := by decide +kernel
theorem d_UN_store_7 : decode (mB M_UN_store) 7 = .ok (.putfield 15, 3) := by decide +kernel
theorem d_UN_store_10 : decode (mB M_UN_store) 10 = .ok (.aload_n 0, 1) := by decide +kernel
theorem d_UN_store_11 : decode (mB M_UN_store) 11 = .ok (.iconst (-1), 1) := by decide +kernel
theorem d_UN_store_12 : decode (mB M_UN_store) 12 = .ok (.putfield 18, 3) := by decide +kernel
theorem d_UN_store_15 : decode (mB M_UN_store) 15 = .ok (.aload_n 0, 1) := by decide +kernel
theorem d_UN_store_16 : decode (mB M_UN_store) 16 = .ok (.iconst 0, 1) := by decide +kernel
theorem d_UN_store_17 : decode (mB M_UN_store) 17 = .ok (.putfield 48, 3) := by decide +kernel
theorem d_UN_store_20 : decode (mB M_UN_store) 20 = .ok (.return_, 1) := by decide +kernel
theorem d_UN_issueTo_0 : decode (mB M_UN_issueTo) 0 = .ok (.aload_n 0, 1) := by decide +kernel
theorem d_UN_issueTo_1 : decode (mB M_UN_issueTo) 1 = .ok (.iconst 2, 1) := by decide +kernel
theorem d_UN_issueTo_2 : decode (mB M_UN_issueTo) 2 = .ok (.putfield 9, 3) := by decide +kernel
theorem d_UN_issueTo_5 : decode (mB M_UN_issueTo) 5 = .ok (.aload_n 0, 1) := by decide +kernel
theorem d_UN_issueTo_6 : decode (mB M_UN_issueTo) 6 = .ok (.iload_n 1, 1) := by decide +kernel
theorem d_UN_issueTo_7 : decode (mB M_UN_issueTo) 7 = .ok (.putfield 15, 3) := by decide +kernel
theorem d_UN_issueTo_10 : decode (mB M_UN_issueTo) 10 = .ok (.aload_n 0, 1) := by decide +kernel
theorem d_UN_issueTo_11 : decode (mB M_UN_issueTo) 11 = .ok (.iload_n 2, 1) := by decide +kernel
theorem d_UN_issueTo_12 : decode (mB M_UN_issueTo) 12 = .ok (.putfield 51, 3) := by decide +kernel
theorem d_UN_issueTo_15 : decode (mB M_UN_issueTo) 15 = .ok (.aload_n 0, 1) := by decide +kernel
theorem d_UN_issueTo_16 : decode (mB M_UN_issueTo) 16 = .ok (.iload_n 3, 1) := by decide +kernel
theorem d_UN_issueTo_17 : decode (mB M_UN_issueTo) 17 = .ok (.putfield 18, 3) := by decide +kernel
theorem d_UN_issueTo_20 : decode (mB M_UN_issueTo) 20 = .ok (.aload_n 0, 1) := by decide +kernel
theorem d_UN_issueTo_21 : decode (mB M_UN_issueTo) 21 = .ok (.iload 4, 2) := by decide +kernel
theorem d_UN_issueTo_23 : decode (mB M_UN_issueTo) 23 = .ok (.putfield 48, 3) := by decide +kernel
theorem d_UN_issueTo_26 : decode (mB M_UN_issueTo) 26 = .ok (.return_, 1) := by decide +kernel
theorem d_UN_throwAway_0 : decode (mB M_UN_throwAway) 0 = .ok (.aload_n 0, 1) := by decide +kernel
theorem d_UN_throwAway_1 : decode (mB M_UN_throwAway) 1 = .ok (.getfield 9, 3) := by decide +kernel
theorem d_UN_throwAway_4 : decode (mB M_UN_throwAway) 4 = .ok (.iconst 1, 1) := by decide +kernel
theorem d_UN_throwAway_5 : decode (mB M_UN_throwAway) 5 = .ok (.if_icmp .ne 8, 3) := by decide +kernel
theorem d_UN_throwAway_8 : decode (mB M_UN_throwAway) 8 = .ok (.aload_n 0, 1) := by decide +kernel
theorem d_UN_throwAway_9 : decode (mB M_UN_throwAway) 9 = .ok (.iconst (-1), 1) := by decide +kernel
theorem d_UN_throwAway_10 : decode (mB M_UN_throwAway) 10 = .ok (.putfield 15, 3) := by decide +kernel
theorem d_UN_throwAway_13 : decode (mB M_UN_throwAway) 13 = .ok (.aload_n 0, 1) := by decide +kernel
theorem d_UN_throwAway_14 : decode (mB M_UN_throwAway) 14 = .ok (.iconst 4, 1) := by decide +kernel
theorem d_UN_throwAway_15 : decode (mB M_UN_throwAway) 15 = .ok (.putfield 9, 3) := by decide +kernel
theorem d_UN_throwAway_18 : decode (mB M_UN_throwAway) 18 = .ok (.aload_n 0, 1) := by decide +kernel
theorem d_UN_throwAway_19 : decode (mB M_UN_throwAway) 19 = .ok (.iload_n 1, 1) := by decide +kernel
theorem d_UN_throwAway_20 : decode (mB M_UN_throwAway) 20 = .ok (.putfield 54, 3) := by decide +kernel
theorem d_UN_throwAway_23 : decode (mB M_UN_throwAway) 23 = .ok (.return_, 1) := by decide +kernel
theorem d_PA_init_0 : decode (mB M_PA_init) 0 = .ok (.aload_n 0, 1) := by decide +kernel
theorem d_PA_init_1 : decode (mB M_PA_init) 1 = .ok (.invokespecial 3, 3) := by decide +kernel
theorem d_PA_init_4 : decode (mB M_PA_init) 4 = .ok (.aload_n 0, 1) := by decide +kernel
theorem d_PA_init_5 : decode (mB M_PA_init) 5 = .ok (.iconst 0, 1) := by decide +kernel
theorem d_PA_init_6 : decode (mB M_PA_init) 6 = .ok (.putfield 9, 3) := by decide +kernel
theorem d_PA_init_9 : decode (mB M_PA_init) 9 = .ok (.aload_n 0, 1) := by decide +kernel
theorem d_PA_init_10 : decode (mB M_PA_init) 10 = .ok (.iconst (-1), 1) := by decide +kernel
theorem d_PA_init_11 : decode (mB M_PA_init) 11 = .ok (.putfield 15, 3) := by decide +kernel
theorem d_PA_init_14 : decode (mB M_PA_init) 14 = .ok (.aload_n 0, 1) := by decide +kernel
theorem d_PA_init_15 : decode (mB M_PA_init) 15 = .ok (.iconst (-1), 1) := by decide +kernel
theorem d_PA_init_16 : decode (mB M_PA_init) 16 = .ok (.putfield 18, 3) := by decide +kernel
theorem d_PA_init_19 : decode (mB M_PA_init) 19 = .ok (.aload_n 0, 1) := by decide +kernel
theorem d_PA_init_20 : decode (mB M_PA_init) 20 = .ok (.bipush 48, 2) := by decide +kernel
theorem d_PA_init_22 : decode (mB M_PA_init) 22 = .ok (.newarray .int, 2) := by decide +kernel
theorem d_PA_init_24 : decode (mB M_PA_init) 24 = .ok (.putfield 21, 3) := by decide +kernel
theorem d_PA_init_27 : decode (mB M_PA_init) 27 = .ok (.iconst 0, 1) := by decide +kernel
theorem d_PA_init_28 : decode (mB M_PA_init) 28 = .ok (.istore_n 1, 1) := by decide +kernel
theorem d_PA_init_29 : decode (mB M_PA_init) 29 = .ok (.iload_n 1, 1) := by decide +kernel
theorem d_PA_init_30 : decode (mB M_PA_init) 30 = .ok (.bipush 48, 2) := by decide +kernel
theorem d_PA_init_32 : decode (mB M_PA_init) 32 = .ok (.if_icmp .ge 16, 3) := by decide +kernel
theorem d_PA_init_35 : decode (mB M_PA_init) 35 = .ok (.aload_n 0, 1) := by decide +kernel
theorem d_PA_init_36 : decode (mB M_PA_init) 36 = .ok (.getfield 21, 3) := by decide +kernel
theorem d_PA_init_39 : decode (mB M_PA_init) 39 = .ok (.iload_n 1, 1) := by decide +kernel
theorem d_PA_init_40 : decode (mB M_PA_init) 40 = .ok (.iconst (-1), 1) := by decide +kernel
theorem d_PA_init_41 : decode (mB M_PA_init) 41 = .ok (.iastore, 1) := by decide +kernel
theorem d_PA_init_42 : decode (mB M_PA_init) 42 = .ok (.iinc 1 1, 3) := by decide +kernel
theorem d_PA_init_45 : decode (mB M_PA_init) 45 = .ok (.goto (-16), 3) := by decide +kernel
theorem d_PA_init_48 : decode (mB M_PA_init) 48 = .ok (.return_, 1) := by decide +kernel
theorem d_PA_takeSample_0 : decode (mB M_PA_takeSample) 0 = .ok (.aload_n 0, 1) := by decide +kernel
theorem d_PA_takeSample_1 : decode (mB M_PA_takeSample) 1 = .ok (.getfield 15, 3) := by decide +kernel
theorem d_PA_takeSample_4 : decode (mB M_PA_takeSample) 4 = .ok (.iconst (-1), 1) := by decide +kernel
theorem d_PA_takeSample_5 : decode (mB M_PA_takeSample) 5 = .ok (.if_icmp .eq 28, 3) := by decide +kernel
theorem d_PA_takeSample_8 : decode (mB M_PA_takeSample) 8 = .ok (.aload_n 0, 1) := by decide +kernel
theorem d_PA_takeSample_9 : decode (mB M_PA_takeSample) 9 = .ok (.aload_n 0, 1) := by decide +kernel
theorem d_PA_takeSample_10 : decode (mB M_PA_takeSample) 10 = .ok (.getfield 15, 3) := by decide +kernel
theorem d_PA_takeSample_13 : decode (mB M_PA_takeSample) 13 = .ok (.iload_n 1, 1) := by decide +kernel
theorem d_PA_takeSample_14 : decode (mB M_PA_takeSample) 14 = .ok (.if_icmp .ne 15, 3) := by decide +kernel
theorem d_PA_takeSample_17 : decode (mB M_PA_takeSample) 17 = .ok (.aload_n 0, 1) := by decide +kernel
theorem d_PA_takeSample_18 : decode (mB M_PA_takeSample) 18 = .ok (.getfield 18, 3) := by decide +kernel
theorem d_PA_takeSample_21 : decode (mB M_PA_takeSample) 21 = .ok (.iload_n 2, 1) := by decide +kernel
theorem d_PA_takeSample_22 : decode (mB M_PA_takeSample) 22 = .ok (.if_icmp .ne 7, 3) := by decide +kernel
theorem d_PA_takeSample_25 : decode (mB M_PA_takeSample) 25 = .ok (.iconst 1, 1) := by decide +kernel
theorem d_PA_takeSample_26 : decode (mB M_PA_takeSample) 26 = .ok (.goto 4, 3) := by decide +kernel
theorem d_PA_takeSample_29 : decode (mB M_PA_takeSample) 29 = .ok (.iconst 2, 1) := by decide +kernel
theorem d_PA_takeSample_30 : decode (mB M_PA_takeSample) 30 = .ok (.putfield 9, 3) := by decide +kernel
theorem d_PA_takeSample_33 : decode (mB M_PA_takeSample) 33 = .ok (.aload_n 0, 1) := by decide +kernel
theorem d_PA_takeSample_34 : decode (mB M_PA_takeSample) 34 = .ok (.iload_n 1, 1) := by decide +kernel
theorem d_PA_takeSample_35 : decode (mB M_PA_takeSample) 35 = .ok (.putfield 15, 3) := by decide +kernel
theorem d_PA_takeSample_38 : decode (mB M_PA_takeSample) 38 = .ok (.aload_n 0, 1) := by decide +kernel
theorem d_PA_takeSample_39 : decode (mB M_PA_takeSample) 39 = .ok (.iload_n 2, 1) := by decide +kernel
theorem d_PA_takeSample_40 : decode (mB M_PA_takeSample) 40 = .ok (.putfield 18, 3) := by decide +kernel
theorem d_PA_takeSample_43 : decode (mB M_PA_takeSample) 43 = .ok (.aload_n 0, 1) := by decide +kernel
theorem d_PA_takeSample_44 : decode (mB M_PA_takeSample) 44 = .ok (.iload_n 3, 1) := by decide +kernel
theorem d_PA_takeSample_45 : decode (mB M_PA_takeSample) 45 = .ok (.putfield 25, 3) := by decide +kernel
theorem d_PA_takeSample_48 : decode (mB M_PA_takeSample) 48 = .ok (.return_, 1) := by decide +kernel
theorem d_PA_confirm_0 : decode (mB M_PA_confirm) 0 = .ok (.aload_n 0, 1) := by decide +kernel
theorem d_PA_confirm_1 : decode (mB M_PA_confirm) 1 = .ok (.iconst 1, 1) := by decide +kernel
theorem d_PA_confirm_2 : decode (mB M_PA_confirm) 2 = .ok (.putfield 9, 3) := by decide +kernel
theorem d_PA_confirm_5 : decode (mB M_PA_confirm) 5 = .ok (.aload_n 0, 1) := by decide +kernel
theorem d_PA_confirm_6 : decode (mB M_PA_confirm) 6 = .ok (.iload_n 1, 1) := by decide +kernel
theorem d_PA_confirm_7 : decode (mB M_PA_confirm) 7 = .ok (.putfield 15, 3) := by decide +kernel
theorem d_PA_confirm_10 : decode (mB M_PA_confirm) 10 = .ok (.aload_n 0, 1) := by decide +kernel
theorem d_PA_confirm_11 : decode (mB M_PA_confirm) 11 = .ok (.iload_n 2, 1) := by decide +kernel
theorem d_PA_confirm_12 : decode (mB M_PA_confirm) 12 = .ok (.putfield 18, 3) := by decide +kernel
theorem d_PA_confirm_15 : decode (mB M_PA_confirm) 15 = .ok (.return_, 1) := by decide +kernel
theorem d_PA_hasFreshSample_0 : decode (mB M_PA_hasFreshSample) 0 = .ok (.aload_n 0, 1) := by decide +kernel
theorem d_PA_hasFreshSample_1 : decode (mB M_PA_hasFreshSample) 1 = .ok (.getfield 15, 3) := by decide +kernel
theorem d_PA_hasFreshSample_4 : decode (mB M_PA_hasFreshSample) 4 = .ok (.iconst (-1), 1) := by decide +kernel
theorem d_PA_hasFreshSample_5 : decode (mB M_PA_hasFreshSample) 5 = .ok (.if_icmp .eq 19, 3) := by decide +kernel
theorem d_PA_hasFreshSample_8 : decode (mB M_PA_hasFreshSample) 8 = .ok (.iload_n 1, 1) := by decide +kernel
theorem d_PA_hasFreshSample_9 : decode (mB M_PA_hasFreshSample) 9 = .ok (.aload_n 0, 1) := by decide +kernel
theorem d_PA_hasFreshSample_10 : decode (mB M_PA_hasFreshSample) 10 = .ok (.getfield 25, 3) := by decide +kernel
theorem d_PA_hasFreshSample_13 : decode (mB M_PA_hasFreshSample) 13 = .ok (.isub, 1) := by decide +kernel
theorem d_PA_hasFreshSample_14 : decode (mB M_PA_hasFreshSample) 14 = .ok (.sipush 4320, 3) := by decide +kernel
theorem d_PA_hasFreshSample_17 : decode (mB M_PA_hasFreshSample) 17 = .ok (.if_icmp .ge 7, 3) := by decide +kernel
theorem d_PA_hasFreshSample_20 : decode (mB M_PA_hasFreshSample) 20 = .ok (.iconst 1, 1) := by decide +kernel
theorem d_PA_hasFreshSample_21 : decode (mB M_PA_hasFreshSample) 21 = .ok (.goto 4, 3) := by decide +kernel
theorem d_PA_hasFreshSample_24 : decode (mB M_PA_hasFreshSample) 24 = .ok (.iconst 0, 1) := by decide +kernel
theorem d_PA_hasFreshSample_25 : decode (mB M_PA_hasFreshSample) 25 = .ok (.ireturn, 1) := by decide +kernel
theorem d_PA_noteCrossmatch_0 : decode (mB M_PA_noteCrossmatch) 0 = .ok (.aload_n 0, 1) := by decide +kernel
theorem d_PA_noteCrossmatch_1 : decode (mB M_PA_noteCrossmatch) 1 = .ok (.getfield 21, 3) := by decide +kernel
theorem d_PA_noteCrossmatch_4 : decode (mB M_PA_noteCrossmatch) 4 = .ok (.iload_n 1, 1) := by decide +kernel
theorem d_PA_noteCrossmatch_5 : decode (mB M_PA_noteCrossmatch) 5 = .ok (.iload_n 2, 1) := by decide +kernel
theorem d_PA_noteCrossmatch_6 : decode (mB M_PA_noteCrossmatch) 6 = .ok (.iastore, 1) := by decide +kernel
theorem d_PA_noteCrossmatch_7 : decode (mB M_PA_noteCrossmatch) 7 = .ok (.return_, 1) := by decide +kernel
theorem d_PA_hasValidCrossmatch_0 : decode (mB M_PA_hasValidCrossmatch) 0 = .ok (.aload_n 0, 1) := by decide +kernel
theorem d_PA_hasValidCrossmatch_1 : decode (mB M_PA_hasValidCrossmatch) 1 = .ok (.getfield 21, 3) := by decide +kernel
theorem d_PA_hasValidCrossmatch_4 : decode (mB M_PA_hasValidCrossmatch) 4 = .ok (.iload_n 1, 1) := by decide +kernel
theorem d_PA_hasValidCrossmatch_5 : decode (mB M_PA_hasValidCrossmatch) 5 = .ok (.iaload, 1) := by decide +kernel
theorem d_PA_hasValidCrossmatch_6 : decode (mB M_PA_hasValidCrossmatch) 6 = .ok (.iconst (-1), 1) := by decide +kernel
theorem d_PA_hasValidCrossmatch_7 : decode (mB M_PA_hasValidCrossmatch) 7 = .ok (.if_icmp .eq 21, 3) := by decide +kernel
theorem d_PA_hasValidCrossmatch_10 : decode (mB M_PA_hasValidCrossmatch) 10 = .ok (.iload_n 2, 1) := by decide +kernel
theorem d_PA_hasValidCrossmatch_11 : decode (mB M_PA_hasValidCrossmatch) 11 = .ok (.aload_n 0, 1) := by decide +kernel
theorem d_PA_hasValidCrossmatch_12 : decode (mB M_PA_hasValidCrossmatch) 12 = .ok (.getfield 21, 3) := by decide +kernel
theorem d_PA_hasValidCrossmatch_15 : decode (mB M_PA_hasValidCrossmatch) 15 = .ok (.iload_n 1, 1) := by decide +kernel
theorem d_PA_hasValidCrossmatch_16 : decode (mB M_PA_hasValidCrossmatch) 16 = .ok (.iaload, 1) := by decide +kernel
theorem d_PA_hasValidCrossmatch_17 : decode (mB M_PA_hasValidCrossmatch) 17 = .ok (.isub, 1) := by decide +kernel
theorem d_PA_hasValidCrossmatch_18 : decode (mB M_PA_hasValidCrossmatch) 18 = .ok (.sipush 4320, 3) := by decide +kernel
theorem d_PA_hasValidCrossmatch_21 : decode (mB M_PA_hasValidCrossmatch) 21 = .ok (.if_icmp .ge 7, 3) := by decide +kernel
theorem d_PA_hasValidCrossmatch_24 : decode (mB M_PA_hasValidCrossmatch) 24 = .ok (.iconst 1, 1) := by decide +kernel
theorem d_PA_hasValidCrossmatch_25 : decode (mB M_PA_hasValidCrossmatch) 25 = .ok (.goto 4, 3) := by decide +kernel
theorem d_PA_hasValidCrossmatch_28 : decode (mB M_PA_hasValidCrossmatch) 28 = .ok (.iconst 0, 1) := by decide +kernel
theorem d_PA_hasValidCrossmatch_29 : decode (mB M_PA_hasValidCrossmatch) 29 = .ok (.ireturn, 1) := by decide +kernel
theorem d_PA_groupOr_0 : decode (mB M_PA_groupOr) 0 = .ok (.aload_n 0, 1) := by decide +kernel
theorem d_PA_groupOr_1 : decode (mB M_PA_groupOr) 1 = .ok (.getfield 9, 3) := by decide +kernel
theorem d_PA_groupOr_4 : decode (mB M_PA_groupOr) 4 = .ok (.iconst 1, 1) := by decide +kernel
theorem d_PA_groupOr_5 : decode (mB M_PA_groupOr) 5 = .ok (.if_icmp .ne 10, 3) := by decide +kernel
theorem d_PA_groupOr_8 : decode (mB M_PA_groupOr) 8 = .ok (.aload_n 0, 1) := by decide +kernel
theorem d_PA_groupOr_9 : decode (mB M_PA_groupOr) 9 = .ok (.getfield 15, 3) := by decide +kernel
theorem d_PA_groupOr_12 : decode (mB M_PA_groupOr) 12 = .ok (.goto 4, 3) := by decide +kernel
theorem d_PA_groupOr_15 : decode (mB M_PA_groupOr) 15 = .ok (.iload_n 1, 1) := by decide +kernel
theorem d_PA_groupOr_16 : decode (mB M_PA_groupOr) 16 = .ok (.ireturn, 1) := by decide +kernel
theorem d_PA_isConfirmedWithRhesus_0 : decode (mB M_PA_isConfirmedWithRhesus) 0 = .ok (.aload_n 0, 1) := by decide +kernel
theorem d_PA_isConfirmedWithRhesus_1 : decode (mB M_PA_isConfirmedWithRhesus) 1 = .ok (.getfield 9, 3) := by decide +kernel
theorem d_PA_isConfirmedWithRhesus_4 : decode (mB M_PA_isConfirmedWithRhesus) 4 = .ok (.iconst 1, 1) := by decide +kernel
theorem d_PA_isConfirmedWithRhesus_5 : decode (mB M_PA_isConfirmedWithRhesus) 5 = .ok (.if_icmp .ne 15, 3) := by decide +kernel
theorem d_PA_isConfirmedWithRhesus_8 : decode (mB M_PA_isConfirmedWithRhesus) 8 = .ok (.aload_n 0, 1) := by decide +kernel
theorem d_PA_isConfirmedWithRhesus_9 : decode (mB M_PA_isConfirmedWithRhesus) 9 = .ok (.getfield 18, 3) := by decide +kernel
theorem d_PA_isConfirmedWithRhesus_12 : decode (mB M_PA_isConfirmedWithRhesus) 12 = .ok (.iconst 1, 1) := by decide +kernel
theorem d_PA_isConfirmedWithRhesus_13 : decode (mB M_PA_isConfirmedWithRhesus) 13 = .ok (.if_icmp .ne 7, 3) := by decide +kernel
theorem d_PA_isConfirmedWithRhesus_16 : decode (mB M_PA_isConfirmedWithRhesus) 16 = .ok (.iconst 1, 1) := by decide +kernel
theorem d_PA_isConfirmedWithRhesus_17 : decode (mB M_PA_isConfirmedWithRhesus) 17 = .ok (.goto 4, 3) := by decide +kernel
theorem d_PA_isConfirmedWithRhesus_20 : decode (mB M_PA_isConfirmedWithRhesus) 20 = .ok (.iconst 0, 1) := by decide +kernel
theorem d_PA_isConfirmedWithRhesus_21 : decode (mB M_PA_isConfirmedWithRhesus) 21 = .ok (.ireturn, 1) := by decide +kernel
theorem d_RU_reason_0 : decode (mB M_RU_reason) 0 = .ok (.aload_n 1, 1) := by decide +kernel
theorem d_RU_reason_1 : decode (mB M_RU_reason) 1 = .ok (.getfield 9, 3) := by decide +kernel
theorem d_RU_reason_4 : decode (mB M_RU_reason) 4 = .ok (.iconst 3, 1) := by decide +kernel
theorem d_RU_reason_5 : decode (mB M_RU_reason) 5 = .ok (.if_icmp .ne 5, 3) := by decide +kernel
theorem d_RU_reason_8 : decode (mB M_RU_reason) 8 = .ok (.iconst 1, 1) := by decide +kernel
theorem d_RU_reason_9 : decode (mB M_RU_reason) 9 = .ok (.ireturn, 1) := by decide +kernel
theorem d_RU_reason_10 : decode (mB M_RU_reason) 10 = .ok (.aload_n 0, 1) := by decide +kernel
theorem d_RU_reason_11 : decode (mB M_RU_reason) 11 = .ok (.aload_n 1, 1) := by decide +kernel
theorem d_RU_reason_12 : decode (mB M_RU_reason) 12 = .ok (.invokestatic 15, 3) := by decide +kernel
theorem d_RU_reason_15 : decode (mB M_RU_reason) 15 = .ok (.ifCond .ne 5, 3) := by decide +kernel
theorem d_RU_reason_18 : decode (mB M_RU_reason) 18 = .ok (.iconst 2, 1) := by decide +kernel
theorem d_RU_reason_19 : decode (mB M_RU_reason) 19 = .ok (.ireturn, 1) := by decide +kernel
theorem d_RU_reason_20 : decode (mB M_RU_reason) 20 = .ok (.aload_n 1, 1) := by decide +kernel
theorem d_RU_reason_21 : decode (mB M_RU_reason) 21 = .ok (.getfield 9, 3) := by decide +kernel
theorem d_RU_reason_24 : decode (mB M_RU_reason) 24 = .ok (.ifCond .ne 36, 3) := by decide +kernel
theorem d_RU_reason_27 : decode (mB M_RU_reason) 27 = .ok (.aload_n 1, 1) := by decide +kernel
theorem d_RU_reason_28 : decode (mB M_RU_reason) 28 = .ok (.getfield 21, 3) := by decide +kernel
theorem d_RU_reason_31 : decode (mB M_RU_reason) 31 = .ok (.iconst 1, 1) := by decide +kernel
theorem d_RU_reason_32 : decode (mB M_RU_reason) 32 = .ok (.if_icmp .ne 12, 3) := by decide +kernel
theorem d_RU_reason_35 : decode (mB M_RU_reason) 35 = .ok (.aload_n 0, 1) := by decide +kernel
theorem d_RU_reason_36 : decode (mB M_RU_reason) 36 = .ok (.invokevirtual 24, 3) := by decide +kernel
theorem d_RU_reason_39 : decode (mB M_RU_reason) 39 = .ok (.ifCond .ne 5, 3) := by decide +kernel
theorem d_RU_reason_42 : decode (mB M_RU_reason) 42 = .ok (.iconst 3, 1) := by decide +kernel
theorem d_RU_reason_43 : decode (mB M_RU_reason) 43 = .ok (.ireturn, 1) := by decide +kernel
theorem d_RU_reason_44 : decode (mB M_RU_reason) 44 = .ok (.aload_n 0, 1) := by decide +kernel
theorem d_RU_reason_45 : decode (mB M_RU_reason) 45 = .ok (.getfield 30, 3) := by decide +kernel
theorem d_RU_reason_48 : decode (mB M_RU_reason) 48 = .ok (.aload_n 1, 1) := by decide +kernel
theorem d_RU_reason_49 : decode (mB M_RU_reason) 49 = .ok (.getfield 33, 3) := by decide +kernel
theorem d_RU_reason_52 : decode (mB M_RU_reason) 52 = .ok (.iconst (-1), 1) := by decide +kernel
theorem d_RU_reason_53 : decode (mB M_RU_reason) 53 = .ok (.ixor, 1) := by decide +kernel
theorem d_RU_reason_54 : decode (mB M_RU_reason) 54 = .ok (.iand, 1) := by decide +kernel
theorem d_RU_reason_55 : decode (mB M_RU_reason) 55 = .ok (.ifCond .eq 5, 3) := by decide +kernel
theorem d_RU_reason_58 : decode (mB M_RU_reason) 58 = .ok (.iconst 4, 1) := by decide +kernel
theorem d_RU_reason_59 : decode (mB M_RU_reason) 59 = .ok (.ireturn, 1) := by decide +kernel
theorem d_RU_reason_60 : decode (mB M_RU_reason) 60 = .ok (.aload_n 0, 1) := by decide +kernel
theorem d_RU_reason_61 : decode (mB M_RU_reason) 61 = .ok (.getfield 36, 3) := by decide +kernel
theorem d_RU_reason_64 : decode (mB M_RU_reason) 64 = .ok (.aload_n 1, 1) := by decide +kernel
theorem d_RU_reason_65 : decode (mB M_RU_reason) 65 = .ok (.getfield 39, 3) := by decide +kernel
theorem d_RU_reason_68 : decode (mB M_RU_reason) 68 = .ok (.iconst (-1), 1) := by decide +kernel
theorem d_RU_reason_69 : decode (mB M_RU_reason) 69 = .ok (.ixor, 1) := by decide +kernel
theorem d_RU_reason_70 : decode (mB M_RU_reason) 70 = .ok (.iand, 1) := by decide +kernel
theorem d_RU_reason_71 : decode (mB M_RU_reason) 71 = .ok (.ifCond .eq 7, 3) := by decide +kernel
theorem d_RU_reason_74 : decode (mB M_RU_reason) 74 = .ok (.iconst 5, 1) := by decide +kernel
theorem d_RU_reason_75 : decode (mB M_RU_reason) 75 = .ok (.goto 4, 3) := by decide +kernel
theorem d_RU_reason_78 : decode (mB M_RU_reason) 78 = .ok (.iconst 0, 1) := by decide +kernel
theorem d_RU_reason_79 : decode (mB M_RU_reason) 79 = .ok (.ireturn, 1) := by decide +kernel
theorem d_RU_groupFits_0 : decode (mB M_RU_groupFits) 0 = .ok (.aload_n 1, 1) := by decide +kernel
theorem d_RU_groupFits_1 : decode (mB M_RU_groupFits) 1 = .ok (.getfield 9, 3) := by decide +kernel
theorem d_RU_groupFits_4 : decode (mB M_RU_groupFits) 4 = .ok (.ifCond .ne 24, 3) := by decide +kernel
theorem d_RU_groupFits_7 : decode (mB M_RU_groupFits) 7 = .ok (.aload_n 1, 1) := by decide +kernel
theorem d_RU_groupFits_8 : decode (mB M_RU_groupFits) 8 = .ok (.getfield 42, 3) := by decide +kernel
theorem d_RU_groupFits_11 : decode (mB M_RU_groupFits) 11 = .ok (.aload_n 0, 1) := by decide +kernel
theorem d_RU_groupFits_12 : decode (mB M_RU_groupFits) 12 = .ok (.iconst 0, 1) := by decide +kernel
theorem d_RU_groupFits_13 : decode (mB M_RU_groupFits) 13 = .ok (.invokevirtual 45, 3) := by decide +kernel
theorem d_RU_groupFits_16 : decode (mB M_RU_groupFits) 16 = .ok (.iconst (-1), 1) := by decide +kernel
theorem d_RU_groupFits_17 : decode (mB M_RU_groupFits) 17 = .ok (.ixor, 1) := by decide +kernel
theorem d_RU_groupFits_18 : decode (mB M_RU_groupFits) 18 = .ok (.iand, 1) := by decide +kernel
theorem d_RU_groupFits_19 : decode (mB M_RU_groupFits) 19 = .ok (.ifCond .ne 7, 3) := by decide +kernel
theorem d_RU_groupFits_22 : decode (mB M_RU_groupFits) 22 = .ok (.iconst 1, 1) := by decide +kernel
theorem d_RU_groupFits_23 : decode (mB M_RU_groupFits) 23 = .ok (.goto 4, 3) := by decide +kernel
theorem d_RU_groupFits_26 : decode (mB M_RU_groupFits) 26 = .ok (.iconst 0, 1) := by decide +kernel
theorem d_RU_groupFits_27 : decode (mB M_RU_groupFits) 27 = .ok (.ireturn, 1) := by decide +kernel
theorem d_RU_groupFits_28 : decode (mB M_RU_groupFits) 28 = .ok (.aload_n 0, 1) := by decide +kernel
theorem d_RU_groupFits_29 : decode (mB M_RU_groupFits) 29 = .ok (.iconst 3, 1) := by decide +kernel
theorem d_RU_groupFits_30 : decode (mB M_RU_groupFits) 30 = .ok (.invokevirtual 45, 3) := by decide +kernel
theorem d_RU_groupFits_33 : decode (mB M_RU_groupFits) 33 = .ok (.aload_n 1, 1) := by decide +kernel
theorem d_RU_groupFits_34 : decode (mB M_RU_groupFits) 34 = .ok (.getfield 42, 3) := by decide +kernel
theorem d_RU_groupFits_37 : decode (mB M_RU_groupFits) 37 = .ok (.iconst (-1), 1) := by decide +kernel
theorem d_RU_groupFits_38 : decode (mB M_RU_groupFits) 38 = .ok (.ixor, 1) := by decide +kernel
theorem d_RU_groupFits_39 : decode (mB M_RU_groupFits) 39 = .ok (.iand, 1) := by decide +kernel
theorem d_RU_groupFits_40 : decode (mB M_RU_groupFits) 40 = .ok (.ifCond .ne 7, 3) := by decide +kernel
theorem d_RU_groupFits_43 : decode (mB M_RU_groupFits) 43 = .ok (.iconst 1, 1) := by decide +kernel
theorem d_RU_groupFits_44 : decode (mB M_RU_groupFits) 44 = .ok (.goto 4, 3) := by decide +kernel
theorem d_RU_groupFits_47 : decode (mB M_RU_groupFits) 47 = .ok (.iconst 0, 1) := by decide +kernel
theorem d_RU_groupFits_48 : decode (mB M_RU_groupFits) 48 = .ok (.ireturn, 1) := by decide +kernel
theorem d_RK_init_0 : decode (mB M_RK_init) 0 = .ok (.aload_n 0, 1) := by decide +kernel
theorem d_RK_init_1 : decode (mB M_RK_init) 1 = .ok (.invokespecial 3, 3) := by decide +kernel
theorem d_RK_init_4 : decode (mB M_RK_init) 4 = .ok (.aload_n 0, 1) := by decide +kernel
theorem d_RK_init_5 : decode (mB M_RK_init) 5 = .ok (.iload_n 1, 1) := by decide +kernel
theorem d_RK_init_6 : decode (mB M_RK_init) 6 = .ok (.newarray .int, 2) := by decide +kernel
theorem d_RK_init_8 : decode (mB M_RK_init) 8 = .ok (.putfield 9, 3) := by decide +kernel
theorem d_RK_init_11 : decode (mB M_RK_init) 11 = .ok (.aload_n 0, 1) := by decide +kernel
theorem d_RK_init_12 : decode (mB M_RK_init) 12 = .ok (.iload_n 1, 1) := by decide +kernel
theorem d_RK_init_13 : decode (mB M_RK_init) 13 = .ok (.newarray .int, 2) := by decide +kernel
theorem d_RK_init_15 : decode (mB M_RK_init) 15 = .ok (.putfield 15, 3) := by decide +kernel
theorem d_RK_init_18 : decode (mB M_RK_init) 18 = .ok (.return_, 1) := by decide +kernel
theorem d_RK_empty_0 : decode (mB M_RK_empty) 0 = .ok (.aload_n 0, 1) := by decide +kernel
theorem d_RK_empty_1 : decode (mB M_RK_empty) 1 = .ok (.iconst 0, 1) := by decide +kernel
theorem d_RK_empty_2 : decode (mB M_RK_empty) 2 = .ok (.putfield 18, 3) := by decide +kernel
theorem d_RK_empty_5 : decode (mB M_RK_empty) 5 = .ok (.return_, 1) := by decide +kernel
theorem d_RK_insert_0 : decode (mB M_RK_insert) 0 = .ok (.aload_n 0, 1) := by decide +kernel
theorem d_RK_insert_1 : decode (mB M_RK_insert) 1 = .ok (.getfield 18, 3) := by decide +kernel
theorem d_RK_insert_4 : decode (mB M_RK_insert) 4 = .ok (.aload_n 0, 1) := by decide +kernel
theorem d_RK_insert_5 : decode (mB M_RK_insert) 5 = .ok (.getfield 9, 3) := by decide +kernel
theorem d_RK_insert_8 : decode (mB M_RK_insert) 8 = .ok (.arraylength, 1) := by decide +kernel
theorem d_RK_insert_9 : decode (mB M_RK_insert) 9 = .ok (.if_icmp .lt 4, 3) := by decide +kernel
theorem d_RK_insert_12 : decode (mB M_RK_insert) 12 = .ok (.return_, 1) := by decide +kernel
theorem d_RK_insert_13 : decode (mB M_RK_insert) 13 = .ok (.aload_n 0, 1) := by decide +kernel
theorem d_RK_insert_14 : decode (mB M_RK_insert) 14 = .ok (.getfield 18, 3) := by decide +kernel
theorem d_RK_insert_17 : decode (mB M_RK_insert) 17 = .ok (.istore_n 3, 1) := by decide +kernel
theorem d_RK_insert_18 : decode (mB M_RK_insert) 18 = .ok (.iload_n 3, 1) := by decide +kernel
theorem d_RK_insert_19 : decode (mB M_RK_insert) 19 = .ok (.ifCond .le 49, 3) := by decide +kernel
theorem d_RK_insert_22 : decode (mB M_RK_insert) 22 = .ok (.aload_n 0, 1) := by decide +kernel
theorem d_RK_insert_23 : decode (mB M_RK_insert) 23 = .ok (.getfield 15, 3) := by decide +kernel
theorem d_RK_insert_26 : decode (mB M_RK_insert) 26 = .ok (.iload_n 3, 1) := by decide +kernel
theorem d_RK_insert_27 : decode (mB M_RK_insert) 27 = .ok (.iconst 1, 1) := by decide +kernel
theorem d_RK_insert_28 : decode (mB M_RK_insert) 28 = .ok (.isub, 1) := by decide +kernel
theorem d_RK_insert_29 : decode (mB M_RK_insert) 29 = .ok (.iaload, 1) := by decide +kernel
theorem d_RK_insert_30 : decode (mB M_RK_insert) 30 = .ok (.iload_n 2, 1) := by decide +kernel
theorem d_RK_insert_31 : decode (mB M_RK_insert) 31 = .ok (.if_icmp .le 37, 3) := by decide +kernel
theorem d_RK_insert_34 : decode (mB M_RK_insert) 34 = .ok (.aload_n 0, 1) := by decide +kernel
theorem d_RK_insert_35 : decode (mB M_RK_insert) 35 = .ok (.getfield 9, 3) := by decide +kernel
theorem d_RK_insert_38 : decode (mB M_RK_insert) 38 = .ok (.iload_n 3, 1) := by decide +kernel
theorem d_RK_insert_39 : decode (mB M_RK_insert) 39 = .ok (.aload_n 0, 1) := by decide +kernel
theorem d_RK_insert_40 : decode (mB M_RK_insert) 40 = .ok (.getfield 9, 3) := by decide +kernel
theorem d_RK_insert_43 : decode (mB M_RK_insert) 43 = .ok (.iload_n 3, 1) := by decide +kernel
theorem d_RK_insert_44 : decode (mB M_RK_insert) 44 = .ok (.iconst 1, 1) := by decide +kernel
theorem d_RK_insert_45 : decode (mB M_RK_insert) 45 = .ok (.isub, 1) := by decide +kernel
theorem d_RK_insert_46 : decode (mB M_RK_insert) 46 = .ok (.iaload, 1) := by decide +kernel
theorem d_RK_insert_47 : decode (mB M_RK_insert) 47 = .ok (.iastore, 1) := by decide +kernel
theorem d_RK_insert_48 : decode (mB M_RK_insert) 48 = .ok (.aload_n 0, 1) := by decide +kernel
theorem d_RK_insert_49 : decode (mB M_RK_insert) 49 = .ok (.getfield 15, 3) := by decide +kernel
theorem d_RK_insert_52 : decode (mB M_RK_insert) 52 = .ok (.iload_n 3, 1) := by decide +kernel
theorem d_RK_insert_53 : decode (mB M_RK_insert) 53 = .ok (.aload_n 0, 1) := by decide +kernel
theorem d_RK_insert_54 : decode (mB M_RK_insert) 54 = .ok (.getfield 15, 3) := by decide +kernel
theorem d_RK_insert_57 : decode (mB M_RK_insert) 57 = .ok (.iload_n 3, 1) := by decide +kernel
theorem d_RK_insert_58 : decode (mB M_RK_insert) 58 = .ok (.iconst 1, 1) := by decide +kernel
theorem d_RK_insert_59 : decode (mB M_RK_insert) 59 = .ok (.isub, 1) := by decide +kernel
theorem d_RK_insert_60 : decode (mB M_RK_insert) 60 = .ok (.iaload, 1) := by decide +kernel
theorem d_RK_insert_61 : decode (mB M_RK_insert) 61 = .ok (.iastore, 1) := by decide +kernel
theorem d_RK_insert_62 : decode (mB M_RK_insert) 62 = .ok (.iinc 3 (-1), 3) := by decide +kernel
theorem d_RK_insert_65 : decode (mB M_RK_insert) 65 = .ok (.goto (-47), 3) := by decide +kernel
theorem d_RK_insert_68 : decode (mB M_RK_insert) 68 = .ok (.aload_n 0, 1) := by decide +kernel
theorem d_RK_insert_69 : decode (mB M_RK_insert) 69 = .ok (.getfield 9, 3) := by decide +kernel
theorem d_RK_insert_72 : decode (mB M_RK_insert) 72 = .ok (.iload_n 3, 1) := by decide +kernel
theorem d_RK_insert_73 : decode (mB M_RK_insert) 73 = .ok (.iload_n 1, 1) := by decide +kernel
theorem d_RK_insert_74 : decode (mB M_RK_insert) 74 = .ok (.iastore, 1) := by decide +kernel
theorem d_RK_insert_75 : decode (mB M_RK_insert) 75 = .ok (.aload_n 0, 1) := by decide +kernel
theorem d_RK_insert_76 : decode (mB M_RK_insert) 76 = .ok (.getfield 15, 3) := by decide +kernel
theorem d_RK_insert_79 : decode (mB M_RK_insert) 79 = .ok (.iload_n 3, 1) := by decide +kernel
theorem d_RK_insert_80 : decode (mB M_RK_insert) 80 = .ok (.iload_n 2, 1) := by decide +kernel
theorem d_RK_insert_81 : decode (mB M_RK_insert) 81 = .ok (.iastore, 1) := by decide +kernel
theorem d_RK_insert_82 : decode (mB M_RK_insert) 82 = .ok (.aload_n 0, 1) := by decide +kernel
theorem d_RK_insert_83 : decode (mB M_RK_insert) 83 = .ok (.dup, 1) := by decide +kernel
theorem d_RK_insert_84 : decode (mB M_RK_insert) 84 = .ok (.getfield 18, 3) := by decide +kernel
theorem d_RK_insert_87 : decode (mB M_RK_insert) 87 = .ok (.iconst 1, 1) := by decide +kernel
theorem d_RK_insert_88 : decode (mB M_RK_insert) 88 = .ok (.iadd, 1) := by decide +kernel
theorem d_RK_insert_89 : decode (mB M_RK_insert) 89 = .ok (.putfield 18, 3) := by decide +kernel
theorem d_RK_insert_92 : decode (mB M_RK_insert) 92 = .ok (.return_, 1) := by decide +kernel
theorem d_RK_at_0 : decode (mB M_RK_at) 0 = .ok (.iload_n 1, 1) := by decide +kernel
theorem d_RK_at_1 : decode (mB M_RK_at) 1 = .ok (.ifCond .lt 20, 3) := by decide +kernel
theorem d_RK_at_4 : decode (mB M_RK_at) 4 = .ok (.iload_n 1, 1) := by decide +kernel
theorem d_RK_at_5 : decode (mB M_RK_at) 5 = .ok (.aload_n 0, 1) := by decide +kernel
theorem d_RK_at_6 : decode (mB M_RK_at) 6 = .ok (.getfield 18, 3) := by decide +kernel
theorem d_RK_at_9 : decode (mB M_RK_at) 9 = .ok (.if_icmp .ge 12, 3) := by decide +kernel
theorem d_RK_at_12 : decode (mB M_RK_at) 12 = .ok (.aload_n 0, 1) := by decide +kernel
theorem d_RK_at_13 : decode (mB M_RK_at) 13 = .ok (.getfield 9, 3) := by decide +kernel
theorem d_RK_at_16 : decode (mB M_RK_at) 16 = .ok (.iload_n 1, 1) := by decide +kernel
theorem d_RK_at_17 : decode (mB M_RK_at) 17 = .ok (.iaload, 1) := by decide +kernel
theorem d_RK_at_18 : decode (mB M_RK_at) 18 = .ok (.goto 4, 3) := by decide +kernel
theorem d_RK_at_21 : decode (mB M_RK_at) 21 = .ok (.iconst (-1), 1) := by decide +kernel
theorem d_RK_at_22 : decode (mB M_RK_at) 22 = .ok (.ireturn, 1) := by decide +kernel
theorem d_TB_isBelow_0 : decode (mB M_TB_isBelow) 0 = .ok (.iload_n 0, 1) := by decide +kernel
theorem d_TB_isBelow_1 : decode (mB M_TB_isBelow) 1 = .ok (.ifCond .lt 12, 3) := by decide +kernel
theorem d_TB_isBelow_4 : decode (mB M_TB_isBelow) 4 = .ok (.iload_n 0, 1) := by decide +kernel
theorem d_TB_isBelow_5 : decode (mB M_TB_isBelow) 5 = .ok (.iload_n 1, 1) := by decide +kernel
theorem d_TB_isBelow_6 : decode (mB M_TB_isBelow) 6 = .ok (.if_icmp .ge 7, 3) := by decide +kernel
theorem d_TB_isBelow_9 : decode (mB M_TB_isBelow) 9 = .ok (.iconst 1, 1) := by decide +kernel
theorem d_TB_isBelow_10 : decode (mB M_TB_isBelow) 10 = .ok (.goto 4, 3) := by decide +kernel
theorem d_TB_isBelow_13 : decode (mB M_TB_isBelow) 13 = .ok (.iconst 0, 1) := by decide +kernel
theorem d_TB_isBelow_14 : decode (mB M_TB_isBelow) 14 = .ok (.ireturn, 1) := by decide +kernel
theorem d_TB_isBloodType_0 : decode (mB M_TB_isBloodType) 0 = .ok (.iload_n 0, 1) := by decide +kernel
theorem d_TB_isBloodType_1 : decode (mB M_TB_isBloodType) 1 = .ok (.iconst 4, 1) := by decide +kernel
theorem d_TB_isBloodType_2 : decode (mB M_TB_isBloodType) 2 = .ok (.invokestatic 48, 3) := by decide +kernel
theorem d_TB_isBloodType_5 : decode (mB M_TB_isBloodType) 5 = .ok (.ifCond .eq 15, 3) := by decide +kernel
theorem d_TB_isBloodType_8 : decode (mB M_TB_isBloodType) 8 = .ok (.iload_n 1, 1) := by decide +kernel
theorem d_TB_isBloodType_9 : decode (mB M_TB_isBloodType) 9 = .ok (.iconst 2, 1) := by decide +kernel
theorem d_TB_isBloodType_10 : decode (mB M_TB_isBloodType) 10 = .ok (.invokestatic 48, 3) := by decide +kernel
theorem d_TB_isBloodType_13 : decode (mB M_TB_isBloodType) 13 = .ok (.ifCond .eq 7, 3) := by decide +kernel
theorem d_TB_isBloodType_16 : decode (mB M_TB_isBloodType) 16 = .ok (.iconst 1, 1) := by decide +kernel
theorem d_TB_isBloodType_17 : decode (mB M_TB_isBloodType) 17 = .ok (.goto 4, 3) := by decide +kernel
theorem d_TB_isBloodType_20 : decode (mB M_TB_isBloodType) 20 = .ok (.iconst 0, 1) := by decide +kernel
theorem d_TB_isBloodType_21 : decode (mB M_TB_isBloodType) 21 = .ok (.ireturn, 1) := by decide +kernel
