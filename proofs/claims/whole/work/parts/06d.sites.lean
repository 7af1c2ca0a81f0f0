theorem d_Mo_doneThen_0 : decode m_Mo_doneThen.2.1 0 = .ok (.aload_n 0, 1) := by decide +kernel
theorem d_Mo_doneThen_1 : decode m_Mo_doneThen.2.1 1 = .ok (.aload_n 0, 1) := by decide +kernel
theorem d_Mo_doneThen_2 : decode m_Mo_doneThen.2.1 2 = .ok (.getfield 133, 3) := by decide +kernel
theorem d_Mo_doneThen_5 : decode m_Mo_doneThen.2.1 5 = .ok (.aload_n 0, 1) := by decide +kernel
theorem d_Mo_doneThen_6 : decode m_Mo_doneThen.2.1 6 = .ok (.getfield 130, 3) := by decide +kernel
theorem d_Mo_doneThen_9 : decode m_Mo_doneThen.2.1 9 = .ok (.aload_n 0, 1) := by decide +kernel
theorem d_Mo_doneThen_10 : decode m_Mo_doneThen.2.1 10 = .ok (.getfield 22, 3) := by decide +kernel
theorem d_Mo_doneThen_13 : decode m_Mo_doneThen.2.1 13 = .ok (.iconst 3, 1) := by decide +kernel
theorem d_Mo_doneThen_14 : decode m_Mo_doneThen.2.1 14 = .ok (.iload_n 1, 1) := by decide +kernel
theorem d_Mo_doneThen_15 : decode m_Mo_doneThen.2.1 15 = .ok (.imul, 1) := by decide +kernel
theorem d_Mo_doneThen_16 : decode m_Mo_doneThen.2.1 16 = .ok (.iaload, 1) := by decide +kernel
theorem d_Mo_doneThen_17 : decode m_Mo_doneThen.2.1 17 = .ok (.aload_n 0, 1) := by decide +kernel
theorem d_Mo_doneThen_18 : decode m_Mo_doneThen.2.1 18 = .ok (.getfield 22, 3) := by decide +kernel
theorem d_Mo_doneThen_21 : decode m_Mo_doneThen.2.1 21 = .ok (.iconst 3, 1) := by decide +kernel
theorem d_Mo_doneThen_22 : decode m_Mo_doneThen.2.1 22 = .ok (.iload_n 1, 1) := by decide +kernel
theorem d_Mo_doneThen_23 : decode m_Mo_doneThen.2.1 23 = .ok (.imul, 1) := by decide +kernel
theorem d_Mo_doneThen_24 : decode m_Mo_doneThen.2.1 24 = .ok (.iconst 1, 1) := by decide +kernel
theorem d_Mo_doneThen_25 : decode m_Mo_doneThen.2.1 25 = .ok (.iadd, 1) := by decide +kernel
theorem d_Mo_doneThen_26 : decode m_Mo_doneThen.2.1 26 = .ok (.iaload, 1) := by decide +kernel
theorem d_Mo_doneThen_27 : decode m_Mo_doneThen.2.1 27 = .ok (.invokevirtual 146, 3) := by decide +kernel
set_option maxRecDepth 100000 in
theorem s_Mo_doneThen_27 {G : r_X} {n : Nat} {h : r_HI} {g : r_HR} {z : r_HL} {k : Nat} {v0 v1 v2 v3 : Value} (hp : r_pk k = (0, 12)) (hk : k < n) : r_cl G m_Mo_doneThen m_Mo_doneBy 27 (.ref (G.2.1 + k) :: [v0, v1, v2, v3]) n h g z := r_clV d_Mo_doneThen_27 w_Mo_doneBy (r_in 962 rfl rfl) a_Mo_doneBy (r_inP 20 rfl rfl) n_Mo (by decide +kernel : r_mh m_Mo_doneBy.1 4) hp hk (by decide)
theorem d_Mo_doneThen_30 : decode m_Mo_doneThen.2.1 30 = .ok (.ireturn, 1) := by decide +kernel
theorem d_Mo_awayThen_0 : decode m_Mo_awayThen.2.1 0 = .ok (.aload_n 0, 1) := by decide +kernel
theorem d_Mo_awayThen_1 : decode m_Mo_awayThen.2.1 1 = .ok (.getfield 22, 3) := by decide +kernel
theorem d_Mo_awayThen_4 : decode m_Mo_awayThen.2.1 4 = .ok (.iconst 3, 1) := by decide +kernel
theorem d_Mo_awayThen_5 : decode m_Mo_awayThen.2.1 5 = .ok (.iload_n 1, 1) := by decide +kernel
theorem d_Mo_awayThen_6 : decode m_Mo_awayThen.2.1 6 = .ok (.imul, 1) := by decide +kernel
theorem d_Mo_awayThen_7 : decode m_Mo_awayThen.2.1 7 = .ok (.iaload, 1) := by decide +kernel
theorem d_Mo_awayThen_8 : decode m_Mo_awayThen.2.1 8 = .ok (.aload_n 0, 1) := by decide +kernel
theorem d_Mo_awayThen_9 : decode m_Mo_awayThen.2.1 9 = .ok (.getfield 133, 3) := by decide +kernel
theorem d_Mo_awayThen_12 : decode m_Mo_awayThen.2.1 12 = .ok (.isub, 1) := by decide +kernel
theorem d_Mo_awayThen_13 : decode m_Mo_awayThen.2.1 13 = .ok (.istore_n 3, 1) := by decide +kernel
theorem d_Mo_awayThen_14 : decode m_Mo_awayThen.2.1 14 = .ok (.iload_n 2, 1) := by decide +kernel
theorem d_Mo_awayThen_15 : decode m_Mo_awayThen.2.1 15 = .ok (.ifCond .ne 17, 3) := by decide +kernel
theorem d_Mo_awayThen_18 : decode m_Mo_awayThen.2.1 18 = .ok (.iload_n 3, 1) := by decide +kernel
theorem d_Mo_awayThen_19 : decode m_Mo_awayThen.2.1 19 = .ok (.ifCond .ge 9, 3) := by decide +kernel
theorem d_Mo_awayThen_22 : decode m_Mo_awayThen.2.1 22 = .ok (.iconst 0, 1) := by decide +kernel
theorem d_Mo_awayThen_23 : decode m_Mo_awayThen.2.1 23 = .ok (.iload_n 3, 1) := by decide +kernel
theorem d_Mo_awayThen_24 : decode m_Mo_awayThen.2.1 24 = .ok (.isub, 1) := by decide +kernel
theorem d_Mo_awayThen_25 : decode m_Mo_awayThen.2.1 25 = .ok (.goto 20, 3) := by decide +kernel
theorem d_Mo_awayThen_28 : decode m_Mo_awayThen.2.1 28 = .ok (.iload_n 3, 1) := by decide +kernel
theorem d_Mo_awayThen_29 : decode m_Mo_awayThen.2.1 29 = .ok (.goto 16, 3) := by decide +kernel
theorem d_Mo_awayThen_32 : decode m_Mo_awayThen.2.1 32 = .ok (.iload_n 2, 1) := by decide +kernel
theorem d_Mo_awayThen_33 : decode m_Mo_awayThen.2.1 33 = .ok (.iload_n 3, 1) := by decide +kernel
theorem d_Mo_awayThen_34 : decode m_Mo_awayThen.2.1 34 = .ok (.imul, 1) := by decide +kernel
theorem d_Mo_awayThen_35 : decode m_Mo_awayThen.2.1 35 = .ok (.ifCond .ge 7, 3) := by decide +kernel
theorem d_Mo_awayThen_38 : decode m_Mo_awayThen.2.1 38 = .ok (.iconst (-1), 1) := by decide +kernel
theorem d_Mo_awayThen_39 : decode m_Mo_awayThen.2.1 39 = .ok (.goto 6, 3) := by decide +kernel
theorem d_Mo_awayThen_42 : decode m_Mo_awayThen.2.1 42 = .ok (.iload_n 2, 1) := by decide +kernel
theorem d_Mo_awayThen_43 : decode m_Mo_awayThen.2.1 43 = .ok (.iload_n 3, 1) := by decide +kernel
theorem d_Mo_awayThen_44 : decode m_Mo_awayThen.2.1 44 = .ok (.imul, 1) := by decide +kernel
theorem d_Mo_awayThen_45 : decode m_Mo_awayThen.2.1 45 = .ok (.ireturn, 1) := by decide +kernel
theorem d_Mo_nearestThen_0 : decode m_Mo_nearestThen.2.1 0 = .ok (.iconst (-1), 1) := by decide +kernel
theorem d_Mo_nearestThen_1 : decode m_Mo_nearestThen.2.1 1 = .ok (.istore_n 2, 1) := by decide +kernel
theorem d_Mo_nearestThen_2 : decode m_Mo_nearestThen.2.1 2 = .ok (.bipush 99, 2) := by decide +kernel
theorem d_Mo_nearestThen_4 : decode m_Mo_nearestThen.2.1 4 = .ok (.istore_n 3, 1) := by decide +kernel
theorem d_Mo_nearestThen_5 : decode m_Mo_nearestThen.2.1 5 = .ok (.iconst 0, 1) := by decide +kernel
theorem d_Mo_nearestThen_6 : decode m_Mo_nearestThen.2.1 6 = .ok (.istore 4, 2) := by decide +kernel
theorem d_Mo_nearestThen_8 : decode m_Mo_nearestThen.2.1 8 = .ok (.iload 4, 2) := by decide +kernel
theorem d_Mo_nearestThen_10 : decode m_Mo_nearestThen.2.1 10 = .ok (.aload_n 0, 1) := by decide +kernel
theorem d_Mo_nearestThen_11 : decode m_Mo_nearestThen.2.1 11 = .ok (.getfield 139, 3) := by decide +kernel
theorem d_Mo_nearestThen_14 : decode m_Mo_nearestThen.2.1 14 = .ok (.if_icmp .ge 36, 3) := by decide +kernel
theorem d_Mo_nearestThen_17 : decode m_Mo_nearestThen.2.1 17 = .ok (.aload_n 0, 1) := by decide +kernel
theorem d_Mo_nearestThen_18 : decode m_Mo_nearestThen.2.1 18 = .ok (.iload 4, 2) := by decide +kernel
theorem d_Mo_nearestThen_20 : decode m_Mo_nearestThen.2.1 20 = .ok (.iload_n 1, 1) := by decide +kernel
theorem d_Mo_nearestThen_21 : decode m_Mo_nearestThen.2.1 21 = .ok (.invokevirtual 150, 3) := by decide +kernel
set_option maxRecDepth 100000 in
theorem s_Mo_nearestThen_21 {G : r_X} {n : Nat} {h : r_HI} {g : r_HR} {z : r_HL} {k : Nat} {v0 v1 : Value} (hp : r_pk k = (0, 12)) (hk : k < n) : r_cl G m_Mo_nearestThen m_Mo_awayThen 21 (.ref (G.2.1 + k) :: [v0, v1]) n h g z := r_clV d_Mo_nearestThen_21 w_Mo_awayThen (r_in 991 rfl rfl) a_Mo_awayThen (r_inP 25 rfl rfl) n_Mo (by decide +kernel : r_mh m_Mo_awayThen.1 2) hp hk (by decide)
theorem d_Mo_nearestThen_24 : decode m_Mo_nearestThen.2.1 24 = .ok (.istore 5, 2) := by decide +kernel
theorem d_Mo_nearestThen_26 : decode m_Mo_nearestThen.2.1 26 = .ok (.iload 5, 2) := by decide +kernel
theorem d_Mo_nearestThen_28 : decode m_Mo_nearestThen.2.1 28 = .ok (.iconst (-1), 1) := by decide +kernel
theorem d_Mo_nearestThen_29 : decode m_Mo_nearestThen.2.1 29 = .ok (.if_icmp .eq 15, 3) := by decide +kernel
theorem d_Mo_nearestThen_32 : decode m_Mo_nearestThen.2.1 32 = .ok (.iload 5, 2) := by decide +kernel
theorem d_Mo_nearestThen_34 : decode m_Mo_nearestThen.2.1 34 = .ok (.iload_n 3, 1) := by decide +kernel
theorem d_Mo_nearestThen_35 : decode m_Mo_nearestThen.2.1 35 = .ok (.if_icmp .ge 9, 3) := by decide +kernel
theorem d_Mo_nearestThen_38 : decode m_Mo_nearestThen.2.1 38 = .ok (.iload 4, 2) := by decide +kernel
theorem d_Mo_nearestThen_40 : decode m_Mo_nearestThen.2.1 40 = .ok (.istore_n 2, 1) := by decide +kernel
theorem d_Mo_nearestThen_41 : decode m_Mo_nearestThen.2.1 41 = .ok (.iload 5, 2) := by decide +kernel
theorem d_Mo_nearestThen_43 : decode m_Mo_nearestThen.2.1 43 = .ok (.istore_n 3, 1) := by decide +kernel
theorem d_Mo_nearestThen_44 : decode m_Mo_nearestThen.2.1 44 = .ok (.iinc 4 1, 3) := by decide +kernel
theorem d_Mo_nearestThen_47 : decode m_Mo_nearestThen.2.1 47 = .ok (.goto (-39), 3) := by decide +kernel
theorem d_Mo_nearestThen_50 : decode m_Mo_nearestThen.2.1 50 = .ok (.iload_n 2, 1) := by decide +kernel
theorem d_Mo_nearestThen_51 : decode m_Mo_nearestThen.2.1 51 = .ok (.ireturn, 1) := by decide +kernel
theorem d_Mo_soonestThen_0 : decode m_Mo_soonestThen.2.1 0 = .ok (.iconst (-1), 1) := by decide +kernel
theorem d_Mo_soonestThen_1 : decode m_Mo_soonestThen.2.1 1 = .ok (.istore_n 1, 1) := by decide +kernel
theorem d_Mo_soonestThen_2 : decode m_Mo_soonestThen.2.1 2 = .ok (.iconst 0, 1) := by decide +kernel
theorem d_Mo_soonestThen_3 : decode m_Mo_soonestThen.2.1 3 = .ok (.istore_n 2, 1) := by decide +kernel
theorem d_Mo_soonestThen_4 : decode m_Mo_soonestThen.2.1 4 = .ok (.iload_n 2, 1) := by decide +kernel
theorem d_Mo_soonestThen_5 : decode m_Mo_soonestThen.2.1 5 = .ok (.aload_n 0, 1) := by decide +kernel
theorem d_Mo_soonestThen_6 : decode m_Mo_soonestThen.2.1 6 = .ok (.getfield 139, 3) := by decide +kernel
theorem d_Mo_soonestThen_9 : decode m_Mo_soonestThen.2.1 9 = .ok (.if_icmp .ge 33, 3) := by decide +kernel
theorem d_Mo_soonestThen_12 : decode m_Mo_soonestThen.2.1 12 = .ok (.iload_n 1, 1) := by decide +kernel
theorem d_Mo_soonestThen_13 : decode m_Mo_soonestThen.2.1 13 = .ok (.iconst (-1), 1) := by decide +kernel
theorem d_Mo_soonestThen_14 : decode m_Mo_soonestThen.2.1 14 = .ok (.if_icmp .eq 16, 3) := by decide +kernel
theorem d_Mo_soonestThen_17 : decode m_Mo_soonestThen.2.1 17 = .ok (.aload_n 0, 1) := by decide +kernel
theorem d_Mo_soonestThen_18 : decode m_Mo_soonestThen.2.1 18 = .ok (.iload_n 2, 1) := by decide +kernel
theorem d_Mo_soonestThen_19 : decode m_Mo_soonestThen.2.1 19 = .ok (.invokevirtual 153, 3) := by decide +kernel
set_option maxRecDepth 100000 in
theorem s_Mo_soonestThen_19 {G : r_X} {n : Nat} {h : r_HI} {g : r_HR} {z : r_HL} {k : Nat} {v0 : Value} (hp : r_pk k = (0, 12)) (hk : k < n) : r_cl G m_Mo_soonestThen m_Mo_doneThen 19 (.ref (G.2.1 + k) :: [v0]) n h g z := r_clV d_Mo_soonestThen_19 w_Mo_doneThen (r_in 958 rfl rfl) a_Mo_doneThen (r_inP 19 rfl rfl) n_Mo (by decide +kernel : r_mh m_Mo_doneThen.1 1) hp hk (by decide)
theorem d_Mo_soonestThen_22 : decode m_Mo_soonestThen.2.1 22 = .ok (.aload_n 0, 1) := by decide +kernel
theorem d_Mo_soonestThen_23 : decode m_Mo_soonestThen.2.1 23 = .ok (.iload_n 1, 1) := by decide +kernel
theorem d_Mo_soonestThen_24 : decode m_Mo_soonestThen.2.1 24 = .ok (.invokevirtual 153, 3) := by decide +kernel
set_option maxRecDepth 100000 in
theorem s_Mo_soonestThen_24 {G : r_X} {n : Nat} {h : r_HI} {g : r_HR} {z : r_HL} {k : Nat} {v0 : Value} (hp : r_pk k = (0, 12)) (hk : k < n) : r_cl G m_Mo_soonestThen m_Mo_doneThen 24 (.ref (G.2.1 + k) :: [v0]) n h g z := r_clV d_Mo_soonestThen_24 w_Mo_doneThen (r_in 958 rfl rfl) a_Mo_doneThen (r_inP 19 rfl rfl) n_Mo (by decide +kernel : r_mh m_Mo_doneThen.1 1) hp hk (by decide)
theorem d_Mo_soonestThen_27 : decode m_Mo_soonestThen.2.1 27 = .ok (.if_icmp .ge 7, 3) := by decide +kernel
theorem d_Mo_soonestThen_30 : decode m_Mo_soonestThen.2.1 30 = .ok (.iload_n 2, 1) := by decide +kernel
theorem d_Mo_soonestThen_31 : decode m_Mo_soonestThen.2.1 31 = .ok (.goto 4, 3) := by decide +kernel
theorem d_Mo_soonestThen_34 : decode m_Mo_soonestThen.2.1 34 = .ok (.iload_n 1, 1) := by decide +kernel
theorem d_Mo_soonestThen_35 : decode m_Mo_soonestThen.2.1 35 = .ok (.istore_n 1, 1) := by decide +kernel
theorem d_Mo_soonestThen_36 : decode m_Mo_soonestThen.2.1 36 = .ok (.iinc 2 1, 3) := by decide +kernel
theorem d_Mo_soonestThen_39 : decode m_Mo_soonestThen.2.1 39 = .ok (.goto (-35), 3) := by decide +kernel
theorem d_Mo_soonestThen_42 : decode m_Mo_soonestThen.2.1 42 = .ok (.iload_n 1, 1) := by decide +kernel
theorem d_Mo_soonestThen_43 : decode m_Mo_soonestThen.2.1 43 = .ok (.ireturn, 1) := by decide +kernel
theorem d_Mo_outermostThen_0 : decode m_Mo_outermostThen.2.1 0 = .ok (.iconst (-1), 1) := by decide +kernel
theorem d_Mo_outermostThen_1 : decode m_Mo_outermostThen.2.1 1 = .ok (.istore_n 1, 1) := by decide +kernel
theorem d_Mo_outermostThen_2 : decode m_Mo_outermostThen.2.1 2 = .ok (.iconst 0, 1) := by decide +kernel
theorem d_Mo_outermostThen_3 : decode m_Mo_outermostThen.2.1 3 = .ok (.istore_n 2, 1) := by decide +kernel
theorem d_Mo_outermostThen_4 : decode m_Mo_outermostThen.2.1 4 = .ok (.iload_n 2, 1) := by decide +kernel
theorem d_Mo_outermostThen_5 : decode m_Mo_outermostThen.2.1 5 = .ok (.aload_n 0, 1) := by decide +kernel
theorem d_Mo_outermostThen_6 : decode m_Mo_outermostThen.2.1 6 = .ok (.getfield 139, 3) := by decide +kernel
theorem d_Mo_outermostThen_9 : decode m_Mo_outermostThen.2.1 9 = .ok (.if_icmp .ge 39, 3) := by decide +kernel
theorem d_Mo_outermostThen_12 : decode m_Mo_outermostThen.2.1 12 = .ok (.iload_n 1, 1) := by decide +kernel
theorem d_Mo_outermostThen_13 : decode m_Mo_outermostThen.2.1 13 = .ok (.iconst (-1), 1) := by decide +kernel
theorem d_Mo_outermostThen_14 : decode m_Mo_outermostThen.2.1 14 = .ok (.if_icmp .eq 22, 3) := by decide +kernel
theorem d_Mo_outermostThen_17 : decode m_Mo_outermostThen.2.1 17 = .ok (.aload_n 0, 1) := by decide +kernel
theorem d_Mo_outermostThen_18 : decode m_Mo_outermostThen.2.1 18 = .ok (.getfield 22, 3) := by decide +kernel
theorem d_Mo_outermostThen_21 : decode m_Mo_outermostThen.2.1 21 = .ok (.iconst 3, 1) := by decide +kernel
theorem d_Mo_outermostThen_22 : decode m_Mo_outermostThen.2.1 22 = .ok (.iload_n 2, 1) := by decide +kernel
theorem d_Mo_outermostThen_23 : decode m_Mo_outermostThen.2.1 23 = .ok (.imul, 1) := by decide +kernel
theorem d_Mo_outermostThen_24 : decode m_Mo_outermostThen.2.1 24 = .ok (.iaload, 1) := by decide +kernel
theorem d_Mo_outermostThen_25 : decode m_Mo_outermostThen.2.1 25 = .ok (.aload_n 0, 1) := by decide +kernel
theorem d_Mo_outermostThen_26 : decode m_Mo_outermostThen.2.1 26 = .ok (.getfield 22, 3) := by decide +kernel
theorem d_Mo_outermostThen_29 : decode m_Mo_outermostThen.2.1 29 = .ok (.iconst 3, 1) := by decide +kernel
theorem d_Mo_outermostThen_30 : decode m_Mo_outermostThen.2.1 30 = .ok (.iload_n 1, 1) := by decide +kernel
theorem d_Mo_outermostThen_31 : decode m_Mo_outermostThen.2.1 31 = .ok (.imul, 1) := by decide +kernel
theorem d_Mo_outermostThen_32 : decode m_Mo_outermostThen.2.1 32 = .ok (.iaload, 1) := by decide +kernel
theorem d_Mo_outermostThen_33 : decode m_Mo_outermostThen.2.1 33 = .ok (.if_icmp .ge 7, 3) := by decide +kernel
theorem d_Mo_outermostThen_36 : decode m_Mo_outermostThen.2.1 36 = .ok (.iload_n 2, 1) := by decide +kernel
theorem d_Mo_outermostThen_37 : decode m_Mo_outermostThen.2.1 37 = .ok (.goto 4, 3) := by decide +kernel
theorem d_Mo_outermostThen_40 : decode m_Mo_outermostThen.2.1 40 = .ok (.iload_n 1, 1) := by decide +kernel
theorem d_Mo_outermostThen_41 : decode m_Mo_outermostThen.2.1 41 = .ok (.istore_n 1, 1) := by decide +kernel
theorem d_Mo_outermostThen_42 : decode m_Mo_outermostThen.2.1 42 = .ok (.iinc 2 1, 3) := by decide +kernel
theorem d_Mo_outermostThen_45 : decode m_Mo_outermostThen.2.1 45 = .ok (.goto (-41), 3) := by decide +kernel
theorem d_Mo_outermostThen_48 : decode m_Mo_outermostThen.2.1 48 = .ok (.iload_n 1, 1) := by decide +kernel
theorem d_Mo_outermostThen_49 : decode m_Mo_outermostThen.2.1 49 = .ok (.ireturn, 1) := by decide +kernel
theorem d_Mo_nextThen_0 : decode m_Mo_nextThen.2.1 0 = .ok (.aload_n 0, 1) := by decide +kernel
theorem d_Mo_nextThen_1 : decode m_Mo_nextThen.2.1 1 = .ok (.getfield 139, 3) := by decide +kernel
theorem d_Mo_nextThen_4 : decode m_Mo_nextThen.2.1 4 = .ok (.ifCond .ne 5, 3) := by decide +kernel
theorem d_Mo_nextThen_7 : decode m_Mo_nextThen.2.1 7 = .ok (.iconst (-1), 1) := by decide +kernel
theorem d_Mo_nextThen_8 : decode m_Mo_nextThen.2.1 8 = .ok (.ireturn, 1) := by decide +kernel
theorem d_Mo_nextThen_9 : decode m_Mo_nextThen.2.1 9 = .ok (.iconst (-1), 1) := by decide +kernel
theorem d_Mo_nextThen_10 : decode m_Mo_nextThen.2.1 10 = .ok (.istore_n 2, 1) := by decide +kernel
theorem d_Mo_nextThen_11 : decode m_Mo_nextThen.2.1 11 = .ok (.iload_n 1, 1) := by decide +kernel
theorem d_Mo_nextThen_12 : decode m_Mo_nextThen.2.1 12 = .ok (.tableswitch 116 1 4 #[32, 38, 91, 111], 32) := by decide +kernel
theorem d_Mo_nextThen_44 : decode m_Mo_nextThen.2.1 44 = .ok (.aload_n 0, 1) := by decide +kernel
theorem d_Mo_nextThen_45 : decode m_Mo_nextThen.2.1 45 = .ok (.iconst 0, 1) := by decide +kernel
theorem d_Mo_nextThen_46 : decode m_Mo_nextThen.2.1 46 = .ok (.invokevirtual 156, 3) := by decide +kernel
set_option maxRecDepth 100000 in
theorem s_Mo_nextThen_46 {G : r_X} {n : Nat} {h : r_HI} {g : r_HR} {z : r_HL} {k : Nat} {v0 : Value} (hp : r_pk k = (0, 12)) (hk : k < n) : r_cl G m_Mo_nextThen m_Mo_nearestThen 46 (.ref (G.2.1 + k) :: [v0]) n h g z := r_clV d_Mo_nextThen_46 w_Mo_nearestThen (r_in 987 rfl rfl) a_Mo_nearestThen (r_inP 24 rfl rfl) n_Mo (by decide +kernel : r_mh m_Mo_nearestThen.1 1) hp hk (by decide)
theorem d_Mo_nextThen_49 : decode m_Mo_nextThen.2.1 49 = .ok (.ireturn, 1) := by decide +kernel
theorem d_Mo_nextThen_50 : decode m_Mo_nextThen.2.1 50 = .ok (.aload_n 0, 1) := by decide +kernel
theorem d_Mo_nextThen_51 : decode m_Mo_nextThen.2.1 51 = .ok (.aload_n 0, 1) := by decide +kernel
theorem d_Mo_nextThen_52 : decode m_Mo_nextThen.2.1 52 = .ok (.getfield 136, 3) := by decide +kernel
theorem d_Mo_nextThen_55 : decode m_Mo_nextThen.2.1 55 = .ok (.iconst 1, 1) := by decide +kernel
theorem d_Mo_nextThen_56 : decode m_Mo_nextThen.2.1 56 = .ok (.if_icmp .ne 7, 3) := by decide +kernel
theorem d_Mo_nextThen_59 : decode m_Mo_nextThen.2.1 59 = .ok (.iconst 1, 1) := by decide +kernel
theorem d_Mo_nextThen_60 : decode m_Mo_nextThen.2.1 60 = .ok (.goto 4, 3) := by decide +kernel
theorem d_Mo_nextThen_63 : decode m_Mo_nextThen.2.1 63 = .ok (.iconst (-1), 1) := by decide +kernel
theorem d_Mo_nextThen_64 : decode m_Mo_nextThen.2.1 64 = .ok (.invokevirtual 156, 3) := by decide +kernel
set_option maxRecDepth 100000 in
theorem s_Mo_nextThen_64 {G : r_X} {n : Nat} {h : r_HI} {g : r_HR} {z : r_HL} {k : Nat} {v0 : Value} (hp : r_pk k = (0, 12)) (hk : k < n) : r_cl G m_Mo_nextThen m_Mo_nearestThen 64 (.ref (G.2.1 + k) :: [v0]) n h g z := r_clV d_Mo_nextThen_64 w_Mo_nearestThen (r_in 987 rfl rfl) a_Mo_nearestThen (r_inP 24 rfl rfl) n_Mo (by decide +kernel : r_mh m_Mo_nearestThen.1 1) hp hk (by decide)
theorem d_Mo_nextThen_67 : decode m_Mo_nextThen.2.1 67 = .ok (.istore_n 2, 1) := by decide +kernel
theorem d_Mo_nextThen_68 : decode m_Mo_nextThen.2.1 68 = .ok (.iload_n 2, 1) := by decide +kernel
theorem d_Mo_nextThen_69 : decode m_Mo_nextThen.2.1 69 = .ok (.iconst (-1), 1) := by decide +kernel
theorem d_Mo_nextThen_70 : decode m_Mo_nextThen.2.1 70 = .ok (.if_icmp .ne 31, 3) := by decide +kernel
theorem d_Mo_nextThen_73 : decode m_Mo_nextThen.2.1 73 = .ok (.aload_n 0, 1) := by decide +kernel
theorem d_Mo_nextThen_74 : decode m_Mo_nextThen.2.1 74 = .ok (.iconst 1, 1) := by decide +kernel
theorem d_Mo_nextThen_75 : decode m_Mo_nextThen.2.1 75 = .ok (.aload_n 0, 1) := by decide +kernel
theorem d_Mo_nextThen_76 : decode m_Mo_nextThen.2.1 76 = .ok (.getfield 136, 3) := by decide +kernel
theorem d_Mo_nextThen_79 : decode m_Mo_nextThen.2.1 79 = .ok (.isub, 1) := by decide +kernel
theorem d_Mo_nextThen_80 : decode m_Mo_nextThen.2.1 80 = .ok (.putfield 136, 3) := by decide +kernel
theorem d_Mo_nextThen_83 : decode m_Mo_nextThen.2.1 83 = .ok (.aload_n 0, 1) := by decide +kernel
theorem d_Mo_nextThen_84 : decode m_Mo_nextThen.2.1 84 = .ok (.aload_n 0, 1) := by decide +kernel
theorem d_Mo_nextThen_85 : decode m_Mo_nextThen.2.1 85 = .ok (.getfield 136, 3) := by decide +kernel
theorem d_Mo_nextThen_88 : decode m_Mo_nextThen.2.1 88 = .ok (.iconst 1, 1) := by decide +kernel
theorem d_Mo_nextThen_89 : decode m_Mo_nextThen.2.1 89 = .ok (.if_icmp .ne 7, 3) := by decide +kernel
theorem d_Mo_nextThen_92 : decode m_Mo_nextThen.2.1 92 = .ok (.iconst 1, 1) := by decide +kernel
theorem d_Mo_nextThen_93 : decode m_Mo_nextThen.2.1 93 = .ok (.goto 4, 3) := by decide +kernel
theorem d_Mo_nextThen_96 : decode m_Mo_nextThen.2.1 96 = .ok (.iconst (-1), 1) := by decide +kernel
theorem d_Mo_nextThen_97 : decode m_Mo_nextThen.2.1 97 = .ok (.invokevirtual 156, 3) := by decide +kernel
set_option maxRecDepth 100000 in
theorem s_Mo_nextThen_97 {G : r_X} {n : Nat} {h : r_HI} {g : r_HR} {z : r_HL} {k : Nat} {v0 : Value} (hp : r_pk k = (0, 12)) (hk : k < n) : r_cl G m_Mo_nextThen m_Mo_nearestThen 97 (.ref (G.2.1 + k) :: [v0]) n h g z := r_clV d_Mo_nextThen_97 w_Mo_nearestThen (r_in 987 rfl rfl) a_Mo_nearestThen (r_inP 24 rfl rfl) n_Mo (by decide +kernel : r_mh m_Mo_nearestThen.1 1) hp hk (by decide)
theorem d_Mo_nextThen_100 : decode m_Mo_nextThen.2.1 100 = .ok (.istore_n 2, 1) := by decide +kernel
theorem d_Mo_nextThen_101 : decode m_Mo_nextThen.2.1 101 = .ok (.iload_n 2, 1) := by decide +kernel
theorem d_Mo_nextThen_102 : decode m_Mo_nextThen.2.1 102 = .ok (.ireturn, 1) := by decide +kernel
theorem d_Mo_nextThen_103 : decode m_Mo_nextThen.2.1 103 = .ok (.aload_n 0, 1) := by decide +kernel
theorem d_Mo_nextThen_104 : decode m_Mo_nextThen.2.1 104 = .ok (.iconst 1, 1) := by decide +kernel
theorem d_Mo_nextThen_105 : decode m_Mo_nextThen.2.1 105 = .ok (.invokevirtual 156, 3) := by decide +kernel
set_option maxRecDepth 100000 in
theorem s_Mo_nextThen_105 {G : r_X} {n : Nat} {h : r_HI} {g : r_HR} {z : r_HL} {k : Nat} {v0 : Value} (hp : r_pk k = (0, 12)) (hk : k < n) : r_cl G m_Mo_nextThen m_Mo_nearestThen 105 (.ref (G.2.1 + k) :: [v0]) n h g z := r_clV d_Mo_nextThen_105 w_Mo_nearestThen (r_in 987 rfl rfl) a_Mo_nearestThen (r_inP 24 rfl rfl) n_Mo (by decide +kernel : r_mh m_Mo_nearestThen.1 1) hp hk (by decide)
theorem d_Mo_nextThen_108 : decode m_Mo_nextThen.2.1 108 = .ok (.istore_n 2, 1) := by decide +kernel
theorem d_Mo_nextThen_109 : decode m_Mo_nextThen.2.1 109 = .ok (.iload_n 2, 1) := by decide +kernel
theorem d_Mo_nextThen_110 : decode m_Mo_nextThen.2.1 110 = .ok (.iconst (-1), 1) := by decide +kernel
theorem d_Mo_nextThen_111 : decode m_Mo_nextThen.2.1 111 = .ok (.if_icmp .ne 10, 3) := by decide +kernel
theorem d_Mo_nextThen_114 : decode m_Mo_nextThen.2.1 114 = .ok (.aload_n 0, 1) := by decide +kernel
theorem d_Mo_nextThen_115 : decode m_Mo_nextThen.2.1 115 = .ok (.invokevirtual 159, 3) := by decide +kernel
set_option maxRecDepth 100000 in
theorem s_Mo_nextThen_115 {G : r_X} {n : Nat} {h : r_HI} {g : r_HR} {z : r_HL} {k : Nat} (hp : r_pk k = (0, 12)) (hk : k < n) : r_cl G m_Mo_nextThen m_Mo_outermostThen 115 (.ref (G.2.1 + k) :: []) n h g z := r_clV d_Mo_nextThen_115 w_Mo_outermostThen (r_in 995 rfl rfl) a_Mo_outermostThen (r_inP 26 rfl rfl) n_Mo (by decide +kernel : r_mh m_Mo_outermostThen.1 0) hp hk (by decide)
theorem d_Mo_nextThen_118 : decode m_Mo_nextThen.2.1 118 = .ok (.goto 4, 3) := by decide +kernel
theorem d_Mo_nextThen_121 : decode m_Mo_nextThen.2.1 121 = .ok (.iload_n 2, 1) := by decide +kernel
theorem d_Mo_nextThen_122 : decode m_Mo_nextThen.2.1 122 = .ok (.ireturn, 1) := by decide +kernel
theorem d_Mo_nextThen_123 : decode m_Mo_nextThen.2.1 123 = .ok (.aload_n 0, 1) := by decide +kernel
theorem d_Mo_nextThen_124 : decode m_Mo_nextThen.2.1 124 = .ok (.invokevirtual 162, 3) := by decide +kernel
set_option maxRecDepth 100000 in
theorem s_Mo_nextThen_124 {G : r_X} {n : Nat} {h : r_HI} {g : r_HR} {z : r_HL} {k : Nat} (hp : r_pk k = (0, 12)) (hk : k < n) : r_cl G m_Mo_nextThen m_Mo_soonestThen 124 (.ref (G.2.1 + k) :: []) n h g z := r_clV d_Mo_nextThen_124 w_Mo_soonestThen (r_in 999 rfl rfl) a_Mo_soonestThen (r_inP 27 rfl rfl) n_Mo (by decide +kernel : r_mh m_Mo_soonestThen.1 0) hp hk (by decide)
theorem d_Mo_nextThen_127 : decode m_Mo_nextThen.2.1 127 = .ok (.ireturn, 1) := by decide +kernel
theorem d_Mo_nextThen_128 : decode m_Mo_nextThen.2.1 128 = .ok (.iconst 0, 1) := by decide +kernel
theorem d_Mo_nextThen_129 : decode m_Mo_nextThen.2.1 129 = .ok (.ireturn, 1) := by decide +kernel
theorem d_Mo_goTo_0 : decode m_Mo_goTo.2.1 0 = .ok (.aload_n 0, 1) := by decide +kernel
theorem d_Mo_goTo_1 : decode m_Mo_goTo.2.1 1 = .ok (.getfield 22, 3) := by decide +kernel
theorem d_Mo_goTo_4 : decode m_Mo_goTo.2.1 4 = .ok (.iconst 3, 1) := by decide +kernel
theorem d_Mo_goTo_5 : decode m_Mo_goTo.2.1 5 = .ok (.iload_n 1, 1) := by decide +kernel
theorem d_Mo_goTo_6 : decode m_Mo_goTo.2.1 6 = .ok (.imul, 1) := by decide +kernel
theorem d_Mo_goTo_7 : decode m_Mo_goTo.2.1 7 = .ok (.iconst 2, 1) := by decide +kernel
theorem d_Mo_goTo_8 : decode m_Mo_goTo.2.1 8 = .ok (.iadd, 1) := by decide +kernel
theorem d_Mo_goTo_9 : decode m_Mo_goTo.2.1 9 = .ok (.iaload, 1) := by decide +kernel
theorem d_Mo_goTo_10 : decode m_Mo_goTo.2.1 10 = .ok (.istore_n 2, 1) := by decide +kernel
theorem d_Mo_goTo_11 : decode m_Mo_goTo.2.1 11 = .ok (.aload_n 0, 1) := by decide +kernel
theorem d_Mo_goTo_12 : decode m_Mo_goTo.2.1 12 = .ok (.aload_n 0, 1) := by decide +kernel
theorem d_Mo_goTo_13 : decode m_Mo_goTo.2.1 13 = .ok (.iload_n 1, 1) := by decide +kernel
theorem d_Mo_goTo_14 : decode m_Mo_goTo.2.1 14 = .ok (.invokevirtual 153, 3) := by decide +kernel
set_option maxRecDepth 100000 in
theorem s_Mo_goTo_14 {G : r_X} {n : Nat} {h : r_HI} {g : r_HR} {z : r_HL} {k : Nat} {v0 : Value} (hp : r_pk k = (0, 12)) (hk : k < n) : r_cl G m_Mo_goTo m_Mo_doneThen 14 (.ref (G.2.1 + k) :: [v0]) n h g z := r_clV d_Mo_goTo_14 w_Mo_doneThen (r_in 958 rfl rfl) a_Mo_doneThen (r_inP 19 rfl rfl) n_Mo (by decide +kernel : r_mh m_Mo_doneThen.1 1) hp hk (by decide)
theorem d_Mo_goTo_17 : decode m_Mo_goTo.2.1 17 = .ok (.putfield 130, 3) := by decide +kernel
theorem d_Mo_goTo_20 : decode m_Mo_goTo.2.1 20 = .ok (.aload_n 0, 1) := by decide +kernel
theorem d_Mo_goTo_21 : decode m_Mo_goTo.2.1 21 = .ok (.aload_n 0, 1) := by decide +kernel
theorem d_Mo_goTo_22 : decode m_Mo_goTo.2.1 22 = .ok (.getfield 22, 3) := by decide +kernel
theorem d_Mo_goTo_25 : decode m_Mo_goTo.2.1 25 = .ok (.iconst 3, 1) := by decide +kernel
theorem d_Mo_goTo_26 : decode m_Mo_goTo.2.1 26 = .ok (.iload_n 1, 1) := by decide +kernel
theorem d_Mo_goTo_27 : decode m_Mo_goTo.2.1 27 = .ok (.imul, 1) := by decide +kernel
theorem d_Mo_goTo_28 : decode m_Mo_goTo.2.1 28 = .ok (.iaload, 1) := by decide +kernel
theorem d_Mo_goTo_29 : decode m_Mo_goTo.2.1 29 = .ok (.putfield 133, 3) := by decide +kernel
theorem d_Mo_goTo_32 : decode m_Mo_goTo.2.1 32 = .ok (.aload_n 0, 1) := by decide +kernel
theorem d_Mo_goTo_33 : decode m_Mo_goTo.2.1 33 = .ok (.dup, 1) := by decide +kernel
theorem d_Mo_goTo_34 : decode m_Mo_goTo.2.1 34 = .ok (.getfield 139, 3) := by decide +kernel
theorem d_Mo_goTo_37 : decode m_Mo_goTo.2.1 37 = .ok (.iconst 1, 1) := by decide +kernel
theorem d_Mo_goTo_38 : decode m_Mo_goTo.2.1 38 = .ok (.isub, 1) := by decide +kernel
theorem d_Mo_goTo_39 : decode m_Mo_goTo.2.1 39 = .ok (.putfield 139, 3) := by decide +kernel
theorem d_Mo_goTo_42 : decode m_Mo_goTo.2.1 42 = .ok (.iconst 3, 1) := by decide +kernel
theorem d_Mo_goTo_43 : decode m_Mo_goTo.2.1 43 = .ok (.iload_n 1, 1) := by decide +kernel
theorem d_Mo_goTo_44 : decode m_Mo_goTo.2.1 44 = .ok (.imul, 1) := by decide +kernel
theorem d_Mo_goTo_45 : decode m_Mo_goTo.2.1 45 = .ok (.istore_n 3, 1) := by decide +kernel
theorem d_Mo_goTo_46 : decode m_Mo_goTo.2.1 46 = .ok (.iload_n 3, 1) := by decide +kernel
theorem d_Mo_goTo_47 : decode m_Mo_goTo.2.1 47 = .ok (.iconst 3, 1) := by decide +kernel
theorem d_Mo_goTo_48 : decode m_Mo_goTo.2.1 48 = .ok (.aload_n 0, 1) := by decide +kernel
theorem d_Mo_goTo_49 : decode m_Mo_goTo.2.1 49 = .ok (.getfield 139, 3) := by decide +kernel
theorem d_Mo_goTo_52 : decode m_Mo_goTo.2.1 52 = .ok (.imul, 1) := by decide +kernel
theorem d_Mo_goTo_53 : decode m_Mo_goTo.2.1 53 = .ok (.if_icmp .ge 23, 3) := by decide +kernel
theorem d_Mo_goTo_56 : decode m_Mo_goTo.2.1 56 = .ok (.aload_n 0, 1) := by decide +kernel
theorem d_Mo_goTo_57 : decode m_Mo_goTo.2.1 57 = .ok (.getfield 22, 3) := by decide +kernel
theorem d_Mo_goTo_60 : decode m_Mo_goTo.2.1 60 = .ok (.iload_n 3, 1) := by decide +kernel
theorem d_Mo_goTo_61 : decode m_Mo_goTo.2.1 61 = .ok (.aload_n 0, 1) := by decide +kernel
theorem d_Mo_goTo_62 : decode m_Mo_goTo.2.1 62 = .ok (.getfield 22, 3) := by decide +kernel
theorem d_Mo_goTo_65 : decode m_Mo_goTo.2.1 65 = .ok (.iload_n 3, 1) := by decide +kernel
theorem d_Mo_goTo_66 : decode m_Mo_goTo.2.1 66 = .ok (.iconst 3, 1) := by decide +kernel
theorem d_Mo_goTo_67 : decode m_Mo_goTo.2.1 67 = .ok (.iadd, 1) := by decide +kernel
theorem d_Mo_goTo_68 : decode m_Mo_goTo.2.1 68 = .ok (.iaload, 1) := by decide +kernel
theorem d_Mo_goTo_69 : decode m_Mo_goTo.2.1 69 = .ok (.iastore, 1) := by decide +kernel
theorem d_Mo_goTo_70 : decode m_Mo_goTo.2.1 70 = .ok (.iinc 3 1, 3) := by decide +kernel
theorem d_Mo_goTo_73 : decode m_Mo_goTo.2.1 73 = .ok (.goto (-27), 3) := by decide +kernel
theorem d_Mo_goTo_76 : decode m_Mo_goTo.2.1 76 = .ok (.aload_n 0, 1) := by decide +kernel
theorem d_Mo_goTo_77 : decode m_Mo_goTo.2.1 77 = .ok (.getfield 130, 3) := by decide +kernel
theorem d_Mo_goTo_80 : decode m_Mo_goTo.2.1 80 = .ok (.iload_n 2, 1) := by decide +kernel
theorem d_Mo_goTo_81 : decode m_Mo_goTo.2.1 81 = .ok (.isub, 1) := by decide +kernel
theorem d_Mo_goTo_82 : decode m_Mo_goTo.2.1 82 = .ok (.ireturn, 1) := by decide +kernel
theorem d_Mo_askThen_0 : decode m_Mo_askThen.2.1 0 = .ok (.aload_n 0, 1) := by decide +kernel
theorem d_Mo_askThen_1 : decode m_Mo_askThen.2.1 1 = .ok (.getfield 22, 3) := by decide +kernel
theorem d_Mo_askThen_4 : decode m_Mo_askThen.2.1 4 = .ok (.iconst 3, 1) := by decide +kernel
theorem d_Mo_askThen_5 : decode m_Mo_askThen.2.1 5 = .ok (.aload_n 0, 1) := by decide +kernel
theorem d_Mo_askThen_6 : decode m_Mo_askThen.2.1 6 = .ok (.getfield 139, 3) := by decide +kernel
theorem d_Mo_askThen_9 : decode m_Mo_askThen.2.1 9 = .ok (.imul, 1) := by decide +kernel
theorem d_Mo_askThen_10 : decode m_Mo_askThen.2.1 10 = .ok (.iload_n 1, 1) := by decide +kernel
theorem d_Mo_askThen_11 : decode m_Mo_askThen.2.1 11 = .ok (.iastore, 1) := by decide +kernel
theorem d_Mo_askThen_12 : decode m_Mo_askThen.2.1 12 = .ok (.aload_n 0, 1) := by decide +kernel
theorem d_Mo_askThen_13 : decode m_Mo_askThen.2.1 13 = .ok (.getfield 22, 3) := by decide +kernel
theorem d_Mo_askThen_16 : decode m_Mo_askThen.2.1 16 = .ok (.iconst 3, 1) := by decide +kernel
theorem d_Mo_askThen_17 : decode m_Mo_askThen.2.1 17 = .ok (.aload_n 0, 1) := by decide +kernel
theorem d_Mo_askThen_18 : decode m_Mo_askThen.2.1 18 = .ok (.getfield 139, 3) := by decide +kernel
theorem d_Mo_askThen_21 : decode m_Mo_askThen.2.1 21 = .ok (.imul, 1) := by decide +kernel
theorem d_Mo_askThen_22 : decode m_Mo_askThen.2.1 22 = .ok (.iconst 1, 1) := by decide +kernel
theorem d_Mo_askThen_23 : decode m_Mo_askThen.2.1 23 = .ok (.iadd, 1) := by decide +kernel
theorem d_Mo_askThen_24 : decode m_Mo_askThen.2.1 24 = .ok (.iload_n 2, 1) := by decide +kernel
theorem d_Mo_askThen_25 : decode m_Mo_askThen.2.1 25 = .ok (.iastore, 1) := by decide +kernel
theorem d_Mo_askThen_26 : decode m_Mo_askThen.2.1 26 = .ok (.aload_n 0, 1) := by decide +kernel
theorem d_Mo_askThen_27 : decode m_Mo_askThen.2.1 27 = .ok (.getfield 22, 3) := by decide +kernel
theorem d_Mo_askThen_30 : decode m_Mo_askThen.2.1 30 = .ok (.iconst 3, 1) := by decide +kernel
theorem d_Mo_askThen_31 : decode m_Mo_askThen.2.1 31 = .ok (.aload_n 0, 1) := by decide +kernel
theorem d_Mo_askThen_32 : decode m_Mo_askThen.2.1 32 = .ok (.getfield 139, 3) := by decide +kernel
theorem d_Mo_askThen_35 : decode m_Mo_askThen.2.1 35 = .ok (.imul, 1) := by decide +kernel
theorem d_Mo_askThen_36 : decode m_Mo_askThen.2.1 36 = .ok (.iconst 2, 1) := by decide +kernel
theorem d_Mo_askThen_37 : decode m_Mo_askThen.2.1 37 = .ok (.iadd, 1) := by decide +kernel
theorem d_Mo_askThen_38 : decode m_Mo_askThen.2.1 38 = .ok (.aload_n 0, 1) := by decide +kernel
theorem d_Mo_askThen_39 : decode m_Mo_askThen.2.1 39 = .ok (.getfield 130, 3) := by decide +kernel
theorem d_Mo_askThen_42 : decode m_Mo_askThen.2.1 42 = .ok (.iastore, 1) := by decide +kernel
theorem d_Mo_askThen_43 : decode m_Mo_askThen.2.1 43 = .ok (.aload_n 0, 1) := by decide +kernel
theorem d_Mo_askThen_44 : decode m_Mo_askThen.2.1 44 = .ok (.dup, 1) := by decide +kernel
theorem d_Mo_askThen_45 : decode m_Mo_askThen.2.1 45 = .ok (.getfield 139, 3) := by decide +kernel
theorem d_Mo_askThen_48 : decode m_Mo_askThen.2.1 48 = .ok (.iconst 1, 1) := by decide +kernel
theorem d_Mo_askThen_49 : decode m_Mo_askThen.2.1 49 = .ok (.iadd, 1) := by decide +kernel
theorem d_Mo_askThen_50 : decode m_Mo_askThen.2.1 50 = .ok (.putfield 139, 3) := by decide +kernel
theorem d_Mo_askThen_53 : decode m_Mo_askThen.2.1 53 = .ok (.aload_n 0, 1) := by decide +kernel
theorem d_Mo_askThen_54 : decode m_Mo_askThen.2.1 54 = .ok (.getfield 139, 3) := by decide +kernel
theorem d_Mo_askThen_57 : decode m_Mo_askThen.2.1 57 = .ok (.ireturn, 1) := by decide +kernel
theorem d_Mo_askedOn_0 : decode m_Mo_askedOn.2.1 0 = .ok (.iconst 0, 1) := by decide +kernel
theorem d_Mo_askedOn_1 : decode m_Mo_askedOn.2.1 1 = .ok (.istore_n 2, 1) := by decide +kernel
theorem d_Mo_askedOn_2 : decode m_Mo_askedOn.2.1 2 = .ok (.iconst 0, 1) := by decide +kernel
theorem d_Mo_askedOn_3 : decode m_Mo_askedOn.2.1 3 = .ok (.istore_n 3, 1) := by decide +kernel
theorem d_Mo_askedOn_4 : decode m_Mo_askedOn.2.1 4 = .ok (.iload_n 3, 1) := by decide +kernel
theorem d_Mo_askedOn_5 : decode m_Mo_askedOn.2.1 5 = .ok (.aload_n 0, 1) := by decide +kernel
theorem d_Mo_askedOn_6 : decode m_Mo_askedOn.2.1 6 = .ok (.getfield 114, 3) := by decide +kernel
theorem d_Mo_askedOn_9 : decode m_Mo_askedOn.2.1 9 = .ok (.if_icmp .ge 31, 3) := by decide +kernel
theorem d_Mo_askedOn_12 : decode m_Mo_askedOn.2.1 12 = .ok (.iload_n 2, 1) := by decide +kernel
theorem d_Mo_askedOn_13 : decode m_Mo_askedOn.2.1 13 = .ok (.aload_n 0, 1) := by decide +kernel
theorem d_Mo_askedOn_14 : decode m_Mo_askedOn.2.1 14 = .ok (.getfield 19, 3) := by decide +kernel
theorem d_Mo_askedOn_17 : decode m_Mo_askedOn.2.1 17 = .ok (.iconst 3, 1) := by decide +kernel
theorem d_Mo_askedOn_18 : decode m_Mo_askedOn.2.1 18 = .ok (.iload_n 3, 1) := by decide +kernel
theorem d_Mo_askedOn_19 : decode m_Mo_askedOn.2.1 19 = .ok (.imul, 1) := by decide +kernel
theorem d_Mo_askedOn_20 : decode m_Mo_askedOn.2.1 20 = .ok (.iaload, 1) := by decide +kernel
theorem d_Mo_askedOn_21 : decode m_Mo_askedOn.2.1 21 = .ok (.iload_n 1, 1) := by decide +kernel
theorem d_Mo_askedOn_22 : decode m_Mo_askedOn.2.1 22 = .ok (.if_icmp .ne 9, 3) := by decide +kernel
theorem d_Mo_askedOn_25 : decode m_Mo_askedOn.2.1 25 = .ok (.iconst 1, 1) := by decide +kernel
theorem d_Mo_askedOn_26 : decode m_Mo_askedOn.2.1 26 = .ok (.iload_n 3, 1) := by decide +kernel
theorem d_Mo_askedOn_27 : decode m_Mo_askedOn.2.1 27 = .ok (.ishl, 1) := by decide +kernel
theorem d_Mo_askedOn_28 : decode m_Mo_askedOn.2.1 28 = .ok (.goto 4, 3) := by decide +kernel
theorem d_Mo_askedOn_31 : decode m_Mo_askedOn.2.1 31 = .ok (.iconst 0, 1) := by decide +kernel
theorem d_Mo_askedOn_32 : decode m_Mo_askedOn.2.1 32 = .ok (.ior, 1) := by decide +kernel
theorem d_Mo_askedOn_33 : decode m_Mo_askedOn.2.1 33 = .ok (.istore_n 2, 1) := by decide +kernel
theorem d_Mo_askedOn_34 : decode m_Mo_askedOn.2.1 34 = .ok (.iinc 3 1, 3) := by decide +kernel
theorem d_Mo_askedOn_37 : decode m_Mo_askedOn.2.1 37 = .ok (.goto (-33), 3) := by decide +kernel
theorem d_Mo_askedOn_40 : decode m_Mo_askedOn.2.1 40 = .ok (.iload_n 2, 1) := by decide +kernel
theorem d_Mo_askedOn_41 : decode m_Mo_askedOn.2.1 41 = .ok (.ireturn, 1) := by decide +kernel
theorem d_Mo_tellRing_0 : decode m_Mo_tellRing.2.1 0 = .ok (.iload_n 2, 1) := by decide +kernel
theorem d_Mo_tellRing_1 : decode m_Mo_tellRing.2.1 1 = .ok (.tableswitch 71 0 4 #[35, 42, 49, 55, 61], 35) := by decide +kernel
theorem d_Mo_tellRing_36 : decode m_Mo_tellRing.2.1 36 = .ok (.aload_n 0, 1) := by decide +kernel
theorem d_Mo_tellRing_37 : decode m_Mo_tellRing.2.1 37 = .ok (.getfield 13, 3) := by decide +kernel
theorem d_Mo_tellRing_40 : decode m_Mo_tellRing.2.1 40 = .ok (.iload_n 1, 1) := by decide +kernel
theorem d_Mo_tellRing_41 : decode m_Mo_tellRing.2.1 41 = .ok (.iaload, 1) := by decide +kernel
theorem d_Mo_tellRing_42 : decode m_Mo_tellRing.2.1 42 = .ok (.ireturn, 1) := by decide +kernel
theorem d_Mo_tellRing_43 : decode m_Mo_tellRing.2.1 43 = .ok (.aload_n 0, 1) := by decide +kernel
theorem d_Mo_tellRing_44 : decode m_Mo_tellRing.2.1 44 = .ok (.getfield 16, 3) := by decide +kernel
theorem d_Mo_tellRing_47 : decode m_Mo_tellRing.2.1 47 = .ok (.iload_n 1, 1) := by decide +kernel
theorem d_Mo_tellRing_48 : decode m_Mo_tellRing.2.1 48 = .ok (.iaload, 1) := by decide +kernel
theorem d_Mo_tellRing_49 : decode m_Mo_tellRing.2.1 49 = .ok (.ireturn, 1) := by decide +kernel
theorem d_Mo_tellRing_50 : decode m_Mo_tellRing.2.1 50 = .ok (.aload_n 0, 1) := by decide +kernel
theorem d_Mo_tellRing_51 : decode m_Mo_tellRing.2.1 51 = .ok (.iload_n 1, 1) := by decide +kernel
theorem d_Mo_tellRing_52 : decode m_Mo_tellRing.2.1 52 = .ok (.invokevirtual 127, 3) := by decide +kernel
set_option maxRecDepth 100000 in
theorem s_Mo_tellRing_52 {G : r_X} {n : Nat} {h : r_HI} {g : r_HR} {z : r_HL} {k : Nat} {v0 : Value} (hp : r_pk k = (0, 12)) (hk : k < n) : r_cl G m_Mo_tellRing m_Mo_lasts 52 (.ref (G.2.1 + k) :: [v0]) n h g z := r_clV d_Mo_tellRing_52 w_Mo_lasts (r_in 930 rfl rfl) a_Mo_lasts (r_inP 14 rfl rfl) n_Mo (by decide +kernel : r_mh m_Mo_lasts.1 1) hp hk (by decide)
theorem d_Mo_tellRing_55 : decode m_Mo_tellRing.2.1 55 = .ok (.ireturn, 1) := by decide +kernel
theorem d_Mo_tellRing_56 : decode m_Mo_tellRing.2.1 56 = .ok (.aload_n 0, 1) := by decide +kernel
theorem d_Mo_tellRing_57 : decode m_Mo_tellRing.2.1 57 = .ok (.iload_n 1, 1) := by decide +kernel
theorem d_Mo_tellRing_58 : decode m_Mo_tellRing.2.1 58 = .ok (.invokevirtual 165, 3) := by decide +kernel
set_option maxRecDepth 100000 in
theorem s_Mo_tellRing_58 {G : r_X} {n : Nat} {h : r_HI} {g : r_HR} {z : r_HL} {k : Nat} {v0 : Value} (hp : r_pk k = (0, 12)) (hk : k < n) : r_cl G m_Mo_tellRing m_Mo_askedOn 58 (.ref (G.2.1 + k) :: [v0]) n h g z := r_clV d_Mo_tellRing_58 w_Mo_askedOn (r_in 934 rfl rfl) a_Mo_askedOn (r_inP 15 rfl rfl) n_Mo (by decide +kernel : r_mh m_Mo_askedOn.1 1) hp hk (by decide)
theorem d_Mo_tellRing_61 : decode m_Mo_tellRing.2.1 61 = .ok (.ireturn, 1) := by decide +kernel
theorem d_Mo_tellRing_62 : decode m_Mo_tellRing.2.1 62 = .ok (.aload_n 0, 1) := by decide +kernel
theorem d_Mo_tellRing_63 : decode m_Mo_tellRing.2.1 63 = .ok (.aload_n 0, 1) := by decide +kernel
theorem d_Mo_tellRing_64 : decode m_Mo_tellRing.2.1 64 = .ok (.getfield 108, 3) := by decide +kernel
theorem d_Mo_tellRing_67 : decode m_Mo_tellRing.2.1 67 = .ok (.iload_n 1, 1) := by decide +kernel
theorem d_Mo_tellRing_68 : decode m_Mo_tellRing.2.1 68 = .ok (.invokevirtual 123, 3) := by decide +kernel
set_option maxRecDepth 100000 in
theorem s_Mo_tellRing_68 {G : r_X} {n : Nat} {h : r_HI} {g : r_HR} {z : r_HL} {k : Nat} {v0 v1 : Value} (hp : r_pk k = (0, 12)) (hk : k < n) : r_cl G m_Mo_tellRing m_Mo_travel 68 (.ref (G.2.1 + k) :: [v0, v1]) n h g z := r_clV d_Mo_tellRing_68 w_Mo_travel (r_in 938 rfl rfl) a_Mo_travel (r_inP 16 rfl rfl) n_Mo (by decide +kernel : r_mh m_Mo_travel.1 2) hp hk (by decide)
theorem d_Mo_tellRing_71 : decode m_Mo_tellRing.2.1 71 = .ok (.ireturn, 1) := by decide +kernel
theorem d_Mo_tellRing_72 : decode m_Mo_tellRing.2.1 72 = .ok (.bipush (-102), 2) := by decide +kernel
theorem d_Mo_tellRing_74 : decode m_Mo_tellRing.2.1 74 = .ok (.ireturn, 1) := by decide +kernel
theorem d_Mo_ring_0 : decode m_Mo_ring.2.1 0 = .ok (.aload_n 0, 1) := by decide +kernel
theorem d_Mo_ring_1 : decode m_Mo_ring.2.1 1 = .ok (.iload_n 1, 1) := by decide +kernel
theorem d_Mo_ring_2 : decode m_Mo_ring.2.1 2 = .ok (.invokevirtual 168, 3) := by decide +kernel
set_option maxRecDepth 100000 in
theorem s_Mo_ring_2 {G : r_X} {n : Nat} {h : r_HI} {g : r_HR} {z : r_HL} {k : Nat} {v0 : Value} (hp : r_pk k = (0, 12)) (hk : k < n) : r_cl G m_Mo_ring m_Mo_isRing 2 (.ref (G.2.1 + k) :: [v0]) n h g z := r_clV d_Mo_ring_2 w_Mo_isRing (r_in 922 rfl rfl) a_Mo_isRing (r_inP 12 rfl rfl) n_Mo (by decide +kernel : r_mh m_Mo_isRing.1 1) hp hk (by decide)
theorem d_Mo_ring_5 : decode m_Mo_ring.2.1 5 = .ok (.ifCond .eq 12, 3) := by decide +kernel
theorem d_Mo_ring_8 : decode m_Mo_ring.2.1 8 = .ok (.aload_n 0, 1) := by decide +kernel
theorem d_Mo_ring_9 : decode m_Mo_ring.2.1 9 = .ok (.iload_n 1, 1) := by decide +kernel
theorem d_Mo_ring_10 : decode m_Mo_ring.2.1 10 = .ok (.iload_n 2, 1) := by decide +kernel
theorem d_Mo_ring_11 : decode m_Mo_ring.2.1 11 = .ok (.invokevirtual 171, 3) := by decide +kernel
set_option maxRecDepth 100000 in
theorem s_Mo_ring_11 {G : r_X} {n : Nat} {h : r_HI} {g : r_HR} {z : r_HL} {k : Nat} {v0 v1 : Value} (hp : r_pk k = (0, 12)) (hk : k < n) : r_cl G m_Mo_ring m_Mo_tellRing 11 (.ref (G.2.1 + k) :: [v0, v1]) n h g z := r_clV d_Mo_ring_11 w_Mo_tellRing (r_in 926 rfl rfl) a_Mo_tellRing (r_inP 13 rfl rfl) n_Mo (by decide +kernel : r_mh m_Mo_tellRing.1 2) hp hk (by decide)
theorem d_Mo_ring_14 : decode m_Mo_ring.2.1 14 = .ok (.goto 5, 3) := by decide +kernel
theorem d_Mo_ring_17 : decode m_Mo_ring.2.1 17 = .ok (.bipush (-101), 2) := by decide +kernel
theorem d_Mo_ring_19 : decode m_Mo_ring.2.1 19 = .ok (.ireturn, 1) := by decide +kernel
theorem d_Mo_tellAsked_0 : decode m_Mo_tellAsked.2.1 0 = .ok (.aload_n 0, 1) := by decide +kernel
theorem d_Mo_tellAsked_1 : decode m_Mo_tellAsked.2.1 1 = .ok (.invokevirtual 174, 3) := by decide +kernel
set_option maxRecDepth 100000 in
theorem s_Mo_tellAsked_1 {G : r_X} {n : Nat} {h : r_HI} {g : r_HR} {z : r_HL} {k : Nat} (hp : r_pk k = (0, 12)) (hk : k < n) : r_cl G m_Mo_tellAsked m_Mo_begin 1 (.ref (G.2.1 + k) :: []) n h g z := r_clV d_Mo_tellAsked_1 w_Mo_begin (r_in 951 rfl rfl) a_Mo_begin (r_inP 18 rfl rfl) n_Mo (by decide +kernel : r_mh m_Mo_begin.1 0) hp hk (by decide)
theorem d_Mo_tellAsked_4 : decode m_Mo_tellAsked.2.1 4 = .ok (.iload_n 2, 1) := by decide +kernel
theorem d_Mo_tellAsked_5 : decode m_Mo_tellAsked.2.1 5 = .ok (.iconst 3, 1) := by decide +kernel
theorem d_Mo_tellAsked_6 : decode m_Mo_tellAsked.2.1 6 = .ok (.if_icmp .ge 16, 3) := by decide +kernel
theorem d_Mo_tellAsked_9 : decode m_Mo_tellAsked.2.1 9 = .ok (.aload_n 0, 1) := by decide +kernel
theorem d_Mo_tellAsked_10 : decode m_Mo_tellAsked.2.1 10 = .ok (.getfield 19, 3) := by decide +kernel
theorem d_Mo_tellAsked_13 : decode m_Mo_tellAsked.2.1 13 = .ok (.iconst 3, 1) := by decide +kernel
theorem d_Mo_tellAsked_14 : decode m_Mo_tellAsked.2.1 14 = .ok (.iload_n 1, 1) := by decide +kernel
theorem d_Mo_tellAsked_15 : decode m_Mo_tellAsked.2.1 15 = .ok (.imul, 1) := by decide +kernel
theorem d_Mo_tellAsked_16 : decode m_Mo_tellAsked.2.1 16 = .ok (.iload_n 2, 1) := by decide +kernel
theorem d_Mo_tellAsked_17 : decode m_Mo_tellAsked.2.1 17 = .ok (.iadd, 1) := by decide +kernel
theorem d_Mo_tellAsked_18 : decode m_Mo_tellAsked.2.1 18 = .ok (.iaload, 1) := by decide +kernel
theorem d_Mo_tellAsked_19 : decode m_Mo_tellAsked.2.1 19 = .ok (.goto 8, 3) := by decide +kernel
theorem d_Mo_tellAsked_22 : decode m_Mo_tellAsked.2.1 22 = .ok (.aload_n 0, 1) := by decide +kernel
theorem d_Mo_tellAsked_23 : decode m_Mo_tellAsked.2.1 23 = .ok (.iload_n 1, 1) := by decide +kernel
theorem d_Mo_tellAsked_24 : decode m_Mo_tellAsked.2.1 24 = .ok (.invokevirtual 153, 3) := by decide +kernel
set_option maxRecDepth 100000 in
theorem s_Mo_tellAsked_24 {G : r_X} {n : Nat} {h : r_HI} {g : r_HR} {z : r_HL} {k : Nat} {v0 : Value} (hp : r_pk k = (0, 12)) (hk : k < n) : r_cl G m_Mo_tellAsked m_Mo_doneThen 24 (.ref (G.2.1 + k) :: [v0]) n h g z := r_clV d_Mo_tellAsked_24 w_Mo_doneThen (r_in 958 rfl rfl) a_Mo_doneThen (r_inP 19 rfl rfl) n_Mo (by decide +kernel : r_mh m_Mo_doneThen.1 1) hp hk (by decide)
theorem d_Mo_tellAsked_27 : decode m_Mo_tellAsked.2.1 27 = .ok (.ireturn, 1) := by decide +kernel
theorem d_Mo_asked_0 : decode m_Mo_asked.2.1 0 = .ok (.iload_n 1, 1) := by decide +kernel
theorem d_Mo_asked_1 : decode m_Mo_asked.2.1 1 = .ok (.i2l, 1) := by decide +kernel
theorem d_Mo_asked_2 : decode m_Mo_asked.2.1 2 = .ok (.lconst 0, 1) := by decide +kernel
theorem d_Mo_asked_3 : decode m_Mo_asked.2.1 3 = .ok (.aload_n 0, 1) := by decide +kernel
theorem d_Mo_asked_4 : decode m_Mo_asked.2.1 4 = .ok (.getfield 114, 3) := by decide +kernel
theorem d_Mo_asked_7 : decode m_Mo_asked.2.1 7 = .ok (.iconst 1, 1) := by decide +kernel
theorem d_Mo_asked_8 : decode m_Mo_asked.2.1 8 = .ok (.isub, 1) := by decide +kernel
theorem d_Mo_asked_9 : decode m_Mo_asked.2.1 9 = .ok (.i2l, 1) := by decide +kernel
theorem d_Mo_asked_10 : decode m_Mo_asked.2.1 10 = .ok (.invokestatic 55, 3) := by decide +kernel
set_option maxRecDepth 100000 in
theorem s_Mo_asked_10 {G : r_X} {n : Nat} {h : r_HI} {g : r_HR} {z : r_HL} {v0 v1 v2 : Value} : r_cl G m_Mo_asked m_Mo_in 10 [v0, v1, v2] n h g z := r_clS d_Mo_asked_10 w_Mo_in (r_in 880 rfl rfl) a_Mo_in n_Mo (by decide +kernel : r_mh m_Mo_in.1 3)
theorem d_Mo_asked_13 : decode m_Mo_asked.2.1 13 = .ok (.ifCond .ne 6, 3) := by decide +kernel
theorem d_Mo_asked_16 : decode m_Mo_asked.2.1 16 = .ok (.bipush (-101), 2) := by decide +kernel
theorem d_Mo_asked_18 : decode m_Mo_asked.2.1 18 = .ok (.ireturn, 1) := by decide +kernel
theorem d_Mo_asked_19 : decode m_Mo_asked.2.1 19 = .ok (.iload_n 2, 1) := by decide +kernel
theorem d_Mo_asked_20 : decode m_Mo_asked.2.1 20 = .ok (.i2l, 1) := by decide +kernel
theorem d_Mo_asked_21 : decode m_Mo_asked.2.1 21 = .ok (.lconst 0, 1) := by decide +kernel
theorem d_Mo_asked_22 : decode m_Mo_asked.2.1 22 = .ok (.ldc2_w 177, 3) := by decide +kernel
theorem d_Mo_asked_25 : decode m_Mo_asked.2.1 25 = .ok (.invokestatic 55, 3) := by decide +kernel
set_option maxRecDepth 100000 in
theorem s_Mo_asked_25 {G : r_X} {n : Nat} {h : r_HI} {g : r_HR} {z : r_HL} {v0 v1 v2 : Value} : r_cl G m_Mo_asked m_Mo_in 25 [v0, v1, v2] n h g z := r_clS d_Mo_asked_25 w_Mo_in (r_in 880 rfl rfl) a_Mo_in n_Mo (by decide +kernel : r_mh m_Mo_in.1 3)
theorem d_Mo_asked_28 : decode m_Mo_asked.2.1 28 = .ok (.ifCond .eq 12, 3) := by decide +kernel
theorem d_Mo_asked_31 : decode m_Mo_asked.2.1 31 = .ok (.aload_n 0, 1) := by decide +kernel
theorem d_Mo_asked_32 : decode m_Mo_asked.2.1 32 = .ok (.iload_n 1, 1) := by decide +kernel
theorem d_Mo_asked_33 : decode m_Mo_asked.2.1 33 = .ok (.iload_n 2, 1) := by decide +kernel
theorem d_Mo_asked_34 : decode m_Mo_asked.2.1 34 = .ok (.invokevirtual 179, 3) := by decide +kernel
set_option maxRecDepth 100000 in
theorem s_Mo_asked_34 {G : r_X} {n : Nat} {h : r_HI} {g : r_HR} {z : r_HL} {k : Nat} {v0 v1 : Value} (hp : r_pk k = (0, 12)) (hk : k < n) : r_cl G m_Mo_asked m_Mo_tellAsked 34 (.ref (G.2.1 + k) :: [v0, v1]) n h g z := r_clV d_Mo_asked_34 w_Mo_tellAsked (r_in 947 rfl rfl) a_Mo_tellAsked (r_inP 17 rfl rfl) n_Mo (by decide +kernel : r_mh m_Mo_tellAsked.1 2) hp hk (by decide)
theorem d_Mo_asked_37 : decode m_Mo_asked.2.1 37 = .ok (.goto 5, 3) := by decide +kernel
theorem d_Mo_asked_40 : decode m_Mo_asked.2.1 40 = .ok (.bipush (-102), 2) := by decide +kernel
theorem d_Mo_asked_42 : decode m_Mo_asked.2.1 42 = .ok (.ireturn, 1) := by decide +kernel
theorem d_Mo_as_0 : decode m_Mo_as.2.1 0 = .ok (.iload_n 1, 1) := by decide +kernel
theorem d_Mo_as_1 : decode m_Mo_as.2.1 1 = .ok (.i2l, 1) := by decide +kernel
theorem d_Mo_as_2 : decode m_Mo_as.2.1 2 = .ok (.lconst 0, 1) := by decide +kernel
theorem d_Mo_as_3 : decode m_Mo_as.2.1 3 = .ok (.ldc2_w 182, 3) := by decide +kernel
theorem d_Mo_as_6 : decode m_Mo_as.2.1 6 = .ok (.invokestatic 55, 3) := by decide +kernel
set_option maxRecDepth 100000 in
theorem s_Mo_as_6 {G : r_X} {n : Nat} {h : r_HI} {g : r_HR} {z : r_HL} {v0 v1 v2 : Value} : r_cl G m_Mo_as m_Mo_in 6 [v0, v1, v2] n h g z := r_clS d_Mo_as_6 w_Mo_in (r_in 880 rfl rfl) a_Mo_in n_Mo (by decide +kernel : r_mh m_Mo_in.1 3)
theorem d_Mo_as_9 : decode m_Mo_as.2.1 9 = .ok (.ifCond .ne 6, 3) := by decide +kernel
theorem d_Mo_as_12 : decode m_Mo_as.2.1 12 = .ok (.bipush (-102), 2) := by decide +kernel
theorem d_Mo_as_14 : decode m_Mo_as.2.1 14 = .ok (.ireturn, 1) := by decide +kernel
theorem d_Mo_as_15 : decode m_Mo_as.2.1 15 = .ok (.aload_n 0, 1) := by decide +kernel
theorem d_Mo_as_16 : decode m_Mo_as.2.1 16 = .ok (.invokevirtual 184, 3) := by decide +kernel
set_option maxRecDepth 100000 in
theorem s_Mo_as_16 {G : r_X} {n : Nat} {h : r_HI} {g : r_HR} {z : r_HL} {k : Nat} (hp : r_pk k = (0, 12)) (hk : k < n) : r_cl G m_Mo_as m_Mo_lacks 16 (.ref (G.2.1 + k) :: []) n h g z := r_clV d_Mo_as_16 w_Mo_lacks (r_in 971 rfl rfl) a_Mo_lacks (r_inP 21 rfl rfl) n_Mo (by decide +kernel : r_mh m_Mo_lacks.1 0) hp hk (by decide)
theorem d_Mo_as_19 : decode m_Mo_as.2.1 19 = .ok (.ifCond .eq 6, 3) := by decide +kernel
theorem d_Mo_as_22 : decode m_Mo_as.2.1 22 = .ok (.bipush (-103), 2) := by decide +kernel
theorem d_Mo_as_24 : decode m_Mo_as.2.1 24 = .ok (.ireturn, 1) := by decide +kernel
theorem d_Mo_as_25 : decode m_Mo_as.2.1 25 = .ok (.iload_n 1, 1) := by decide +kernel
theorem d_Mo_as_26 : decode m_Mo_as.2.1 26 = .ok (.ifCond .eq 37, 3) := by decide +kernel
theorem d_Mo_as_29 : decode m_Mo_as.2.1 29 = .ok (.iload_n 1, 1) := by decide +kernel
theorem d_Mo_as_30 : decode m_Mo_as.2.1 30 = .ok (.aload_n 0, 1) := by decide +kernel
theorem d_Mo_as_31 : decode m_Mo_as.2.1 31 = .ok (.getfield 102, 3) := by decide +kernel
theorem d_Mo_as_34 : decode m_Mo_as.2.1 34 = .ok (.if_icmp .eq 29, 3) := by decide +kernel
theorem d_Mo_as_37 : decode m_Mo_as.2.1 37 = .ok (.iload_n 1, 1) := by decide +kernel
theorem d_Mo_as_38 : decode m_Mo_as.2.1 38 = .ok (.iconst 1, 1) := by decide +kernel
theorem d_Mo_as_39 : decode m_Mo_as.2.1 39 = .ok (.if_icmp .ne 11, 3) := by decide +kernel
theorem d_Mo_as_42 : decode m_Mo_as.2.1 42 = .ok (.aload_n 0, 1) := by decide +kernel
theorem d_Mo_as_43 : decode m_Mo_as.2.1 43 = .ok (.getfield 102, 3) := by decide +kernel
theorem d_Mo_as_46 : decode m_Mo_as.2.1 46 = .ok (.iconst 4, 1) := by decide +kernel
theorem d_Mo_as_47 : decode m_Mo_as.2.1 47 = .ok (.if_icmp .eq 16, 3) := by decide +kernel
theorem d_Mo_as_50 : decode m_Mo_as.2.1 50 = .ok (.iload_n 1, 1) := by decide +kernel
theorem d_Mo_as_51 : decode m_Mo_as.2.1 51 = .ok (.iconst 2, 1) := by decide +kernel
theorem d_Mo_as_52 : decode m_Mo_as.2.1 52 = .ok (.if_icmp .ne 15, 3) := by decide +kernel
theorem d_Mo_as_55 : decode m_Mo_as.2.1 55 = .ok (.aload_n 0, 1) := by decide +kernel
theorem d_Mo_as_56 : decode m_Mo_as.2.1 56 = .ok (.getfield 102, 3) := by decide +kernel
theorem d_Mo_as_59 : decode m_Mo_as.2.1 59 = .ok (.iconst 3, 1) := by decide +kernel
theorem d_Mo_as_60 : decode m_Mo_as.2.1 60 = .ok (.if_icmp .ne 7, 3) := by decide +kernel
theorem d_Mo_as_63 : decode m_Mo_as.2.1 63 = .ok (.iconst 1, 1) := by decide +kernel
theorem d_Mo_as_64 : decode m_Mo_as.2.1 64 = .ok (.goto 4, 3) := by decide +kernel
theorem d_Mo_as_67 : decode m_Mo_as.2.1 67 = .ok (.iconst 0, 1) := by decide +kernel
theorem d_Mo_as_68 : decode m_Mo_as.2.1 68 = .ok (.istore_n 2, 1) := by decide +kernel
theorem d_Mo_as_69 : decode m_Mo_as.2.1 69 = .ok (.iload_n 2, 1) := by decide +kernel
theorem d_Mo_as_70 : decode m_Mo_as.2.1 70 = .ok (.ifCond .eq 10, 3) := by decide +kernel
theorem d_Mo_as_73 : decode m_Mo_as.2.1 73 = .ok (.aload_n 0, 1) := by decide +kernel
theorem d_Mo_as_74 : decode m_Mo_as.2.1 74 = .ok (.getfield 102, 3) := by decide +kernel
theorem d_Mo_as_77 : decode m_Mo_as.2.1 77 = .ok (.goto 4, 3) := by decide +kernel
theorem d_Mo_as_80 : decode m_Mo_as.2.1 80 = .ok (.iconst (-1), 1) := by decide +kernel
theorem d_Mo_as_81 : decode m_Mo_as.2.1 81 = .ok (.ireturn, 1) := by decide +kernel
theorem d_Mo_nextOf_0 : decode m_Mo_nextOf.2.1 0 = .ok (.aload_n 0, 1) := by decide +kernel
theorem d_Mo_nextOf_1 : decode m_Mo_nextOf.2.1 1 = .ok (.invokevirtual 174, 3) := by decide +kernel
set_option maxRecDepth 100000 in
theorem s_Mo_nextOf_1 {G : r_X} {n : Nat} {h : r_HI} {g : r_HR} {z : r_HL} {k : Nat} (hp : r_pk k = (0, 12)) (hk : k < n) : r_cl G m_Mo_nextOf m_Mo_begin 1 (.ref (G.2.1 + k) :: []) n h g z := r_clV d_Mo_nextOf_1 w_Mo_begin (r_in 951 rfl rfl) a_Mo_begin (r_inP 18 rfl rfl) n_Mo (by decide +kernel : r_mh m_Mo_begin.1 0) hp hk (by decide)
theorem d_Mo_nextOf_4 : decode m_Mo_nextOf.2.1 4 = .ok (.aload_n 0, 1) := by decide +kernel
theorem d_Mo_nextOf_5 : decode m_Mo_nextOf.2.1 5 = .ok (.aload_n 0, 1) := by decide +kernel
theorem d_Mo_nextOf_6 : decode m_Mo_nextOf.2.1 6 = .ok (.getfield 102, 3) := by decide +kernel
theorem d_Mo_nextOf_9 : decode m_Mo_nextOf.2.1 9 = .ok (.invokevirtual 188, 3) := by decide +kernel
set_option maxRecDepth 100000 in
theorem s_Mo_nextOf_9 {G : r_X} {n : Nat} {h : r_HI} {g : r_HR} {z : r_HL} {k : Nat} {v0 : Value} (hp : r_pk k = (0, 12)) (hk : k < n) : r_cl G m_Mo_nextOf m_Mo_nextThen 9 (.ref (G.2.1 + k) :: [v0]) n h g z := r_clV d_Mo_nextOf_9 w_Mo_nextThen (r_in 983 rfl rfl) a_Mo_nextThen (r_inP 23 rfl rfl) n_Mo (by decide +kernel : r_mh m_Mo_nextThen.1 1) hp hk (by decide)
theorem d_Mo_nextOf_12 : decode m_Mo_nextOf.2.1 12 = .ok (.ireturn, 1) := by decide +kernel
theorem d_Mo_next_0 : decode m_Mo_next.2.1 0 = .ok (.aload_n 0, 1) := by decide +kernel
theorem d_Mo_next_1 : decode m_Mo_next.2.1 1 = .ok (.invokevirtual 184, 3) := by decide +kernel
set_option maxRecDepth 100000 in
theorem s_Mo_next_1 {G : r_X} {n : Nat} {h : r_HI} {g : r_HR} {z : r_HL} {k : Nat} (hp : r_pk k = (0, 12)) (hk : k < n) : r_cl G m_Mo_next m_Mo_lacks 1 (.ref (G.2.1 + k) :: []) n h g z := r_clV d_Mo_next_1 w_Mo_lacks (r_in 971 rfl rfl) a_Mo_lacks (r_inP 21 rfl rfl) n_Mo (by decide +kernel : r_mh m_Mo_lacks.1 0) hp hk (by decide)
theorem d_Mo_next_4 : decode m_Mo_next.2.1 4 = .ok (.ifCond .eq 8, 3) := by decide +kernel
theorem d_Mo_next_7 : decode m_Mo_next.2.1 7 = .ok (.bipush (-103), 2) := by decide +kernel
theorem d_Mo_next_9 : decode m_Mo_next.2.1 9 = .ok (.goto 7, 3) := by decide +kernel
theorem d_Mo_next_12 : decode m_Mo_next.2.1 12 = .ok (.aload_n 0, 1) := by decide +kernel
theorem d_Mo_next_13 : decode m_Mo_next.2.1 13 = .ok (.invokevirtual 191, 3) := by decide +kernel
set_option maxRecDepth 100000 in
theorem s_Mo_next_13 {G : r_X} {n : Nat} {h : r_HI} {g : r_HR} {z : r_HL} {k : Nat} (hp : r_pk k = (0, 12)) (hk : k < n) : r_cl G m_Mo_next m_Mo_nextOf 13 (.ref (G.2.1 + k) :: []) n h g z := r_clV d_Mo_next_13 w_Mo_nextOf (r_in 979 rfl rfl) a_Mo_nextOf (r_inP 22 rfl rfl) n_Mo (by decide +kernel : r_mh m_Mo_nextOf.1 0) hp hk (by decide)
theorem d_Mo_next_16 : decode m_Mo_next.2.1 16 = .ok (.ireturn, 1) := by decide +kernel
theorem d_Mo_ask_0 : decode m_Mo_ask.2.1 0 = .ok (.aload_n 0, 1) := by decide +kernel
theorem d_Mo_ask_1 : decode m_Mo_ask.2.1 1 = .ok (.iload_n 1, 1) := by decide +kernel
theorem d_Mo_ask_2 : decode m_Mo_ask.2.1 2 = .ok (.invokevirtual 168, 3) := by decide +kernel
set_option maxRecDepth 100000 in
theorem s_Mo_ask_2 {G : r_X} {n : Nat} {h : r_HI} {g : r_HR} {z : r_HL} {k : Nat} {v0 : Value} (hp : r_pk k = (0, 12)) (hk : k < n) : r_cl G m_Mo_ask m_Mo_isRing 2 (.ref (G.2.1 + k) :: [v0]) n h g z := r_clV d_Mo_ask_2 w_Mo_isRing (r_in 922 rfl rfl) a_Mo_isRing (r_inP 12 rfl rfl) n_Mo (by decide +kernel : r_mh m_Mo_isRing.1 1) hp hk (by decide)
theorem d_Mo_ask_5 : decode m_Mo_ask.2.1 5 = .ok (.ifCond .eq 21, 3) := by decide +kernel
theorem d_Mo_ask_8 : decode m_Mo_ask.2.1 8 = .ok (.iload_n 2, 1) := by decide +kernel
theorem d_Mo_ask_9 : decode m_Mo_ask.2.1 9 = .ok (.i2l, 1) := by decide +kernel
theorem d_Mo_ask_10 : decode m_Mo_ask.2.1 10 = .ok (.lconst 0, 1) := by decide +kernel
theorem d_Mo_ask_11 : decode m_Mo_ask.2.1 11 = .ok (.aload_n 0, 1) := by decide +kernel
theorem d_Mo_ask_12 : decode m_Mo_ask.2.1 12 = .ok (.getfield 13, 3) := by decide +kernel
theorem d_Mo_ask_15 : decode m_Mo_ask.2.1 15 = .ok (.iload_n 1, 1) := by decide +kernel
theorem d_Mo_ask_16 : decode m_Mo_ask.2.1 16 = .ok (.iaload, 1) := by decide +kernel
theorem d_Mo_ask_17 : decode m_Mo_ask.2.1 17 = .ok (.iconst 1, 1) := by decide +kernel
theorem d_Mo_ask_18 : decode m_Mo_ask.2.1 18 = .ok (.isub, 1) := by decide +kernel
theorem d_Mo_ask_19 : decode m_Mo_ask.2.1 19 = .ok (.i2l, 1) := by decide +kernel
theorem d_Mo_ask_20 : decode m_Mo_ask.2.1 20 = .ok (.invokestatic 55, 3) := by decide +kernel
set_option maxRecDepth 100000 in
theorem s_Mo_ask_20 {G : r_X} {n : Nat} {h : r_HI} {g : r_HR} {z : r_HL} {v0 v1 v2 : Value} : r_cl G m_Mo_ask m_Mo_in 20 [v0, v1, v2] n h g z := r_clS d_Mo_ask_20 w_Mo_in (r_in 880 rfl rfl) a_Mo_in n_Mo (by decide +kernel : r_mh m_Mo_in.1 3)
theorem d_Mo_ask_23 : decode m_Mo_ask.2.1 23 = .ok (.ifCond .ne 6, 3) := by decide +kernel
theorem d_Mo_ask_26 : decode m_Mo_ask.2.1 26 = .ok (.bipush (-101), 2) := by decide +kernel
theorem d_Mo_ask_28 : decode m_Mo_ask.2.1 28 = .ok (.ireturn, 1) := by decide +kernel
theorem d_Mo_ask_29 : decode m_Mo_ask.2.1 29 = .ok (.aload_n 0, 1) := by decide +kernel
theorem d_Mo_ask_30 : decode m_Mo_ask.2.1 30 = .ok (.getfield 114, 3) := by decide +kernel
theorem d_Mo_ask_33 : decode m_Mo_ask.2.1 33 = .ok (.bipush 7, 2) := by decide +kernel
theorem d_Mo_ask_35 : decode m_Mo_ask.2.1 35 = .ok (.if_icmp .ne 6, 3) := by decide +kernel
theorem d_Mo_ask_38 : decode m_Mo_ask.2.1 38 = .ok (.bipush (-104), 2) := by decide +kernel
theorem d_Mo_ask_40 : decode m_Mo_ask.2.1 40 = .ok (.ireturn, 1) := by decide +kernel
theorem d_Mo_ask_41 : decode m_Mo_ask.2.1 41 = .ok (.aload_n 0, 1) := by decide +kernel
theorem d_Mo_ask_42 : decode m_Mo_ask.2.1 42 = .ok (.invokevirtual 174, 3) := by decide +kernel
set_option maxRecDepth 100000 in
theorem s_Mo_ask_42 {G : r_X} {n : Nat} {h : r_HI} {g : r_HR} {z : r_HL} {k : Nat} (hp : r_pk k = (0, 12)) (hk : k < n) : r_cl G m_Mo_ask m_Mo_begin 42 (.ref (G.2.1 + k) :: []) n h g z := r_clV d_Mo_ask_42 w_Mo_begin (r_in 951 rfl rfl) a_Mo_begin (r_inP 18 rfl rfl) n_Mo (by decide +kernel : r_mh m_Mo_begin.1 0) hp hk (by decide)
theorem d_Mo_ask_45 : decode m_Mo_ask.2.1 45 = .ok (.aload_n 0, 1) := by decide +kernel
theorem d_Mo_ask_46 : decode m_Mo_ask.2.1 46 = .ok (.iload_n 1, 1) := by decide +kernel
theorem d_Mo_ask_47 : decode m_Mo_ask.2.1 47 = .ok (.iload_n 2, 1) := by decide +kernel
theorem d_Mo_ask_48 : decode m_Mo_ask.2.1 48 = .ok (.invokevirtual 194, 3) := by decide +kernel
set_option maxRecDepth 100000 in
theorem s_Mo_ask_48 {G : r_X} {n : Nat} {h : r_HI} {g : r_HR} {z : r_HL} {k : Nat} {v0 v1 : Value} (hp : r_pk k = (0, 12)) (hk : k < n) : r_cl G m_Mo_ask m_Mo_askThen 48 (.ref (G.2.1 + k) :: [v0, v1]) n h g z := r_clV d_Mo_ask_48 w_Mo_askThen (r_in 1007 rfl rfl) a_Mo_askThen (r_inP 28 rfl rfl) n_Mo (by decide +kernel : r_mh m_Mo_askThen.1 2) hp hk (by decide)
theorem d_Mo_ask_51 : decode m_Mo_ask.2.1 51 = .ok (.pop, 1) := by decide +kernel
theorem d_Mo_ask_52 : decode m_Mo_ask.2.1 52 = .ok (.aload_n 0, 1) := by decide +kernel
theorem d_Mo_ask_53 : decode m_Mo_ask.2.1 53 = .ok (.invokevirtual 197, 3) := by decide +kernel
set_option maxRecDepth 100000 in
theorem s_Mo_ask_53 {G : r_X} {n : Nat} {h : r_HI} {g : r_HR} {z : r_HL} {k : Nat} (hp : r_pk k = (0, 12)) (hk : k < n) : r_cl G m_Mo_ask m_Mo_keep 53 (.ref (G.2.1 + k) :: []) n h g z := r_clV d_Mo_ask_53 w_Mo_keep (r_in 1011 rfl rfl) a_Mo_keep (r_inP 29 rfl rfl) n_Mo (by decide +kernel : r_mh m_Mo_keep.1 0) hp hk (by decide)
theorem d_Mo_ask_56 : decode m_Mo_ask.2.1 56 = .ok (.aload_n 0, 1) := by decide +kernel
theorem d_Mo_ask_57 : decode m_Mo_ask.2.1 57 = .ok (.getfield 114, 3) := by decide +kernel
theorem d_Mo_ask_60 : decode m_Mo_ask.2.1 60 = .ok (.ireturn, 1) := by decide +kernel
theorem d_Mo_doneNow_0 : decode m_Mo_doneNow.2.1 0 = .ok (.aload_n 0, 1) := by decide +kernel
theorem d_Mo_doneNow_1 : decode m_Mo_doneNow.2.1 1 = .ok (.iload_n 1, 1) := by decide +kernel
theorem d_Mo_doneNow_2 : decode m_Mo_doneNow.2.1 2 = .ok (.invokevirtual 200, 3) := by decide +kernel
set_option maxRecDepth 100000 in
theorem s_Mo_doneNow_2 {G : r_X} {n : Nat} {h : r_HI} {g : r_HR} {z : r_HL} {k : Nat} {v0 : Value} (hp : r_pk k = (0, 12)) (hk : k < n) : r_cl G m_Mo_doneNow m_Mo_goTo 2 (.ref (G.2.1 + k) :: [v0]) n h g z := r_clV d_Mo_doneNow_2 w_Mo_goTo (r_in 1023 rfl rfl) a_Mo_goTo (r_inP 31 rfl rfl) n_Mo (by decide +kernel : r_mh m_Mo_goTo.1 1) hp hk (by decide)
theorem d_Mo_doneNow_5 : decode m_Mo_doneNow.2.1 5 = .ok (.pop, 1) := by decide +kernel
theorem d_Mo_doneNow_6 : decode m_Mo_doneNow.2.1 6 = .ok (.aload_n 0, 1) := by decide +kernel
theorem d_Mo_doneNow_7 : decode m_Mo_doneNow.2.1 7 = .ok (.getfield 130, 3) := by decide +kernel
theorem d_Mo_doneNow_10 : decode m_Mo_doneNow.2.1 10 = .ok (.ldc 203, 2) := by decide +kernel
theorem d_Mo_doneNow_12 : decode m_Mo_doneNow.2.1 12 = .ok (.if_icmp .le 6, 3) := by decide +kernel
theorem d_Mo_doneNow_15 : decode m_Mo_doneNow.2.1 15 = .ok (.bipush (-104), 2) := by decide +kernel
theorem d_Mo_doneNow_17 : decode m_Mo_doneNow.2.1 17 = .ok (.ireturn, 1) := by decide +kernel
theorem d_Mo_doneNow_18 : decode m_Mo_doneNow.2.1 18 = .ok (.aload_n 0, 1) := by decide +kernel
theorem d_Mo_doneNow_19 : decode m_Mo_doneNow.2.1 19 = .ok (.invokevirtual 197, 3) := by decide +kernel
set_option maxRecDepth 100000 in
theorem s_Mo_doneNow_19 {G : r_X} {n : Nat} {h : r_HI} {g : r_HR} {z : r_HL} {k : Nat} (hp : r_pk k = (0, 12)) (hk : k < n) : r_cl G m_Mo_doneNow m_Mo_keep 19 (.ref (G.2.1 + k) :: []) n h g z := r_clV d_Mo_doneNow_19 w_Mo_keep (r_in 1011 rfl rfl) a_Mo_keep (r_inP 29 rfl rfl) n_Mo (by decide +kernel : r_mh m_Mo_keep.1 0) hp hk (by decide)
theorem d_Mo_doneNow_22 : decode m_Mo_doneNow.2.1 22 = .ok (.aload_n 0, 1) := by decide +kernel
theorem d_Mo_doneNow_23 : decode m_Mo_doneNow.2.1 23 = .ok (.getfield 105, 3) := by decide +kernel
theorem d_Mo_doneNow_26 : decode m_Mo_doneNow.2.1 26 = .ok (.ireturn, 1) := by decide +kernel
theorem d_Mo_serve_0 : decode m_Mo_serve.2.1 0 = .ok (.aload_n 0, 1) := by decide +kernel
theorem d_Mo_serve_1 : decode m_Mo_serve.2.1 1 = .ok (.getfield 114, 3) := by decide +kernel
theorem d_Mo_serve_4 : decode m_Mo_serve.2.1 4 = .ok (.ifCond .ne 6, 3) := by decide +kernel
theorem d_Mo_serve_7 : decode m_Mo_serve.2.1 7 = .ok (.bipush (-103), 2) := by decide +kernel
theorem d_Mo_serve_9 : decode m_Mo_serve.2.1 9 = .ok (.ireturn, 1) := by decide +kernel
theorem d_Mo_serve_10 : decode m_Mo_serve.2.1 10 = .ok (.aload_n 0, 1) := by decide +kernel
theorem d_Mo_serve_11 : decode m_Mo_serve.2.1 11 = .ok (.invokevirtual 174, 3) := by decide +kernel
set_option maxRecDepth 100000 in
theorem s_Mo_serve_11 {G : r_X} {n : Nat} {h : r_HI} {g : r_HR} {z : r_HL} {k : Nat} (hp : r_pk k = (0, 12)) (hk : k < n) : r_cl G m_Mo_serve m_Mo_begin 11 (.ref (G.2.1 + k) :: []) n h g z := r_clV d_Mo_serve_11 w_Mo_begin (r_in 951 rfl rfl) a_Mo_begin (r_inP 18 rfl rfl) n_Mo (by decide +kernel : r_mh m_Mo_begin.1 0) hp hk (by decide)
theorem d_Mo_serve_14 : decode m_Mo_serve.2.1 14 = .ok (.aload_n 0, 1) := by decide +kernel
theorem d_Mo_serve_15 : decode m_Mo_serve.2.1 15 = .ok (.aload_n 0, 1) := by decide +kernel
theorem d_Mo_serve_16 : decode m_Mo_serve.2.1 16 = .ok (.aload_n 0, 1) := by decide +kernel
theorem d_Mo_serve_17 : decode m_Mo_serve.2.1 17 = .ok (.getfield 102, 3) := by decide +kernel
theorem d_Mo_serve_20 : decode m_Mo_serve.2.1 20 = .ok (.invokevirtual 188, 3) := by decide +kernel
set_option maxRecDepth 100000 in
theorem s_Mo_serve_20 {G : r_X} {n : Nat} {h : r_HI} {g : r_HR} {z : r_HL} {k : Nat} {v0 : Value} (hp : r_pk k = (0, 12)) (hk : k < n) : r_cl G m_Mo_serve m_Mo_nextThen 20 (.ref (G.2.1 + k) :: [v0]) n h g z := r_clV d_Mo_serve_20 w_Mo_nextThen (r_in 983 rfl rfl) a_Mo_nextThen (r_inP 23 rfl rfl) n_Mo (by decide +kernel : r_mh m_Mo_nextThen.1 1) hp hk (by decide)
theorem d_Mo_serve_23 : decode m_Mo_serve.2.1 23 = .ok (.invokevirtual 204, 3) := by decide +kernel
set_option maxRecDepth 100000 in
theorem s_Mo_serve_23 {G : r_X} {n : Nat} {h : r_HI} {g : r_HR} {z : r_HL} {k : Nat} {v0 : Value} (hp : r_pk k = (0, 12)) (hk : k < n) : r_cl G m_Mo_serve m_Mo_doneNow 23 (.ref (G.2.1 + k) :: [v0]) n h g z := r_clV d_Mo_serve_23 w_Mo_doneNow (r_in 1019 rfl rfl) a_Mo_doneNow (r_inP 30 rfl rfl) n_Mo (by decide +kernel : r_mh m_Mo_doneNow.1 1) hp hk (by decide)
theorem d_Mo_serve_26 : decode m_Mo_serve.2.1 26 = .ok (.ireturn, 1) := by decide +kernel
theorem d_Mo_read_0 : decode m_Mo_read.2.1 0 = .ok (.iload_n 1, 1) := by decide +kernel
theorem d_Mo_read_1 : decode m_Mo_read.2.1 1 = .ok (.i2l, 1) := by decide +kernel
theorem d_Mo_read_2 : decode m_Mo_read.2.1 2 = .ok (.lconst 0, 1) := by decide +kernel
theorem d_Mo_read_3 : decode m_Mo_read.2.1 3 = .ok (.aload_n 0, 1) := by decide +kernel
theorem d_Mo_read_4 : decode m_Mo_read.2.1 4 = .ok (.getfield 114, 3) := by decide +kernel
theorem d_Mo_read_7 : decode m_Mo_read.2.1 7 = .ok (.iconst 1, 1) := by decide +kernel
theorem d_Mo_read_8 : decode m_Mo_read.2.1 8 = .ok (.isub, 1) := by decide +kernel
theorem d_Mo_read_9 : decode m_Mo_read.2.1 9 = .ok (.i2l, 1) := by decide +kernel
theorem d_Mo_read_10 : decode m_Mo_read.2.1 10 = .ok (.invokestatic 55, 3) := by decide +kernel
set_option maxRecDepth 100000 in
theorem s_Mo_read_10 {G : r_X} {n : Nat} {h : r_HI} {g : r_HR} {z : r_HL} {v0 v1 v2 : Value} : r_cl G m_Mo_read m_Mo_in 10 [v0, v1, v2] n h g z := r_clS d_Mo_read_10 w_Mo_in (r_in 880 rfl rfl) a_Mo_in n_Mo (by decide +kernel : r_mh m_Mo_in.1 3)
theorem d_Mo_read_13 : decode m_Mo_read.2.1 13 = .ok (.ifCond .ne 6, 3) := by decide +kernel
theorem d_Mo_read_16 : decode m_Mo_read.2.1 16 = .ok (.bipush (-101), 2) := by decide +kernel
theorem d_Mo_read_18 : decode m_Mo_read.2.1 18 = .ok (.ireturn, 1) := by decide +kernel
theorem d_Mo_read_19 : decode m_Mo_read.2.1 19 = .ok (.aload_n 0, 1) := by decide +kernel
theorem d_Mo_read_20 : decode m_Mo_read.2.1 20 = .ok (.invokevirtual 174, 3) := by decide +kernel
set_option maxRecDepth 100000 in
theorem s_Mo_read_20 {G : r_X} {n : Nat} {h : r_HI} {g : r_HR} {z : r_HL} {k : Nat} (hp : r_pk k = (0, 12)) (hk : k < n) : r_cl G m_Mo_read m_Mo_begin 20 (.ref (G.2.1 + k) :: []) n h g z := r_clV d_Mo_read_20 w_Mo_begin (r_in 951 rfl rfl) a_Mo_begin (r_inP 18 rfl rfl) n_Mo (by decide +kernel : r_mh m_Mo_begin.1 0) hp hk (by decide)
theorem d_Mo_read_23 : decode m_Mo_read.2.1 23 = .ok (.aload_n 0, 1) := by decide +kernel
theorem d_Mo_read_24 : decode m_Mo_read.2.1 24 = .ok (.iload_n 1, 1) := by decide +kernel
theorem d_Mo_read_25 : decode m_Mo_read.2.1 25 = .ok (.invokevirtual 204, 3) := by decide +kernel
set_option maxRecDepth 100000 in
theorem s_Mo_read_25 {G : r_X} {n : Nat} {h : r_HI} {g : r_HR} {z : r_HL} {k : Nat} {v0 : Value} (hp : r_pk k = (0, 12)) (hk : k < n) : r_cl G m_Mo_read m_Mo_doneNow 25 (.ref (G.2.1 + k) :: [v0]) n h g z := r_clV d_Mo_read_25 w_Mo_doneNow (r_in 1019 rfl rfl) a_Mo_doneNow (r_inP 30 rfl rfl) n_Mo (by decide +kernel : r_mh m_Mo_doneNow.1 1) hp hk (by decide)
theorem d_Mo_read_28 : decode m_Mo_read.2.1 28 = .ok (.ireturn, 1) := by decide +kernel
theorem d_Mo_pass_0 : decode m_Mo_pass.2.1 0 = .ok (.iload_n 1, 1) := by decide +kernel
theorem d_Mo_pass_1 : decode m_Mo_pass.2.1 1 = .ok (.i2l, 1) := by decide +kernel
theorem d_Mo_pass_2 : decode m_Mo_pass.2.1 2 = .ok (.lconst 1, 1) := by decide +kernel
theorem d_Mo_pass_3 : decode m_Mo_pass.2.1 3 = .ok (.ldc2_w 207, 3) := by decide +kernel
theorem d_Mo_pass_6 : decode m_Mo_pass.2.1 6 = .ok (.invokestatic 55, 3) := by decide +kernel
set_option maxRecDepth 100000 in
theorem s_Mo_pass_6 {G : r_X} {n : Nat} {h : r_HI} {g : r_HR} {z : r_HL} {v0 v1 v2 : Value} : r_cl G m_Mo_pass m_Mo_in 6 [v0, v1, v2] n h g z := r_clS d_Mo_pass_6 w_Mo_in (r_in 880 rfl rfl) a_Mo_in n_Mo (by decide +kernel : r_mh m_Mo_in.1 3)
theorem d_Mo_pass_9 : decode m_Mo_pass.2.1 9 = .ok (.ifCond .ne 6, 3) := by decide +kernel
theorem d_Mo_pass_12 : decode m_Mo_pass.2.1 12 = .ok (.bipush (-102), 2) := by decide +kernel
theorem d_Mo_pass_14 : decode m_Mo_pass.2.1 14 = .ok (.ireturn, 1) := by decide +kernel
theorem d_Mo_pass_15 : decode m_Mo_pass.2.1 15 = .ok (.aload_n 0, 1) := by decide +kernel
theorem d_Mo_pass_16 : decode m_Mo_pass.2.1 16 = .ok (.invokevirtual 184, 3) := by decide +kernel
set_option maxRecDepth 100000 in
theorem s_Mo_pass_16 {G : r_X} {n : Nat} {h : r_HI} {g : r_HR} {z : r_HL} {k : Nat} (hp : r_pk k = (0, 12)) (hk : k < n) : r_cl G m_Mo_pass m_Mo_lacks 16 (.ref (G.2.1 + k) :: []) n h g z := r_clV d_Mo_pass_16 w_Mo_lacks (r_in 971 rfl rfl) a_Mo_lacks (r_inP 21 rfl rfl) n_Mo (by decide +kernel : r_mh m_Mo_lacks.1 0) hp hk (by decide)
theorem d_Mo_pass_19 : decode m_Mo_pass.2.1 19 = .ok (.ifCond .eq 6, 3) := by decide +kernel
theorem d_Mo_pass_22 : decode m_Mo_pass.2.1 22 = .ok (.bipush (-103), 2) := by decide +kernel
theorem d_Mo_pass_24 : decode m_Mo_pass.2.1 24 = .ok (.ireturn, 1) := by decide +kernel
theorem d_Mo_pass_25 : decode m_Mo_pass.2.1 25 = .ok (.aload_n 0, 1) := by decide +kernel
theorem d_Mo_pass_26 : decode m_Mo_pass.2.1 26 = .ok (.getfield 105, 3) := by decide +kernel
theorem d_Mo_pass_29 : decode m_Mo_pass.2.1 29 = .ok (.iload_n 1, 1) := by decide +kernel
theorem d_Mo_pass_30 : decode m_Mo_pass.2.1 30 = .ok (.iadd, 1) := by decide +kernel
theorem d_Mo_pass_31 : decode m_Mo_pass.2.1 31 = .ok (.ldc 203, 2) := by decide +kernel
theorem d_Mo_pass_33 : decode m_Mo_pass.2.1 33 = .ok (.if_icmp .le 6, 3) := by decide +kernel
theorem d_Mo_pass_36 : decode m_Mo_pass.2.1 36 = .ok (.bipush (-104), 2) := by decide +kernel
theorem d_Mo_pass_38 : decode m_Mo_pass.2.1 38 = .ok (.ireturn, 1) := by decide +kernel
theorem d_Mo_pass_39 : decode m_Mo_pass.2.1 39 = .ok (.aload_n 0, 1) := by decide +kernel
theorem d_Mo_pass_40 : decode m_Mo_pass.2.1 40 = .ok (.dup, 1) := by decide +kernel
theorem d_Mo_pass_41 : decode m_Mo_pass.2.1 41 = .ok (.getfield 105, 3) := by decide +kernel
theorem d_Mo_pass_44 : decode m_Mo_pass.2.1 44 = .ok (.iload_n 1, 1) := by decide +kernel
theorem d_Mo_pass_45 : decode m_Mo_pass.2.1 45 = .ok (.iadd, 1) := by decide +kernel
theorem d_Mo_pass_46 : decode m_Mo_pass.2.1 46 = .ok (.putfield 105, 3) := by decide +kernel
theorem d_Mo_pass_49 : decode m_Mo_pass.2.1 49 = .ok (.aload_n 0, 1) := by decide +kernel
theorem d_Mo_pass_50 : decode m_Mo_pass.2.1 50 = .ok (.getfield 105, 3) := by decide +kernel
theorem d_Mo_pass_53 : decode m_Mo_pass.2.1 53 = .ok (.ireturn, 1) := by decide +kernel
theorem d_Mo_choose_0 : decode m_Mo_choose.2.1 0 = .ok (.iload_n 1, 1) := by decide +kernel
theorem d_Mo_choose_1 : decode m_Mo_choose.2.1 1 = .ok (.i2l, 1) := by decide +kernel
theorem d_Mo_choose_2 : decode m_Mo_choose.2.1 2 = .ok (.lconst 0, 1) := by decide +kernel
theorem d_Mo_choose_3 : decode m_Mo_choose.2.1 3 = .ok (.ldc2_w 182, 3) := by decide +kernel
theorem d_Mo_choose_6 : decode m_Mo_choose.2.1 6 = .ok (.invokestatic 55, 3) := by decide +kernel
set_option maxRecDepth 100000 in
theorem s_Mo_choose_6 {G : r_X} {n : Nat} {h : r_HI} {g : r_HR} {z : r_HL} {v0 v1 v2 : Value} : r_cl G m_Mo_choose m_Mo_in 6 [v0, v1, v2] n h g z := r_clS d_Mo_choose_6 w_Mo_in (r_in 880 rfl rfl) a_Mo_in n_Mo (by decide +kernel : r_mh m_Mo_in.1 3)
theorem d_Mo_choose_9 : decode m_Mo_choose.2.1 9 = .ok (.ifCond .ne 6, 3) := by decide +kernel
theorem d_Mo_choose_12 : decode m_Mo_choose.2.1 12 = .ok (.bipush (-102), 2) := by decide +kernel
theorem d_Mo_choose_14 : decode m_Mo_choose.2.1 14 = .ok (.ireturn, 1) := by decide +kernel
theorem d_Mo_choose_15 : decode m_Mo_choose.2.1 15 = .ok (.aload_n 0, 1) := by decide +kernel
theorem d_Mo_choose_16 : decode m_Mo_choose.2.1 16 = .ok (.invokevirtual 184, 3) := by decide +kernel
set_option maxRecDepth 100000 in
theorem s_Mo_choose_16 {G : r_X} {n : Nat} {h : r_HI} {g : r_HR} {z : r_HL} {k : Nat} (hp : r_pk k = (0, 12)) (hk : k < n) : r_cl G m_Mo_choose m_Mo_lacks 16 (.ref (G.2.1 + k) :: []) n h g z := r_clV d_Mo_choose_16 w_Mo_lacks (r_in 971 rfl rfl) a_Mo_lacks (r_inP 21 rfl rfl) n_Mo (by decide +kernel : r_mh m_Mo_lacks.1 0) hp hk (by decide)
theorem d_Mo_choose_19 : decode m_Mo_choose.2.1 19 = .ok (.ifCond .eq 6, 3) := by decide +kernel
theorem d_Mo_choose_22 : decode m_Mo_choose.2.1 22 = .ok (.bipush (-103), 2) := by decide +kernel
theorem d_Mo_choose_24 : decode m_Mo_choose.2.1 24 = .ok (.ireturn, 1) := by decide +kernel
theorem d_Mo_choose_25 : decode m_Mo_choose.2.1 25 = .ok (.aload_n 0, 1) := by decide +kernel
theorem d_Mo_choose_26 : decode m_Mo_choose.2.1 26 = .ok (.getfield 102, 3) := by decide +kernel
theorem d_Mo_choose_29 : decode m_Mo_choose.2.1 29 = .ok (.istore_n 2, 1) := by decide +kernel
theorem d_Mo_choose_30 : decode m_Mo_choose.2.1 30 = .ok (.aload_n 0, 1) := by decide +kernel
theorem d_Mo_choose_31 : decode m_Mo_choose.2.1 31 = .ok (.iload_n 1, 1) := by decide +kernel
theorem d_Mo_choose_32 : decode m_Mo_choose.2.1 32 = .ok (.putfield 102, 3) := by decide +kernel
theorem d_Mo_choose_35 : decode m_Mo_choose.2.1 35 = .ok (.iload_n 2, 1) := by decide +kernel
theorem d_Mo_choose_36 : decode m_Mo_choose.2.1 36 = .ok (.ireturn, 1) := by decide +kernel
theorem d_Mo_skew_0 : decode m_Mo_skew.2.1 0 = .ok (.aload_n 0, 1) := by decide +kernel
theorem d_Mo_skew_1 : decode m_Mo_skew.2.1 1 = .ok (.iload_n 1, 1) := by decide +kernel
theorem d_Mo_skew_2 : decode m_Mo_skew.2.1 2 = .ok (.invokevirtual 168, 3) := by decide +kernel
set_option maxRecDepth 100000 in
theorem s_Mo_skew_2 {G : r_X} {n : Nat} {h : r_HI} {g : r_HR} {z : r_HL} {k : Nat} {v0 : Value} (hp : r_pk k = (0, 12)) (hk : k < n) : r_cl G m_Mo_skew m_Mo_isRing 2 (.ref (G.2.1 + k) :: [v0]) n h g z := r_clV d_Mo_skew_2 w_Mo_isRing (r_in 922 rfl rfl) a_Mo_isRing (r_inP 12 rfl rfl) n_Mo (by decide +kernel : r_mh m_Mo_isRing.1 1) hp hk (by decide)
theorem d_Mo_skew_5 : decode m_Mo_skew.2.1 5 = .ok (.ifCond .ne 6, 3) := by decide +kernel
theorem d_Mo_skew_8 : decode m_Mo_skew.2.1 8 = .ok (.bipush (-101), 2) := by decide +kernel
theorem d_Mo_skew_10 : decode m_Mo_skew.2.1 10 = .ok (.ireturn, 1) := by decide +kernel
theorem d_Mo_skew_11 : decode m_Mo_skew.2.1 11 = .ok (.iload_n 2, 1) := by decide +kernel
theorem d_Mo_skew_12 : decode m_Mo_skew.2.1 12 = .ok (.i2l, 1) := by decide +kernel
theorem d_Mo_skew_13 : decode m_Mo_skew.2.1 13 = .ok (.lconst 0, 1) := by decide +kernel
theorem d_Mo_skew_14 : decode m_Mo_skew.2.1 14 = .ok (.ldc2_w 209, 3) := by decide +kernel
theorem d_Mo_skew_17 : decode m_Mo_skew.2.1 17 = .ok (.invokestatic 55, 3) := by decide +kernel
set_option maxRecDepth 100000 in
theorem s_Mo_skew_17 {G : r_X} {n : Nat} {h : r_HI} {g : r_HR} {z : r_HL} {v0 v1 v2 : Value} : r_cl G m_Mo_skew m_Mo_in 17 [v0, v1, v2] n h g z := r_clS d_Mo_skew_17 w_Mo_in (r_in 880 rfl rfl) a_Mo_in n_Mo (by decide +kernel : r_mh m_Mo_in.1 3)
theorem d_Mo_skew_20 : decode m_Mo_skew.2.1 20 = .ok (.ifCond .ne 6, 3) := by decide +kernel
theorem d_Mo_skew_23 : decode m_Mo_skew.2.1 23 = .ok (.bipush (-102), 2) := by decide +kernel
theorem d_Mo_skew_25 : decode m_Mo_skew.2.1 25 = .ok (.ireturn, 1) := by decide +kernel
theorem d_Mo_skew_26 : decode m_Mo_skew.2.1 26 = .ok (.aload_n 0, 1) := by decide +kernel
theorem d_Mo_skew_27 : decode m_Mo_skew.2.1 27 = .ok (.getfield 16, 3) := by decide +kernel
theorem d_Mo_skew_30 : decode m_Mo_skew.2.1 30 = .ok (.iload_n 1, 1) := by decide +kernel
theorem d_Mo_skew_31 : decode m_Mo_skew.2.1 31 = .ok (.iaload, 1) := by decide +kernel
theorem d_Mo_skew_32 : decode m_Mo_skew.2.1 32 = .ok (.istore_n 3, 1) := by decide +kernel
theorem d_Mo_skew_33 : decode m_Mo_skew.2.1 33 = .ok (.aload_n 0, 1) := by decide +kernel
theorem d_Mo_skew_34 : decode m_Mo_skew.2.1 34 = .ok (.getfield 16, 3) := by decide +kernel
theorem d_Mo_skew_37 : decode m_Mo_skew.2.1 37 = .ok (.iload_n 1, 1) := by decide +kernel
theorem d_Mo_skew_38 : decode m_Mo_skew.2.1 38 = .ok (.iload_n 2, 1) := by decide +kernel
theorem d_Mo_skew_39 : decode m_Mo_skew.2.1 39 = .ok (.iastore, 1) := by decide +kernel
theorem d_Mo_skew_40 : decode m_Mo_skew.2.1 40 = .ok (.iload_n 3, 1) := by decide +kernel
theorem d_Mo_skew_41 : decode m_Mo_skew.2.1 41 = .ok (.ireturn, 1) := by decide +kernel
theorem d_Mo_gear_0 : decode m_Mo_gear.2.1 0 = .ok (.iload_n 1, 1) := by decide +kernel
theorem d_Mo_gear_1 : decode m_Mo_gear.2.1 1 = .ok (.i2l, 1) := by decide +kernel
theorem d_Mo_gear_2 : decode m_Mo_gear.2.1 2 = .ok (.lconst 0, 1) := by decide +kernel
theorem d_Mo_gear_3 : decode m_Mo_gear.2.1 3 = .ok (.ldc2_w 211, 3) := by decide +kernel
theorem d_Mo_gear_6 : decode m_Mo_gear.2.1 6 = .ok (.invokestatic 55, 3) := by decide +kernel
set_option maxRecDepth 100000 in
theorem s_Mo_gear_6 {G : r_X} {n : Nat} {h : r_HI} {g : r_HR} {z : r_HL} {v0 v1 v2 : Value} : r_cl G m_Mo_gear m_Mo_in 6 [v0, v1, v2] n h g z := r_clS d_Mo_gear_6 w_Mo_in (r_in 880 rfl rfl) a_Mo_in n_Mo (by decide +kernel : r_mh m_Mo_in.1 3)
theorem d_Mo_gear_9 : decode m_Mo_gear.2.1 9 = .ok (.ifCond .eq 15, 3) := by decide +kernel
theorem d_Mo_gear_12 : decode m_Mo_gear.2.1 12 = .ok (.iload_n 2, 1) := by decide +kernel
theorem d_Mo_gear_13 : decode m_Mo_gear.2.1 13 = .ok (.i2l, 1) := by decide +kernel
theorem d_Mo_gear_14 : decode m_Mo_gear.2.1 14 = .ok (.lconst 1, 1) := by decide +kernel
theorem d_Mo_gear_15 : decode m_Mo_gear.2.1 15 = .ok (.ldc2_w 211, 3) := by decide +kernel
theorem d_Mo_gear_18 : decode m_Mo_gear.2.1 18 = .ok (.invokestatic 55, 3) := by decide +kernel
set_option maxRecDepth 100000 in
theorem s_Mo_gear_18 {G : r_X} {n : Nat} {h : r_HI} {g : r_HR} {z : r_HL} {v0 v1 v2 : Value} : r_cl G m_Mo_gear m_Mo_in 18 [v0, v1, v2] n h g z := r_clS d_Mo_gear_18 w_Mo_in (r_in 880 rfl rfl) a_Mo_in n_Mo (by decide +kernel : r_mh m_Mo_in.1 3)
theorem d_Mo_gear_21 : decode m_Mo_gear.2.1 21 = .ok (.ifCond .ne 6, 3) := by decide +kernel
theorem d_Mo_gear_24 : decode m_Mo_gear.2.1 24 = .ok (.bipush (-102), 2) := by decide +kernel
theorem d_Mo_gear_26 : decode m_Mo_gear.2.1 26 = .ok (.ireturn, 1) := by decide +kernel
theorem d_Mo_gear_27 : decode m_Mo_gear.2.1 27 = .ok (.aload_n 0, 1) := by decide +kernel
theorem d_Mo_gear_28 : decode m_Mo_gear.2.1 28 = .ok (.invokevirtual 184, 3) := by decide +kernel
set_option maxRecDepth 100000 in
theorem s_Mo_gear_28 {G : r_X} {n : Nat} {h : r_HI} {g : r_HR} {z : r_HL} {k : Nat} (hp : r_pk k = (0, 12)) (hk : k < n) : r_cl G m_Mo_gear m_Mo_lacks 28 (.ref (G.2.1 + k) :: []) n h g z := r_clV d_Mo_gear_28 w_Mo_lacks (r_in 971 rfl rfl) a_Mo_lacks (r_inP 21 rfl rfl) n_Mo (by decide +kernel : r_mh m_Mo_lacks.1 0) hp hk (by decide)
theorem d_Mo_gear_31 : decode m_Mo_gear.2.1 31 = .ok (.ifCond .eq 6, 3) := by decide +kernel
theorem d_Mo_gear_34 : decode m_Mo_gear.2.1 34 = .ok (.bipush (-103), 2) := by decide +kernel
theorem d_Mo_gear_36 : decode m_Mo_gear.2.1 36 = .ok (.ireturn, 1) := by decide +kernel
theorem d_Mo_gear_37 : decode m_Mo_gear.2.1 37 = .ok (.aload_n 0, 1) := by decide +kernel
theorem d_Mo_gear_38 : decode m_Mo_gear.2.1 38 = .ok (.getfield 99, 3) := by decide +kernel
theorem d_Mo_gear_41 : decode m_Mo_gear.2.1 41 = .ok (.istore_n 3, 1) := by decide +kernel
theorem d_Mo_gear_42 : decode m_Mo_gear.2.1 42 = .ok (.aload_n 0, 1) := by decide +kernel
theorem d_Mo_gear_43 : decode m_Mo_gear.2.1 43 = .ok (.iload_n 1, 1) := by decide +kernel
theorem d_Mo_gear_44 : decode m_Mo_gear.2.1 44 = .ok (.putfield 96, 3) := by decide +kernel
theorem d_Mo_gear_47 : decode m_Mo_gear.2.1 47 = .ok (.aload_n 0, 1) := by decide +kernel
theorem d_Mo_gear_48 : decode m_Mo_gear.2.1 48 = .ok (.iload_n 2, 1) := by decide +kernel
theorem d_Mo_gear_49 : decode m_Mo_gear.2.1 49 = .ok (.putfield 99, 3) := by decide +kernel
theorem d_Mo_gear_52 : decode m_Mo_gear.2.1 52 = .ok (.iload_n 3, 1) := by decide +kernel
theorem d_Mo_gear_53 : decode m_Mo_gear.2.1 53 = .ok (.ireturn, 1) := by decide +kernel
theorem d_Mo_runOf_0 : decode m_Mo_runOf.2.1 0 = .ok (.aload_n 0, 1) := by decide +kernel
theorem d_Mo_runOf_1 : decode m_Mo_runOf.2.1 1 = .ok (.invokevirtual 174, 3) := by decide +kernel
set_option maxRecDepth 100000 in
theorem s_Mo_runOf_1 {G : r_X} {n : Nat} {h : r_HI} {g : r_HR} {z : r_HL} {k : Nat} (hp : r_pk k = (0, 12)) (hk : k < n) : r_cl G m_Mo_runOf m_Mo_begin 1 (.ref (G.2.1 + k) :: []) n h g z := r_clV d_Mo_runOf_1 w_Mo_begin (r_in 951 rfl rfl) a_Mo_begin (r_inP 18 rfl rfl) n_Mo (by decide +kernel : r_mh m_Mo_begin.1 0) hp hk (by decide)
theorem d_Mo_runOf_4 : decode m_Mo_runOf.2.1 4 = .ok (.iconst 0, 1) := by decide +kernel
theorem d_Mo_runOf_5 : decode m_Mo_runOf.2.1 5 = .ok (.istore_n 3, 1) := by decide +kernel
theorem d_Mo_runOf_6 : decode m_Mo_runOf.2.1 6 = .ok (.aload_n 0, 1) := by decide +kernel
theorem d_Mo_runOf_7 : decode m_Mo_runOf.2.1 7 = .ok (.getfield 139, 3) := by decide +kernel
theorem d_Mo_runOf_10 : decode m_Mo_runOf.2.1 10 = .ok (.ifCond .le 18, 3) := by decide +kernel
theorem d_Mo_runOf_13 : decode m_Mo_runOf.2.1 13 = .ok (.iload_n 3, 1) := by decide +kernel
theorem d_Mo_runOf_14 : decode m_Mo_runOf.2.1 14 = .ok (.aload_n 0, 1) := by decide +kernel
theorem d_Mo_runOf_15 : decode m_Mo_runOf.2.1 15 = .ok (.aload_n 0, 1) := by decide +kernel
theorem d_Mo_runOf_16 : decode m_Mo_runOf.2.1 16 = .ok (.iload_n 1, 1) := by decide +kernel
theorem d_Mo_runOf_17 : decode m_Mo_runOf.2.1 17 = .ok (.invokevirtual 188, 3) := by decide +kernel
set_option maxRecDepth 100000 in
theorem s_Mo_runOf_17 {G : r_X} {n : Nat} {h : r_HI} {g : r_HR} {z : r_HL} {k : Nat} {v0 : Value} (hp : r_pk k = (0, 12)) (hk : k < n) : r_cl G m_Mo_runOf m_Mo_nextThen 17 (.ref (G.2.1 + k) :: [v0]) n h g z := r_clV d_Mo_runOf_17 w_Mo_nextThen (r_in 983 rfl rfl) a_Mo_nextThen (r_inP 23 rfl rfl) n_Mo (by decide +kernel : r_mh m_Mo_nextThen.1 1) hp hk (by decide)
theorem d_Mo_runOf_20 : decode m_Mo_runOf.2.1 20 = .ok (.invokevirtual 200, 3) := by decide +kernel
set_option maxRecDepth 100000 in
theorem s_Mo_runOf_20 {G : r_X} {n : Nat} {h : r_HI} {g : r_HR} {z : r_HL} {k : Nat} {v0 : Value} (hp : r_pk k = (0, 12)) (hk : k < n) : r_cl G m_Mo_runOf m_Mo_goTo 20 (.ref (G.2.1 + k) :: [v0]) n h g z := r_clV d_Mo_runOf_20 w_Mo_goTo (r_in 1023 rfl rfl) a_Mo_goTo (r_inP 31 rfl rfl) n_Mo (by decide +kernel : r_mh m_Mo_goTo.1 1) hp hk (by decide)
theorem d_Mo_runOf_23 : decode m_Mo_runOf.2.1 23 = .ok (.iadd, 1) := by decide +kernel
theorem d_Mo_runOf_24 : decode m_Mo_runOf.2.1 24 = .ok (.istore_n 3, 1) := by decide +kernel
theorem d_Mo_runOf_25 : decode m_Mo_runOf.2.1 25 = .ok (.goto (-19), 3) := by decide +kernel
theorem d_Mo_runOf_28 : decode m_Mo_runOf.2.1 28 = .ok (.iload_n 2, 1) := by decide +kernel
theorem d_Mo_runOf_29 : decode m_Mo_runOf.2.1 29 = .ok (.ifCond .ne 10, 3) := by decide +kernel
theorem d_Mo_runOf_32 : decode m_Mo_runOf.2.1 32 = .ok (.aload_n 0, 1) := by decide +kernel
theorem d_Mo_runOf_33 : decode m_Mo_runOf.2.1 33 = .ok (.getfield 130, 3) := by decide +kernel
theorem d_Mo_runOf_36 : decode m_Mo_runOf.2.1 36 = .ok (.goto 4, 3) := by decide +kernel
theorem d_Mo_runOf_39 : decode m_Mo_runOf.2.1 39 = .ok (.iload_n 3, 1) := by decide +kernel
theorem d_Mo_runOf_40 : decode m_Mo_runOf.2.1 40 = .ok (.ireturn, 1) := by decide +kernel
theorem d_Mo_run_0 : decode m_Mo_run.2.1 0 = .ok (.iload_n 1, 1) := by decide +kernel
theorem d_Mo_run_1 : decode m_Mo_run.2.1 1 = .ok (.i2l, 1) := by decide +kernel
theorem d_Mo_run_2 : decode m_Mo_run.2.1 2 = .ok (.lconst 0, 1) := by decide +kernel
theorem d_Mo_run_3 : decode m_Mo_run.2.1 3 = .ok (.ldc2_w 182, 3) := by decide +kernel
theorem d_Mo_run_6 : decode m_Mo_run.2.1 6 = .ok (.invokestatic 55, 3) := by decide +kernel
set_option maxRecDepth 100000 in
theorem s_Mo_run_6 {G : r_X} {n : Nat} {h : r_HI} {g : r_HR} {z : r_HL} {v0 v1 v2 : Value} : r_cl G m_Mo_run m_Mo_in 6 [v0, v1, v2] n h g z := r_clS d_Mo_run_6 w_Mo_in (r_in 880 rfl rfl) a_Mo_in n_Mo (by decide +kernel : r_mh m_Mo_in.1 3)
theorem d_Mo_run_9 : decode m_Mo_run.2.1 9 = .ok (.ifCond .eq 13, 3) := by decide +kernel
theorem d_Mo_run_12 : decode m_Mo_run.2.1 12 = .ok (.iload_n 2, 1) := by decide +kernel
theorem d_Mo_run_13 : decode m_Mo_run.2.1 13 = .ok (.i2l, 1) := by decide +kernel
theorem d_Mo_run_14 : decode m_Mo_run.2.1 14 = .ok (.lconst 0, 1) := by decide +kernel
theorem d_Mo_run_15 : decode m_Mo_run.2.1 15 = .ok (.lconst 1, 1) := by decide +kernel
theorem d_Mo_run_16 : decode m_Mo_run.2.1 16 = .ok (.invokestatic 55, 3) := by decide +kernel
set_option maxRecDepth 100000 in
theorem s_Mo_run_16 {G : r_X} {n : Nat} {h : r_HI} {g : r_HR} {z : r_HL} {v0 v1 v2 : Value} : r_cl G m_Mo_run m_Mo_in 16 [v0, v1, v2] n h g z := r_clS d_Mo_run_16 w_Mo_in (r_in 880 rfl rfl) a_Mo_in n_Mo (by decide +kernel : r_mh m_Mo_in.1 3)
theorem d_Mo_run_19 : decode m_Mo_run.2.1 19 = .ok (.ifCond .ne 6, 3) := by decide +kernel
theorem d_Mo_run_22 : decode m_Mo_run.2.1 22 = .ok (.bipush (-102), 2) := by decide +kernel
theorem d_Mo_run_24 : decode m_Mo_run.2.1 24 = .ok (.ireturn, 1) := by decide +kernel
theorem d_Mo_run_25 : decode m_Mo_run.2.1 25 = .ok (.aload_n 0, 1) := by decide +kernel
theorem d_Mo_run_26 : decode m_Mo_run.2.1 26 = .ok (.invokevirtual 184, 3) := by decide +kernel
set_option maxRecDepth 100000 in
theorem s_Mo_run_26 {G : r_X} {n : Nat} {h : r_HI} {g : r_HR} {z : r_HL} {k : Nat} (hp : r_pk k = (0, 12)) (hk : k < n) : r_cl G m_Mo_run m_Mo_lacks 26 (.ref (G.2.1 + k) :: []) n h g z := r_clV d_Mo_run_26 w_Mo_lacks (r_in 971 rfl rfl) a_Mo_lacks (r_inP 21 rfl rfl) n_Mo (by decide +kernel : r_mh m_Mo_lacks.1 0) hp hk (by decide)
theorem d_Mo_run_29 : decode m_Mo_run.2.1 29 = .ok (.ifCond .eq 8, 3) := by decide +kernel
theorem d_Mo_run_32 : decode m_Mo_run.2.1 32 = .ok (.bipush (-103), 2) := by decide +kernel
theorem d_Mo_run_34 : decode m_Mo_run.2.1 34 = .ok (.goto 9, 3) := by decide +kernel
theorem d_Mo_run_37 : decode m_Mo_run.2.1 37 = .ok (.aload_n 0, 1) := by decide +kernel
theorem d_Mo_run_38 : decode m_Mo_run.2.1 38 = .ok (.iload_n 1, 1) := by decide +kernel
theorem d_Mo_run_39 : decode m_Mo_run.2.1 39 = .ok (.iload_n 2, 1) := by decide +kernel
theorem d_Mo_run_40 : decode m_Mo_run.2.1 40 = .ok (.invokevirtual 213, 3) := by decide +kernel
set_option maxRecDepth 100000 in
theorem s_Mo_run_40 {G : r_X} {n : Nat} {h : r_HI} {g : r_HR} {z : r_HL} {k : Nat} {v0 v1 : Value} (hp : r_pk k = (0, 12)) (hk : k < n) : r_cl G m_Mo_run m_Mo_runOf 40 (.ref (G.2.1 + k) :: [v0, v1]) n h g z := r_clV d_Mo_run_40 w_Mo_runOf (r_in 1055 rfl rfl) a_Mo_runOf (r_inP 32 rfl rfl) n_Mo (by decide +kernel : r_mh m_Mo_runOf.1 2) hp hk (by decide)
theorem d_Mo_run_43 : decode m_Mo_run.2.1 43 = .ok (.ireturn, 1) := by decide +kernel
theorem d_Mo_laySoonest_0 : decode m_Mo_laySoonest.2.1 0 = .ok (.iconst 0, 1) := by decide +kernel
theorem d_Mo_laySoonest_1 : decode m_Mo_laySoonest.2.1 1 = .ok (.istore_n 1, 1) := by decide +kernel
theorem d_Mo_laySoonest_2 : decode m_Mo_laySoonest.2.1 2 = .ok (.iload_n 1, 1) := by decide +kernel
theorem d_Mo_laySoonest_3 : decode m_Mo_laySoonest.2.1 3 = .ok (.sipush 896, 3) := by decide +kernel
theorem d_Mo_laySoonest_6 : decode m_Mo_laySoonest.2.1 6 = .ok (.if_icmp .ge 17, 3) := by decide +kernel
theorem d_Mo_laySoonest_9 : decode m_Mo_laySoonest.2.1 9 = .ok (.aload_n 0, 1) := by decide +kernel
theorem d_Mo_laySoonest_10 : decode m_Mo_laySoonest.2.1 10 = .ok (.getfield 25, 3) := by decide +kernel
theorem d_Mo_laySoonest_13 : decode m_Mo_laySoonest.2.1 13 = .ok (.iload_n 1, 1) := by decide +kernel
theorem d_Mo_laySoonest_14 : decode m_Mo_laySoonest.2.1 14 = .ok (.ldc 216, 2) := by decide +kernel
theorem d_Mo_laySoonest_16 : decode m_Mo_laySoonest.2.1 16 = .ok (.iastore, 1) := by decide +kernel
theorem d_Mo_laySoonest_17 : decode m_Mo_laySoonest.2.1 17 = .ok (.iinc 1 1, 3) := by decide +kernel
theorem d_Mo_laySoonest_20 : decode m_Mo_laySoonest.2.1 20 = .ok (.goto (-18), 3) := by decide +kernel
theorem d_Mo_laySoonest_23 : decode m_Mo_laySoonest.2.1 23 = .ok (.iconst 0, 1) := by decide +kernel
theorem d_Mo_laySoonest_24 : decode m_Mo_laySoonest.2.1 24 = .ok (.istore_n 1, 1) := by decide +kernel
theorem d_Mo_laySoonest_25 : decode m_Mo_laySoonest.2.1 25 = .ok (.iload_n 1, 1) := by decide +kernel
theorem d_Mo_laySoonest_26 : decode m_Mo_laySoonest.2.1 26 = .ok (.aload_n 0, 1) := by decide +kernel
theorem d_Mo_laySoonest_27 : decode m_Mo_laySoonest.2.1 27 = .ok (.getfield 114, 3) := by decide +kernel
theorem d_Mo_laySoonest_30 : decode m_Mo_laySoonest.2.1 30 = .ok (.if_icmp .ge 52, 3) := by decide +kernel
theorem d_Mo_laySoonest_33 : decode m_Mo_laySoonest.2.1 33 = .ok (.aload_n 0, 1) := by decide +kernel
theorem d_Mo_laySoonest_34 : decode m_Mo_laySoonest.2.1 34 = .ok (.getfield 25, 3) := by decide +kernel
theorem d_Mo_laySoonest_37 : decode m_Mo_laySoonest.2.1 37 = .ok (.bipush 7, 2) := by decide +kernel
theorem d_Mo_laySoonest_39 : decode m_Mo_laySoonest.2.1 39 = .ok (.iconst 1, 1) := by decide +kernel
theorem d_Mo_laySoonest_40 : decode m_Mo_laySoonest.2.1 40 = .ok (.iload_n 1, 1) := by decide +kernel
theorem d_Mo_laySoonest_41 : decode m_Mo_laySoonest.2.1 41 = .ok (.ishl, 1) := by decide +kernel
theorem d_Mo_laySoonest_42 : decode m_Mo_laySoonest.2.1 42 = .ok (.imul, 1) := by decide +kernel
theorem d_Mo_laySoonest_43 : decode m_Mo_laySoonest.2.1 43 = .ok (.iload_n 1, 1) := by decide +kernel
theorem d_Mo_laySoonest_44 : decode m_Mo_laySoonest.2.1 44 = .ok (.iadd, 1) := by decide +kernel
theorem d_Mo_laySoonest_45 : decode m_Mo_laySoonest.2.1 45 = .ok (.aload_n 0, 1) := by decide +kernel
theorem d_Mo_laySoonest_46 : decode m_Mo_laySoonest.2.1 46 = .ok (.aload_n 0, 1) := by decide +kernel
theorem d_Mo_laySoonest_47 : decode m_Mo_laySoonest.2.1 47 = .ok (.getfield 108, 3) := by decide +kernel
theorem d_Mo_laySoonest_50 : decode m_Mo_laySoonest.2.1 50 = .ok (.aload_n 0, 1) := by decide +kernel
theorem d_Mo_laySoonest_51 : decode m_Mo_laySoonest.2.1 51 = .ok (.getfield 105, 3) := by decide +kernel
theorem d_Mo_laySoonest_54 : decode m_Mo_laySoonest.2.1 54 = .ok (.aload_n 0, 1) := by decide +kernel
theorem d_Mo_laySoonest_55 : decode m_Mo_laySoonest.2.1 55 = .ok (.getfield 19, 3) := by decide +kernel
theorem d_Mo_laySoonest_58 : decode m_Mo_laySoonest.2.1 58 = .ok (.iconst 3, 1) := by decide +kernel
theorem d_Mo_laySoonest_59 : decode m_Mo_laySoonest.2.1 59 = .ok (.iload_n 1, 1) := by decide +kernel
theorem d_Mo_laySoonest_60 : decode m_Mo_laySoonest.2.1 60 = .ok (.imul, 1) := by decide +kernel
theorem d_Mo_laySoonest_61 : decode m_Mo_laySoonest.2.1 61 = .ok (.iaload, 1) := by decide +kernel
theorem d_Mo_laySoonest_62 : decode m_Mo_laySoonest.2.1 62 = .ok (.aload_n 0, 1) := by decide +kernel
theorem d_Mo_laySoonest_63 : decode m_Mo_laySoonest.2.1 63 = .ok (.getfield 19, 3) := by decide +kernel
theorem d_Mo_laySoonest_66 : decode m_Mo_laySoonest.2.1 66 = .ok (.iconst 3, 1) := by decide +kernel
theorem d_Mo_laySoonest_67 : decode m_Mo_laySoonest.2.1 67 = .ok (.iload_n 1, 1) := by decide +kernel
theorem d_Mo_laySoonest_68 : decode m_Mo_laySoonest.2.1 68 = .ok (.imul, 1) := by decide +kernel
theorem d_Mo_laySoonest_69 : decode m_Mo_laySoonest.2.1 69 = .ok (.iconst 1, 1) := by decide +kernel
theorem d_Mo_laySoonest_70 : decode m_Mo_laySoonest.2.1 70 = .ok (.iadd, 1) := by decide +kernel
theorem d_Mo_laySoonest_71 : decode m_Mo_laySoonest.2.1 71 = .ok (.iaload, 1) := by decide +kernel
theorem d_Mo_laySoonest_72 : decode m_Mo_laySoonest.2.1 72 = .ok (.invokevirtual 146, 3) := by decide +kernel
set_option maxRecDepth 100000 in
theorem s_Mo_laySoonest_72 {G : r_X} {n : Nat} {h : r_HI} {g : r_HR} {z : r_HL} {k : Nat} {v0 v1 v2 v3 : Value} (hp : r_pk k = (0, 12)) (hk : k < n) : r_cl G m_Mo_laySoonest m_Mo_doneBy 72 (.ref (G.2.1 + k) :: [v0, v1, v2, v3]) n h g z := r_clV d_Mo_laySoonest_72 w_Mo_doneBy (r_in 962 rfl rfl) a_Mo_doneBy (r_inP 20 rfl rfl) n_Mo (by decide +kernel : r_mh m_Mo_doneBy.1 4) hp hk (by decide)
theorem d_Mo_laySoonest_75 : decode m_Mo_laySoonest.2.1 75 = .ok (.iastore, 1) := by decide +kernel
theorem d_Mo_laySoonest_76 : decode m_Mo_laySoonest.2.1 76 = .ok (.iinc 1 1, 3) := by decide +kernel
theorem d_Mo_laySoonest_79 : decode m_Mo_laySoonest.2.1 79 = .ok (.goto (-54), 3) := by decide +kernel
theorem d_Mo_laySoonest_82 : decode m_Mo_laySoonest.2.1 82 = .ok (.iconst 1, 1) := by decide +kernel
theorem d_Mo_laySoonest_83 : decode m_Mo_laySoonest.2.1 83 = .ok (.istore_n 1, 1) := by decide +kernel
theorem d_Mo_laySoonest_84 : decode m_Mo_laySoonest.2.1 84 = .ok (.iload_n 1, 1) := by decide +kernel
theorem d_Mo_laySoonest_85 : decode m_Mo_laySoonest.2.1 85 = .ok (.iconst 1, 1) := by decide +kernel
theorem d_Mo_laySoonest_86 : decode m_Mo_laySoonest.2.1 86 = .ok (.aload_n 0, 1) := by decide +kernel
theorem d_Mo_laySoonest_87 : decode m_Mo_laySoonest.2.1 87 = .ok (.getfield 114, 3) := by decide +kernel
theorem d_Mo_laySoonest_90 : decode m_Mo_laySoonest.2.1 90 = .ok (.ishl, 1) := by decide +kernel
theorem d_Mo_laySoonest_91 : decode m_Mo_laySoonest.2.1 91 = .ok (.if_icmp .ge 160, 3) := by decide +kernel
theorem d_Mo_laySoonest_94 : decode m_Mo_laySoonest.2.1 94 = .ok (.iconst 0, 1) := by decide +kernel
theorem d_Mo_laySoonest_95 : decode m_Mo_laySoonest.2.1 95 = .ok (.istore_n 2, 1) := by decide +kernel
theorem d_Mo_laySoonest_96 : decode m_Mo_laySoonest.2.1 96 = .ok (.iload_n 2, 1) := by decide +kernel
theorem d_Mo_laySoonest_97 : decode m_Mo_laySoonest.2.1 97 = .ok (.aload_n 0, 1) := by decide +kernel
theorem d_Mo_laySoonest_98 : decode m_Mo_laySoonest.2.1 98 = .ok (.getfield 114, 3) := by decide +kernel
theorem d_Mo_laySoonest_101 : decode m_Mo_laySoonest.2.1 101 = .ok (.aload_n 0, 1) := by decide +kernel
theorem d_Mo_laySoonest_102 : decode m_Mo_laySoonest.2.1 102 = .ok (.getfield 114, 3) := by decide +kernel
theorem d_Mo_laySoonest_105 : decode m_Mo_laySoonest.2.1 105 = .ok (.imul, 1) := by decide +kernel
theorem d_Mo_laySoonest_106 : decode m_Mo_laySoonest.2.1 106 = .ok (.if_icmp .ge 139, 3) := by decide +kernel
theorem d_Mo_laySoonest_109 : decode m_Mo_laySoonest.2.1 109 = .ok (.iload_n 2, 1) := by decide +kernel
theorem d_Mo_laySoonest_110 : decode m_Mo_laySoonest.2.1 110 = .ok (.aload_n 0, 1) := by decide +kernel
theorem d_Mo_laySoonest_111 : decode m_Mo_laySoonest.2.1 111 = .ok (.getfield 114, 3) := by decide +kernel
theorem d_Mo_laySoonest_114 : decode m_Mo_laySoonest.2.1 114 = .ok (.idiv, 1) := by decide +kernel
theorem d_Mo_laySoonest_115 : decode m_Mo_laySoonest.2.1 115 = .ok (.istore_n 3, 1) := by decide +kernel
theorem d_Mo_laySoonest_116 : decode m_Mo_laySoonest.2.1 116 = .ok (.iload_n 2, 1) := by decide +kernel
theorem d_Mo_laySoonest_117 : decode m_Mo_laySoonest.2.1 117 = .ok (.aload_n 0, 1) := by decide +kernel
theorem d_Mo_laySoonest_118 : decode m_Mo_laySoonest.2.1 118 = .ok (.getfield 114, 3) := by decide +kernel
theorem d_Mo_laySoonest_121 : decode m_Mo_laySoonest.2.1 121 = .ok (.irem, 1) := by decide +kernel
theorem d_Mo_laySoonest_122 : decode m_Mo_laySoonest.2.1 122 = .ok (.istore 4, 2) := by decide +kernel
theorem d_Mo_laySoonest_124 : decode m_Mo_laySoonest.2.1 124 = .ok (.aload_n 0, 1) := by decide +kernel
theorem d_Mo_laySoonest_125 : decode m_Mo_laySoonest.2.1 125 = .ok (.getfield 25, 3) := by decide +kernel
theorem d_Mo_laySoonest_128 : decode m_Mo_laySoonest.2.1 128 = .ok (.bipush 7, 2) := by decide +kernel
theorem d_Mo_laySoonest_130 : decode m_Mo_laySoonest.2.1 130 = .ok (.iload_n 1, 1) := by decide +kernel
theorem d_Mo_laySoonest_131 : decode m_Mo_laySoonest.2.1 131 = .ok (.imul, 1) := by decide +kernel
theorem d_Mo_laySoonest_132 : decode m_Mo_laySoonest.2.1 132 = .ok (.iload_n 3, 1) := by decide +kernel
theorem d_Mo_laySoonest_133 : decode m_Mo_laySoonest.2.1 133 = .ok (.iadd, 1) := by decide +kernel
theorem d_Mo_laySoonest_134 : decode m_Mo_laySoonest.2.1 134 = .ok (.iaload, 1) := by decide +kernel
theorem d_Mo_laySoonest_135 : decode m_Mo_laySoonest.2.1 135 = .ok (.ldc 216, 2) := by decide +kernel
theorem d_Mo_laySoonest_137 : decode m_Mo_laySoonest.2.1 137 = .ok (.if_icmp .ge 102, 3) := by decide +kernel
theorem d_Mo_laySoonest_140 : decode m_Mo_laySoonest.2.1 140 = .ok (.iload_n 1, 1) := by decide +kernel
theorem d_Mo_laySoonest_141 : decode m_Mo_laySoonest.2.1 141 = .ok (.iload 4, 2) := by decide +kernel
theorem d_Mo_laySoonest_143 : decode m_Mo_laySoonest.2.1 143 = .ok (.ishr, 1) := by decide +kernel
theorem d_Mo_laySoonest_144 : decode m_Mo_laySoonest.2.1 144 = .ok (.iconst 1, 1) := by decide +kernel
theorem d_Mo_laySoonest_145 : decode m_Mo_laySoonest.2.1 145 = .ok (.iand, 1) := by decide +kernel
theorem d_Mo_laySoonest_146 : decode m_Mo_laySoonest.2.1 146 = .ok (.ifCond .ne 93, 3) := by decide +kernel
theorem d_Mo_laySoonest_149 : decode m_Mo_laySoonest.2.1 149 = .ok (.aload_n 0, 1) := by decide +kernel
theorem d_Mo_laySoonest_150 : decode m_Mo_laySoonest.2.1 150 = .ok (.aload_n 0, 1) := by decide +kernel
theorem d_Mo_laySoonest_151 : decode m_Mo_laySoonest.2.1 151 = .ok (.getfield 19, 3) := by decide +kernel
theorem d_Mo_laySoonest_154 : decode m_Mo_laySoonest.2.1 154 = .ok (.iconst 3, 1) := by decide +kernel
theorem d_Mo_laySoonest_155 : decode m_Mo_laySoonest.2.1 155 = .ok (.iload_n 3, 1) := by decide +kernel
theorem d_Mo_laySoonest_156 : decode m_Mo_laySoonest.2.1 156 = .ok (.imul, 1) := by decide +kernel
theorem d_Mo_laySoonest_157 : decode m_Mo_laySoonest.2.1 157 = .ok (.iaload, 1) := by decide +kernel
theorem d_Mo_laySoonest_158 : decode m_Mo_laySoonest.2.1 158 = .ok (.aload_n 0, 1) := by decide +kernel
theorem d_Mo_laySoonest_159 : decode m_Mo_laySoonest.2.1 159 = .ok (.getfield 25, 3) := by decide +kernel
theorem d_Mo_laySoonest_162 : decode m_Mo_laySoonest.2.1 162 = .ok (.bipush 7, 2) := by decide +kernel
theorem d_Mo_laySoonest_164 : decode m_Mo_laySoonest.2.1 164 = .ok (.iload_n 1, 1) := by decide +kernel
theorem d_Mo_laySoonest_165 : decode m_Mo_laySoonest.2.1 165 = .ok (.imul, 1) := by decide +kernel
theorem d_Mo_laySoonest_166 : decode m_Mo_laySoonest.2.1 166 = .ok (.iload_n 3, 1) := by decide +kernel
theorem d_Mo_laySoonest_167 : decode m_Mo_laySoonest.2.1 167 = .ok (.iadd, 1) := by decide +kernel
theorem d_Mo_laySoonest_168 : decode m_Mo_laySoonest.2.1 168 = .ok (.iaload, 1) := by decide +kernel
theorem d_Mo_laySoonest_169 : decode m_Mo_laySoonest.2.1 169 = .ok (.aload_n 0, 1) := by decide +kernel
theorem d_Mo_laySoonest_170 : decode m_Mo_laySoonest.2.1 170 = .ok (.getfield 19, 3) := by decide +kernel
theorem d_Mo_laySoonest_173 : decode m_Mo_laySoonest.2.1 173 = .ok (.iconst 3, 1) := by decide +kernel
theorem d_Mo_laySoonest_174 : decode m_Mo_laySoonest.2.1 174 = .ok (.iload 4, 2) := by decide +kernel
theorem d_Mo_laySoonest_176 : decode m_Mo_laySoonest.2.1 176 = .ok (.imul, 1) := by decide +kernel
theorem d_Mo_laySoonest_177 : decode m_Mo_laySoonest.2.1 177 = .ok (.iaload, 1) := by decide +kernel
theorem d_Mo_laySoonest_178 : decode m_Mo_laySoonest.2.1 178 = .ok (.aload_n 0, 1) := by decide +kernel
theorem d_Mo_laySoonest_179 : decode m_Mo_laySoonest.2.1 179 = .ok (.getfield 19, 3) := by decide +kernel
theorem d_Mo_laySoonest_182 : decode m_Mo_laySoonest.2.1 182 = .ok (.iconst 3, 1) := by decide +kernel
theorem d_Mo_laySoonest_183 : decode m_Mo_laySoonest.2.1 183 = .ok (.iload 4, 2) := by decide +kernel
theorem d_Mo_laySoonest_185 : decode m_Mo_laySoonest.2.1 185 = .ok (.imul, 1) := by decide +kernel
theorem d_Mo_laySoonest_186 : decode m_Mo_laySoonest.2.1 186 = .ok (.iconst 1, 1) := by decide +kernel
theorem d_Mo_laySoonest_187 : decode m_Mo_laySoonest.2.1 187 = .ok (.iadd, 1) := by decide +kernel
theorem d_Mo_laySoonest_188 : decode m_Mo_laySoonest.2.1 188 = .ok (.iaload, 1) := by decide +kernel
theorem d_Mo_laySoonest_189 : decode m_Mo_laySoonest.2.1 189 = .ok (.invokevirtual 146, 3) := by decide +kernel
set_option maxRecDepth 100000 in
theorem s_Mo_laySoonest_189 {G : r_X} {n : Nat} {h : r_HI} {g : r_HR} {z : r_HL} {k : Nat} {v0 v1 v2 v3 : Value} (hp : r_pk k = (0, 12)) (hk : k < n) : r_cl G m_Mo_laySoonest m_Mo_doneBy 189 (.ref (G.2.1 + k) :: [v0, v1, v2, v3]) n h g z := r_clV d_Mo_laySoonest_189 w_Mo_doneBy (r_in 962 rfl rfl) a_Mo_doneBy (r_inP 20 rfl rfl) n_Mo (by decide +kernel : r_mh m_Mo_doneBy.1 4) hp hk (by decide)
theorem d_Mo_laySoonest_192 : decode m_Mo_laySoonest.2.1 192 = .ok (.istore 5, 2) := by decide +kernel
theorem d_Mo_laySoonest_194 : decode m_Mo_laySoonest.2.1 194 = .ok (.bipush 7, 2) := by decide +kernel
theorem d_Mo_laySoonest_196 : decode m_Mo_laySoonest.2.1 196 = .ok (.iload_n 1, 1) := by decide +kernel
theorem d_Mo_laySoonest_197 : decode m_Mo_laySoonest.2.1 197 = .ok (.iconst 1, 1) := by decide +kernel
theorem d_Mo_laySoonest_198 : decode m_Mo_laySoonest.2.1 198 = .ok (.iload 4, 2) := by decide +kernel
theorem d_Mo_laySoonest_200 : decode m_Mo_laySoonest.2.1 200 = .ok (.ishl, 1) := by decide +kernel
theorem d_Mo_laySoonest_201 : decode m_Mo_laySoonest.2.1 201 = .ok (.ior, 1) := by decide +kernel
theorem d_Mo_laySoonest_202 : decode m_Mo_laySoonest.2.1 202 = .ok (.imul, 1) := by decide +kernel
theorem d_Mo_laySoonest_203 : decode m_Mo_laySoonest.2.1 203 = .ok (.iload 4, 2) := by decide +kernel
theorem d_Mo_laySoonest_205 : decode m_Mo_laySoonest.2.1 205 = .ok (.iadd, 1) := by decide +kernel
theorem d_Mo_laySoonest_206 : decode m_Mo_laySoonest.2.1 206 = .ok (.istore 6, 2) := by decide +kernel
theorem d_Mo_laySoonest_208 : decode m_Mo_laySoonest.2.1 208 = .ok (.aload_n 0, 1) := by decide +kernel
theorem d_Mo_laySoonest_209 : decode m_Mo_laySoonest.2.1 209 = .ok (.getfield 25, 3) := by decide +kernel
theorem d_Mo_laySoonest_212 : decode m_Mo_laySoonest.2.1 212 = .ok (.iload 6, 2) := by decide +kernel
theorem d_Mo_laySoonest_214 : decode m_Mo_laySoonest.2.1 214 = .ok (.iload 5, 2) := by decide +kernel
theorem d_Mo_laySoonest_216 : decode m_Mo_laySoonest.2.1 216 = .ok (.aload_n 0, 1) := by decide +kernel
theorem d_Mo_laySoonest_217 : decode m_Mo_laySoonest.2.1 217 = .ok (.getfield 25, 3) := by decide +kernel
theorem d_Mo_laySoonest_220 : decode m_Mo_laySoonest.2.1 220 = .ok (.iload 6, 2) := by decide +kernel
theorem d_Mo_laySoonest_222 : decode m_Mo_laySoonest.2.1 222 = .ok (.iaload, 1) := by decide +kernel
theorem d_Mo_laySoonest_223 : decode m_Mo_laySoonest.2.1 223 = .ok (.if_icmp .ge 8, 3) := by decide +kernel
theorem d_Mo_laySoonest_226 : decode m_Mo_laySoonest.2.1 226 = .ok (.iload 5, 2) := by decide +kernel
theorem d_Mo_laySoonest_228 : decode m_Mo_laySoonest.2.1 228 = .ok (.goto 10, 3) := by decide +kernel
theorem d_Mo_laySoonest_231 : decode m_Mo_laySoonest.2.1 231 = .ok (.aload_n 0, 1) := by decide +kernel
theorem d_Mo_laySoonest_232 : decode m_Mo_laySoonest.2.1 232 = .ok (.getfield 25, 3) := by decide +kernel
theorem d_Mo_laySoonest_235 : decode m_Mo_laySoonest.2.1 235 = .ok (.iload 6, 2) := by decide +kernel
theorem d_Mo_laySoonest_237 : decode m_Mo_laySoonest.2.1 237 = .ok (.iaload, 1) := by decide +kernel
theorem d_Mo_laySoonest_238 : decode m_Mo_laySoonest.2.1 238 = .ok (.iastore, 1) := by decide +kernel
theorem d_Mo_laySoonest_239 : decode m_Mo_laySoonest.2.1 239 = .ok (.iinc 2 1, 3) := by decide +kernel
theorem d_Mo_laySoonest_242 : decode m_Mo_laySoonest.2.1 242 = .ok (.goto (-146), 3) := by decide +kernel
theorem d_Mo_laySoonest_245 : decode m_Mo_laySoonest.2.1 245 = .ok (.iinc 1 1, 3) := by decide +kernel
theorem d_Mo_laySoonest_248 : decode m_Mo_laySoonest.2.1 248 = .ok (.goto (-164), 3) := by decide +kernel
theorem d_Mo_laySoonest_251 : decode m_Mo_laySoonest.2.1 251 = .ok (.return_, 1) := by decide +kernel
theorem d_Mo_factorial_0 : decode m_Mo_factorial.2.1 0 = .ok (.iconst 1, 1) := by decide +kernel
theorem d_Mo_factorial_1 : decode m_Mo_factorial.2.1 1 = .ok (.istore_n 1, 1) := by decide +kernel
theorem d_Mo_factorial_2 : decode m_Mo_factorial.2.1 2 = .ok (.iconst 2, 1) := by decide +kernel
theorem d_Mo_factorial_3 : decode m_Mo_factorial.2.1 3 = .ok (.istore_n 2, 1) := by decide +kernel
theorem d_Mo_factorial_4 : decode m_Mo_factorial.2.1 4 = .ok (.iload_n 2, 1) := by decide +kernel
theorem d_Mo_factorial_5 : decode m_Mo_factorial.2.1 5 = .ok (.iload_n 0, 1) := by decide +kernel
theorem d_Mo_factorial_6 : decode m_Mo_factorial.2.1 6 = .ok (.if_icmp .gt 13, 3) := by decide +kernel
theorem d_Mo_factorial_9 : decode m_Mo_factorial.2.1 9 = .ok (.iload_n 1, 1) := by decide +kernel
theorem d_Mo_factorial_10 : decode m_Mo_factorial.2.1 10 = .ok (.iload_n 2, 1) := by decide +kernel
theorem d_Mo_factorial_11 : decode m_Mo_factorial.2.1 11 = .ok (.imul, 1) := by decide +kernel
theorem d_Mo_factorial_12 : decode m_Mo_factorial.2.1 12 = .ok (.istore_n 1, 1) := by decide +kernel
theorem d_Mo_factorial_13 : decode m_Mo_factorial.2.1 13 = .ok (.iinc 2 1, 3) := by decide +kernel
theorem d_Mo_factorial_16 : decode m_Mo_factorial.2.1 16 = .ok (.goto (-12), 3) := by decide +kernel
theorem d_Mo_factorial_19 : decode m_Mo_factorial.2.1 19 = .ok (.iload_n 1, 1) := by decide +kernel
theorem d_Mo_factorial_20 : decode m_Mo_factorial.2.1 20 = .ok (.ireturn, 1) := by decide +kernel
theorem d_Mo_layTried_0 : decode m_Mo_layTried.2.1 0 = .ok (.iload_n 1, 1) := by decide +kernel
theorem d_Mo_layTried_1 : decode m_Mo_layTried.2.1 1 = .ok (.istore_n 3, 1) := by decide +kernel
theorem d_Mo_layTried_2 : decode m_Mo_layTried.2.1 2 = .ok (.iconst 0, 1) := by decide +kernel
theorem d_Mo_layTried_3 : decode m_Mo_layTried.2.1 3 = .ok (.istore 4, 2) := by decide +kernel
theorem d_Mo_layTried_5 : decode m_Mo_layTried.2.1 5 = .ok (.iconst 0, 1) := by decide +kernel
theorem d_Mo_layTried_6 : decode m_Mo_layTried.2.1 6 = .ok (.istore 5, 2) := by decide +kernel
theorem d_Mo_layTried_8 : decode m_Mo_layTried.2.1 8 = .ok (.iload 5, 2) := by decide +kernel
theorem d_Mo_layTried_10 : decode m_Mo_layTried.2.1 10 = .ok (.iload_n 2, 1) := by decide +kernel
theorem d_Mo_layTried_11 : decode m_Mo_layTried.2.1 11 = .ok (.if_icmp .ge 95, 3) := by decide +kernel
theorem d_Mo_layTried_14 : decode m_Mo_layTried.2.1 14 = .ok (.iload_n 2, 1) := by decide +kernel
theorem d_Mo_layTried_15 : decode m_Mo_layTried.2.1 15 = .ok (.iconst 1, 1) := by decide +kernel
theorem d_Mo_layTried_16 : decode m_Mo_layTried.2.1 16 = .ok (.isub, 1) := by decide +kernel
theorem d_Mo_layTried_17 : decode m_Mo_layTried.2.1 17 = .ok (.iload 5, 2) := by decide +kernel
theorem d_Mo_layTried_19 : decode m_Mo_layTried.2.1 19 = .ok (.isub, 1) := by decide +kernel
theorem d_Mo_layTried_20 : decode m_Mo_layTried.2.1 20 = .ok (.invokestatic 217, 3) := by decide +kernel
set_option maxRecDepth 100000 in
theorem s_Mo_layTried_20 {G : r_X} {n : Nat} {h : r_HI} {g : r_HR} {z : r_HL} {v0 : Value} : r_cl G m_Mo_layTried m_Mo_factorial 20 [v0] n h g z := r_clS d_Mo_layTried_20 w_Mo_factorial (r_in 1078 rfl rfl) a_Mo_factorial n_Mo (by decide +kernel : r_mh m_Mo_factorial.1 1)
theorem d_Mo_layTried_23 : decode m_Mo_layTried.2.1 23 = .ok (.istore 6, 2) := by decide +kernel
theorem d_Mo_layTried_25 : decode m_Mo_layTried.2.1 25 = .ok (.iload_n 3, 1) := by decide +kernel
theorem d_Mo_layTried_26 : decode m_Mo_layTried.2.1 26 = .ok (.iload 6, 2) := by decide +kernel
theorem d_Mo_layTried_28 : decode m_Mo_layTried.2.1 28 = .ok (.idiv, 1) := by decide +kernel
theorem d_Mo_layTried_29 : decode m_Mo_layTried.2.1 29 = .ok (.istore 7, 2) := by decide +kernel
theorem d_Mo_layTried_31 : decode m_Mo_layTried.2.1 31 = .ok (.iload_n 3, 1) := by decide +kernel
theorem d_Mo_layTried_32 : decode m_Mo_layTried.2.1 32 = .ok (.iload 6, 2) := by decide +kernel
theorem d_Mo_layTried_34 : decode m_Mo_layTried.2.1 34 = .ok (.irem, 1) := by decide +kernel
theorem d_Mo_layTried_35 : decode m_Mo_layTried.2.1 35 = .ok (.istore_n 3, 1) := by decide +kernel
theorem d_Mo_layTried_36 : decode m_Mo_layTried.2.1 36 = .ok (.iconst 0, 1) := by decide +kernel
theorem d_Mo_layTried_37 : decode m_Mo_layTried.2.1 37 = .ok (.istore 8, 2) := by decide +kernel
theorem d_Mo_layTried_39 : decode m_Mo_layTried.2.1 39 = .ok (.iload 4, 2) := by decide +kernel
theorem d_Mo_layTried_41 : decode m_Mo_layTried.2.1 41 = .ok (.iload 8, 2) := by decide +kernel
theorem d_Mo_layTried_43 : decode m_Mo_layTried.2.1 43 = .ok (.ishr, 1) := by decide +kernel
theorem d_Mo_layTried_44 : decode m_Mo_layTried.2.1 44 = .ok (.iconst 1, 1) := by decide +kernel
theorem d_Mo_layTried_45 : decode m_Mo_layTried.2.1 45 = .ok (.iand, 1) := by decide +kernel
theorem d_Mo_layTried_46 : decode m_Mo_layTried.2.1 46 = .ok (.iconst 1, 1) := by decide +kernel
theorem d_Mo_layTried_47 : decode m_Mo_layTried.2.1 47 = .ok (.if_icmp .eq 8, 3) := by decide +kernel
theorem d_Mo_layTried_50 : decode m_Mo_layTried.2.1 50 = .ok (.iload 7, 2) := by decide +kernel
theorem d_Mo_layTried_52 : decode m_Mo_layTried.2.1 52 = .ok (.ifCond .le 30, 3) := by decide +kernel
theorem d_Mo_layTried_55 : decode m_Mo_layTried.2.1 55 = .ok (.iload 7, 2) := by decide +kernel
theorem d_Mo_layTried_57 : decode m_Mo_layTried.2.1 57 = .ok (.iload 4, 2) := by decide +kernel
theorem d_Mo_layTried_59 : decode m_Mo_layTried.2.1 59 = .ok (.iload 8, 2) := by decide +kernel
theorem d_Mo_layTried_61 : decode m_Mo_layTried.2.1 61 = .ok (.ishr, 1) := by decide +kernel
theorem d_Mo_layTried_62 : decode m_Mo_layTried.2.1 62 = .ok (.iconst 1, 1) := by decide +kernel
theorem d_Mo_layTried_63 : decode m_Mo_layTried.2.1 63 = .ok (.iand, 1) := by decide +kernel
theorem d_Mo_layTried_64 : decode m_Mo_layTried.2.1 64 = .ok (.iconst 1, 1) := by decide +kernel
theorem d_Mo_layTried_65 : decode m_Mo_layTried.2.1 65 = .ok (.if_icmp .ne 7, 3) := by decide +kernel
theorem d_Mo_layTried_68 : decode m_Mo_layTried.2.1 68 = .ok (.iconst 0, 1) := by decide +kernel
theorem d_Mo_layTried_69 : decode m_Mo_layTried.2.1 69 = .ok (.goto 4, 3) := by decide +kernel
theorem d_Mo_layTried_72 : decode m_Mo_layTried.2.1 72 = .ok (.iconst 1, 1) := by decide +kernel
theorem d_Mo_layTried_73 : decode m_Mo_layTried.2.1 73 = .ok (.isub, 1) := by decide +kernel
theorem d_Mo_layTried_74 : decode m_Mo_layTried.2.1 74 = .ok (.istore 7, 2) := by decide +kernel
theorem d_Mo_layTried_76 : decode m_Mo_layTried.2.1 76 = .ok (.iinc 8 1, 3) := by decide +kernel
theorem d_Mo_layTried_79 : decode m_Mo_layTried.2.1 79 = .ok (.goto (-40), 3) := by decide +kernel
theorem d_Mo_layTried_82 : decode m_Mo_layTried.2.1 82 = .ok (.aload_n 0, 1) := by decide +kernel
theorem d_Mo_layTried_83 : decode m_Mo_layTried.2.1 83 = .ok (.getfield 28, 3) := by decide +kernel
theorem d_Mo_layTried_86 : decode m_Mo_layTried.2.1 86 = .ok (.iload 5, 2) := by decide +kernel
theorem d_Mo_layTried_88 : decode m_Mo_layTried.2.1 88 = .ok (.iload 8, 2) := by decide +kernel
theorem d_Mo_layTried_90 : decode m_Mo_layTried.2.1 90 = .ok (.iastore, 1) := by decide +kernel
theorem d_Mo_layTried_91 : decode m_Mo_layTried.2.1 91 = .ok (.iload 4, 2) := by decide +kernel
theorem d_Mo_layTried_93 : decode m_Mo_layTried.2.1 93 = .ok (.iconst 1, 1) := by decide +kernel
theorem d_Mo_layTried_94 : decode m_Mo_layTried.2.1 94 = .ok (.iload 8, 2) := by decide +kernel
theorem d_Mo_layTried_96 : decode m_Mo_layTried.2.1 96 = .ok (.ishl, 1) := by decide +kernel
theorem d_Mo_layTried_97 : decode m_Mo_layTried.2.1 97 = .ok (.ior, 1) := by decide +kernel
theorem d_Mo_layTried_98 : decode m_Mo_layTried.2.1 98 = .ok (.istore 4, 2) := by decide +kernel
theorem d_Mo_layTried_100 : decode m_Mo_layTried.2.1 100 = .ok (.iinc 5 1, 3) := by decide +kernel
theorem d_Mo_layTried_103 : decode m_Mo_layTried.2.1 103 = .ok (.goto (-95), 3) := by decide +kernel
theorem d_Mo_layTried_106 : decode m_Mo_layTried.2.1 106 = .ok (.return_, 1) := by decide +kernel
theorem d_Mo_endOfTried_0 : decode m_Mo_endOfTried.2.1 0 = .ok (.aload_n 0, 1) := by decide +kernel
theorem d_Mo_endOfTried_1 : decode m_Mo_endOfTried.2.1 1 = .ok (.getfield 108, 3) := by decide +kernel
theorem d_Mo_endOfTried_4 : decode m_Mo_endOfTried.2.1 4 = .ok (.istore_n 1, 1) := by decide +kernel
theorem d_Mo_endOfTried_5 : decode m_Mo_endOfTried.2.1 5 = .ok (.aload_n 0, 1) := by decide +kernel
theorem d_Mo_endOfTried_6 : decode m_Mo_endOfTried.2.1 6 = .ok (.getfield 105, 3) := by decide +kernel
theorem d_Mo_endOfTried_9 : decode m_Mo_endOfTried.2.1 9 = .ok (.istore_n 2, 1) := by decide +kernel
theorem d_Mo_endOfTried_10 : decode m_Mo_endOfTried.2.1 10 = .ok (.iconst 0, 1) := by decide +kernel
theorem d_Mo_endOfTried_11 : decode m_Mo_endOfTried.2.1 11 = .ok (.istore_n 3, 1) := by decide +kernel
theorem d_Mo_endOfTried_12 : decode m_Mo_endOfTried.2.1 12 = .ok (.iload_n 3, 1) := by decide +kernel
theorem d_Mo_endOfTried_13 : decode m_Mo_endOfTried.2.1 13 = .ok (.aload_n 0, 1) := by decide +kernel
theorem d_Mo_endOfTried_14 : decode m_Mo_endOfTried.2.1 14 = .ok (.getfield 114, 3) := by decide +kernel
theorem d_Mo_endOfTried_17 : decode m_Mo_endOfTried.2.1 17 = .ok (.if_icmp .ge 54, 3) := by decide +kernel
theorem d_Mo_endOfTried_20 : decode m_Mo_endOfTried.2.1 20 = .ok (.aload_n 0, 1) := by decide +kernel
theorem d_Mo_endOfTried_21 : decode m_Mo_endOfTried.2.1 21 = .ok (.getfield 28, 3) := by decide +kernel
theorem d_Mo_endOfTried_24 : decode m_Mo_endOfTried.2.1 24 = .ok (.iload_n 3, 1) := by decide +kernel
theorem d_Mo_endOfTried_25 : decode m_Mo_endOfTried.2.1 25 = .ok (.iaload, 1) := by decide +kernel
theorem d_Mo_endOfTried_26 : decode m_Mo_endOfTried.2.1 26 = .ok (.istore 4, 2) := by decide +kernel
theorem d_Mo_endOfTried_28 : decode m_Mo_endOfTried.2.1 28 = .ok (.aload_n 0, 1) := by decide +kernel
theorem d_Mo_endOfTried_29 : decode m_Mo_endOfTried.2.1 29 = .ok (.iload_n 1, 1) := by decide +kernel
theorem d_Mo_endOfTried_30 : decode m_Mo_endOfTried.2.1 30 = .ok (.iload_n 2, 1) := by decide +kernel
theorem d_Mo_endOfTried_31 : decode m_Mo_endOfTried.2.1 31 = .ok (.aload_n 0, 1) := by decide +kernel
theorem d_Mo_endOfTried_32 : decode m_Mo_endOfTried.2.1 32 = .ok (.getfield 19, 3) := by decide +kernel
theorem d_Mo_endOfTried_35 : decode m_Mo_endOfTried.2.1 35 = .ok (.iconst 3, 1) := by decide +kernel
theorem d_Mo_endOfTried_36 : decode m_Mo_endOfTried.2.1 36 = .ok (.iload 4, 2) := by decide +kernel
theorem d_Mo_endOfTried_38 : decode m_Mo_endOfTried.2.1 38 = .ok (.imul, 1) := by decide +kernel
theorem d_Mo_endOfTried_39 : decode m_Mo_endOfTried.2.1 39 = .ok (.iaload, 1) := by decide +kernel
theorem d_Mo_endOfTried_40 : decode m_Mo_endOfTried.2.1 40 = .ok (.aload_n 0, 1) := by decide +kernel
theorem d_Mo_endOfTried_41 : decode m_Mo_endOfTried.2.1 41 = .ok (.getfield 19, 3) := by decide +kernel
theorem d_Mo_endOfTried_44 : decode m_Mo_endOfTried.2.1 44 = .ok (.iconst 3, 1) := by decide +kernel
theorem d_Mo_endOfTried_45 : decode m_Mo_endOfTried.2.1 45 = .ok (.iload 4, 2) := by decide +kernel
theorem d_Mo_endOfTried_47 : decode m_Mo_endOfTried.2.1 47 = .ok (.imul, 1) := by decide +kernel
theorem d_Mo_endOfTried_48 : decode m_Mo_endOfTried.2.1 48 = .ok (.iconst 1, 1) := by decide +kernel
theorem d_Mo_endOfTried_49 : decode m_Mo_endOfTried.2.1 49 = .ok (.iadd, 1) := by decide +kernel
theorem d_Mo_endOfTried_50 : decode m_Mo_endOfTried.2.1 50 = .ok (.iaload, 1) := by decide +kernel
theorem d_Mo_endOfTried_51 : decode m_Mo_endOfTried.2.1 51 = .ok (.invokevirtual 146, 3) := by decide +kernel
set_option maxRecDepth 100000 in
theorem s_Mo_endOfTried_51 {G : r_X} {n : Nat} {h : r_HI} {g : r_HR} {z : r_HL} {k : Nat} {v0 v1 v2 v3 : Value} (hp : r_pk k = (0, 12)) (hk : k < n) : r_cl G m_Mo_endOfTried m_Mo_doneBy 51 (.ref (G.2.1 + k) :: [v0, v1, v2, v3]) n h g z := r_clV d_Mo_endOfTried_51 w_Mo_doneBy (r_in 962 rfl rfl) a_Mo_doneBy (r_inP 20 rfl rfl) n_Mo (by decide +kernel : r_mh m_Mo_doneBy.1 4) hp hk (by decide)
theorem d_Mo_endOfTried_54 : decode m_Mo_endOfTried.2.1 54 = .ok (.istore_n 2, 1) := by decide +kernel
theorem d_Mo_endOfTried_55 : decode m_Mo_endOfTried.2.1 55 = .ok (.aload_n 0, 1) := by decide +kernel
theorem d_Mo_endOfTried_56 : decode m_Mo_endOfTried.2.1 56 = .ok (.getfield 19, 3) := by decide +kernel
theorem d_Mo_endOfTried_59 : decode m_Mo_endOfTried.2.1 59 = .ok (.iconst 3, 1) := by decide +kernel
theorem d_Mo_endOfTried_60 : decode m_Mo_endOfTried.2.1 60 = .ok (.iload 4, 2) := by decide +kernel
theorem d_Mo_endOfTried_62 : decode m_Mo_endOfTried.2.1 62 = .ok (.imul, 1) := by decide +kernel
theorem d_Mo_endOfTried_63 : decode m_Mo_endOfTried.2.1 63 = .ok (.iaload, 1) := by decide +kernel
theorem d_Mo_endOfTried_64 : decode m_Mo_endOfTried.2.1 64 = .ok (.istore_n 1, 1) := by decide +kernel
theorem d_Mo_endOfTried_65 : decode m_Mo_endOfTried.2.1 65 = .ok (.iinc 3 1, 3) := by decide +kernel
theorem d_Mo_endOfTried_68 : decode m_Mo_endOfTried.2.1 68 = .ok (.goto (-56), 3) := by decide +kernel
theorem d_Mo_endOfTried_71 : decode m_Mo_endOfTried.2.1 71 = .ok (.iload_n 2, 1) := by decide +kernel
theorem d_Mo_endOfTried_72 : decode m_Mo_endOfTried.2.1 72 = .ok (.ireturn, 1) := by decide +kernel
theorem d_Mo_leastOf_0 : decode m_Mo_leastOf.2.1 0 = .ok (.aload_n 0, 1) := by decide +kernel
theorem d_Mo_leastOf_1 : decode m_Mo_leastOf.2.1 1 = .ok (.getfield 114, 3) := by decide +kernel
theorem d_Mo_leastOf_4 : decode m_Mo_leastOf.2.1 4 = .ok (.ifCond .ne 16, 3) := by decide +kernel
theorem d_Mo_leastOf_7 : decode m_Mo_leastOf.2.1 7 = .ok (.iload_n 1, 1) := by decide +kernel
theorem d_Mo_leastOf_8 : decode m_Mo_leastOf.2.1 8 = .ok (.ifCond .ne 10, 3) := by decide +kernel
theorem d_Mo_leastOf_11 : decode m_Mo_leastOf.2.1 11 = .ok (.aload_n 0, 1) := by decide +kernel
theorem d_Mo_leastOf_12 : decode m_Mo_leastOf.2.1 12 = .ok (.getfield 105, 3) := by decide +kernel
theorem d_Mo_leastOf_15 : decode m_Mo_leastOf.2.1 15 = .ok (.goto 4, 3) := by decide +kernel
theorem d_Mo_leastOf_18 : decode m_Mo_leastOf.2.1 18 = .ok (.iconst (-1), 1) := by decide +kernel
theorem d_Mo_leastOf_19 : decode m_Mo_leastOf.2.1 19 = .ok (.ireturn, 1) := by decide +kernel
theorem d_Mo_leastOf_20 : decode m_Mo_leastOf.2.1 20 = .ok (.aload_n 0, 1) := by decide +kernel
theorem d_Mo_leastOf_21 : decode m_Mo_leastOf.2.1 21 = .ok (.invokevirtual 220, 3) := by decide +kernel
set_option maxRecDepth 100000 in
theorem s_Mo_leastOf_21 {G : r_X} {n : Nat} {h : r_HI} {g : r_HR} {z : r_HL} {k : Nat} (hp : r_pk k = (0, 12)) (hk : k < n) : r_cl G m_Mo_leastOf m_Mo_laySoonest 21 (.ref (G.2.1 + k) :: []) n h g z := r_clV d_Mo_leastOf_21 w_Mo_laySoonest (r_in 1069 rfl rfl) a_Mo_laySoonest (r_inP 34 rfl rfl) n_Mo (by decide +kernel : r_mh m_Mo_laySoonest.1 0) hp hk (by decide)
theorem d_Mo_leastOf_24 : decode m_Mo_leastOf.2.1 24 = .ok (.ldc 216, 2) := by decide +kernel
theorem d_Mo_leastOf_26 : decode m_Mo_leastOf.2.1 26 = .ok (.istore_n 2, 1) := by decide +kernel
theorem d_Mo_leastOf_27 : decode m_Mo_leastOf.2.1 27 = .ok (.iconst 0, 1) := by decide +kernel
theorem d_Mo_leastOf_28 : decode m_Mo_leastOf.2.1 28 = .ok (.istore_n 3, 1) := by decide +kernel
theorem d_Mo_leastOf_29 : decode m_Mo_leastOf.2.1 29 = .ok (.iload_n 3, 1) := by decide +kernel
theorem d_Mo_leastOf_30 : decode m_Mo_leastOf.2.1 30 = .ok (.aload_n 0, 1) := by decide +kernel
theorem d_Mo_leastOf_31 : decode m_Mo_leastOf.2.1 31 = .ok (.getfield 114, 3) := by decide +kernel
theorem d_Mo_leastOf_34 : decode m_Mo_leastOf.2.1 34 = .ok (.if_icmp .ge 42, 3) := by decide +kernel
theorem d_Mo_leastOf_37 : decode m_Mo_leastOf.2.1 37 = .ok (.aload_n 0, 1) := by decide +kernel
theorem d_Mo_leastOf_38 : decode m_Mo_leastOf.2.1 38 = .ok (.getfield 25, 3) := by decide +kernel
theorem d_Mo_leastOf_41 : decode m_Mo_leastOf.2.1 41 = .ok (.bipush 7, 2) := by decide +kernel
theorem d_Mo_leastOf_43 : decode m_Mo_leastOf.2.1 43 = .ok (.iconst 1, 1) := by decide +kernel
theorem d_Mo_leastOf_44 : decode m_Mo_leastOf.2.1 44 = .ok (.aload_n 0, 1) := by decide +kernel
theorem d_Mo_leastOf_45 : decode m_Mo_leastOf.2.1 45 = .ok (.getfield 114, 3) := by decide +kernel
theorem d_Mo_leastOf_48 : decode m_Mo_leastOf.2.1 48 = .ok (.ishl, 1) := by decide +kernel
theorem d_Mo_leastOf_49 : decode m_Mo_leastOf.2.1 49 = .ok (.iconst 1, 1) := by decide +kernel
theorem d_Mo_leastOf_50 : decode m_Mo_leastOf.2.1 50 = .ok (.isub, 1) := by decide +kernel
theorem d_Mo_leastOf_51 : decode m_Mo_leastOf.2.1 51 = .ok (.imul, 1) := by decide +kernel
theorem d_Mo_leastOf_52 : decode m_Mo_leastOf.2.1 52 = .ok (.iload_n 3, 1) := by decide +kernel
theorem d_Mo_leastOf_53 : decode m_Mo_leastOf.2.1 53 = .ok (.iadd, 1) := by decide +kernel
theorem d_Mo_leastOf_54 : decode m_Mo_leastOf.2.1 54 = .ok (.iaload, 1) := by decide +kernel
theorem d_Mo_leastOf_55 : decode m_Mo_leastOf.2.1 55 = .ok (.istore 4, 2) := by decide +kernel
theorem d_Mo_leastOf_57 : decode m_Mo_leastOf.2.1 57 = .ok (.iload 4, 2) := by decide +kernel
theorem d_Mo_leastOf_59 : decode m_Mo_leastOf.2.1 59 = .ok (.iload_n 2, 1) := by decide +kernel
theorem d_Mo_leastOf_60 : decode m_Mo_leastOf.2.1 60 = .ok (.if_icmp .ge 8, 3) := by decide +kernel
theorem d_Mo_leastOf_63 : decode m_Mo_leastOf.2.1 63 = .ok (.iload 4, 2) := by decide +kernel
theorem d_Mo_leastOf_65 : decode m_Mo_leastOf.2.1 65 = .ok (.goto 4, 3) := by decide +kernel
theorem d_Mo_leastOf_68 : decode m_Mo_leastOf.2.1 68 = .ok (.iload_n 2, 1) := by decide +kernel
theorem d_Mo_leastOf_69 : decode m_Mo_leastOf.2.1 69 = .ok (.istore_n 2, 1) := by decide +kernel
theorem d_Mo_leastOf_70 : decode m_Mo_leastOf.2.1 70 = .ok (.iinc 3 1, 3) := by decide +kernel
theorem d_Mo_leastOf_73 : decode m_Mo_leastOf.2.1 73 = .ok (.goto (-44), 3) := by decide +kernel
theorem d_Mo_leastOf_76 : decode m_Mo_leastOf.2.1 76 = .ok (.iload_n 1, 1) := by decide +kernel
theorem d_Mo_leastOf_77 : decode m_Mo_leastOf.2.1 77 = .ok (.ifCond .ne 5, 3) := by decide +kernel
theorem d_Mo_leastOf_80 : decode m_Mo_leastOf.2.1 80 = .ok (.iload_n 2, 1) := by decide +kernel
theorem d_Mo_leastOf_81 : decode m_Mo_leastOf.2.1 81 = .ok (.ireturn, 1) := by decide +kernel
theorem d_Mo_leastOf_82 : decode m_Mo_leastOf.2.1 82 = .ok (.iconst 0, 1) := by decide +kernel
theorem d_Mo_leastOf_83 : decode m_Mo_leastOf.2.1 83 = .ok (.istore_n 3, 1) := by decide +kernel
theorem d_Mo_leastOf_84 : decode m_Mo_leastOf.2.1 84 = .ok (.aload_n 0, 1) := by decide +kernel
theorem d_Mo_leastOf_85 : decode m_Mo_leastOf.2.1 85 = .ok (.iconst 0, 1) := by decide +kernel
theorem d_Mo_leastOf_86 : decode m_Mo_leastOf.2.1 86 = .ok (.aload_n 0, 1) := by decide +kernel
theorem d_Mo_leastOf_87 : decode m_Mo_leastOf.2.1 87 = .ok (.getfield 114, 3) := by decide +kernel
theorem d_Mo_leastOf_90 : decode m_Mo_leastOf.2.1 90 = .ok (.invokevirtual 223, 3) := by decide +kernel
set_option maxRecDepth 100000 in
theorem s_Mo_leastOf_90 {G : r_X} {n : Nat} {h : r_HI} {g : r_HR} {z : r_HL} {k : Nat} {v0 v1 : Value} (hp : r_pk k = (0, 12)) (hk : k < n) : r_cl G m_Mo_leastOf m_Mo_layTried 90 (.ref (G.2.1 + k) :: [v0, v1]) n h g z := r_clV d_Mo_leastOf_90 w_Mo_layTried (r_in 1074 rfl rfl) a_Mo_layTried (r_inP 35 rfl rfl) n_Mo (by decide +kernel : r_mh m_Mo_layTried.1 2) hp hk (by decide)
theorem d_Mo_leastOf_93 : decode m_Mo_leastOf.2.1 93 = .ok (.aload_n 0, 1) := by decide +kernel
theorem d_Mo_leastOf_94 : decode m_Mo_leastOf.2.1 94 = .ok (.invokevirtual 227, 3) := by decide +kernel
set_option maxRecDepth 100000 in
theorem s_Mo_leastOf_94 {G : r_X} {n : Nat} {h : r_HI} {g : r_HR} {z : r_HL} {k : Nat} (hp : r_pk k = (0, 12)) (hk : k < n) : r_cl G m_Mo_leastOf m_Mo_endOfTried 94 (.ref (G.2.1 + k) :: []) n h g z := r_clV d_Mo_leastOf_94 w_Mo_endOfTried (r_in 1081 rfl rfl) a_Mo_endOfTried (r_inP 36 rfl rfl) n_Mo (by decide +kernel : r_mh m_Mo_endOfTried.1 0) hp hk (by decide)
theorem d_Mo_leastOf_97 : decode m_Mo_leastOf.2.1 97 = .ok (.iload_n 2, 1) := by decide +kernel
theorem d_Mo_leastOf_98 : decode m_Mo_leastOf.2.1 98 = .ok (.if_icmp .eq 18, 3) := by decide +kernel
theorem d_Mo_leastOf_101 : decode m_Mo_leastOf.2.1 101 = .ok (.iinc 3 1, 3) := by decide +kernel
theorem d_Mo_leastOf_104 : decode m_Mo_leastOf.2.1 104 = .ok (.aload_n 0, 1) := by decide +kernel
theorem d_Mo_leastOf_105 : decode m_Mo_leastOf.2.1 105 = .ok (.iload_n 3, 1) := by decide +kernel
theorem d_Mo_leastOf_106 : decode m_Mo_leastOf.2.1 106 = .ok (.aload_n 0, 1) := by decide +kernel
theorem d_Mo_leastOf_107 : decode m_Mo_leastOf.2.1 107 = .ok (.getfield 114, 3) := by decide +kernel
theorem d_Mo_leastOf_110 : decode m_Mo_leastOf.2.1 110 = .ok (.invokevirtual 223, 3) := by decide +kernel
set_option maxRecDepth 100000 in
theorem s_Mo_leastOf_110 {G : r_X} {n : Nat} {h : r_HI} {g : r_HR} {z : r_HL} {k : Nat} {v0 v1 : Value} (hp : r_pk k = (0, 12)) (hk : k < n) : r_cl G m_Mo_leastOf m_Mo_layTried 110 (.ref (G.2.1 + k) :: [v0, v1]) n h g z := r_clV d_Mo_leastOf_110 w_Mo_layTried (r_in 1074 rfl rfl) a_Mo_layTried (r_inP 35 rfl rfl) n_Mo (by decide +kernel : r_mh m_Mo_layTried.1 2) hp hk (by decide)
theorem d_Mo_leastOf_113 : decode m_Mo_leastOf.2.1 113 = .ok (.goto (-20), 3) := by decide +kernel
theorem d_Mo_leastOf_116 : decode m_Mo_leastOf.2.1 116 = .ok (.iload_n 1, 1) := by decide +kernel
theorem d_Mo_leastOf_117 : decode m_Mo_leastOf.2.1 117 = .ok (.bipush 10, 2) := by decide +kernel
theorem d_Mo_leastOf_119 : decode m_Mo_leastOf.2.1 119 = .ok (.isub, 1) := by decide +kernel
theorem d_Mo_leastOf_120 : decode m_Mo_leastOf.2.1 120 = .ok (.aload_n 0, 1) := by decide +kernel
theorem d_Mo_leastOf_121 : decode m_Mo_leastOf.2.1 121 = .ok (.getfield 114, 3) := by decide +kernel
theorem d_Mo_leastOf_124 : decode m_Mo_leastOf.2.1 124 = .ok (.if_icmp .ge 15, 3) := by decide +kernel
theorem d_Mo_leastOf_127 : decode m_Mo_leastOf.2.1 127 = .ok (.aload_n 0, 1) := by decide +kernel
theorem d_Mo_leastOf_128 : decode m_Mo_leastOf.2.1 128 = .ok (.getfield 28, 3) := by decide +kernel
theorem d_Mo_leastOf_131 : decode m_Mo_leastOf.2.1 131 = .ok (.iload_n 1, 1) := by decide +kernel
theorem d_Mo_leastOf_132 : decode m_Mo_leastOf.2.1 132 = .ok (.bipush 10, 2) := by decide +kernel
theorem d_Mo_leastOf_134 : decode m_Mo_leastOf.2.1 134 = .ok (.isub, 1) := by decide +kernel
theorem d_Mo_leastOf_135 : decode m_Mo_leastOf.2.1 135 = .ok (.iaload, 1) := by decide +kernel
theorem d_Mo_leastOf_136 : decode m_Mo_leastOf.2.1 136 = .ok (.goto 4, 3) := by decide +kernel
theorem d_Mo_leastOf_139 : decode m_Mo_leastOf.2.1 139 = .ok (.iconst (-1), 1) := by decide +kernel
theorem d_Mo_leastOf_140 : decode m_Mo_leastOf.2.1 140 = .ok (.ireturn, 1) := by decide +kernel
theorem d_Mo_least_0 : decode m_Mo_least.2.1 0 = .ok (.iload_n 1, 1) := by decide +kernel
theorem d_Mo_least_1 : decode m_Mo_least.2.1 1 = .ok (.ifCond .eq 20, 3) := by decide +kernel
theorem d_Mo_least_4 : decode m_Mo_least.2.1 4 = .ok (.iload_n 1, 1) := by decide +kernel
theorem d_Mo_least_5 : decode m_Mo_least.2.1 5 = .ok (.i2l, 1) := by decide +kernel
theorem d_Mo_least_6 : decode m_Mo_least.2.1 6 = .ok (.ldc2_w 230, 3) := by decide +kernel
theorem d_Mo_least_9 : decode m_Mo_least.2.1 9 = .ok (.ldc2_w 232, 3) := by decide +kernel
theorem d_Mo_least_12 : decode m_Mo_least.2.1 12 = .ok (.invokestatic 55, 3) := by decide +kernel
set_option maxRecDepth 100000 in
theorem s_Mo_least_12 {G : r_X} {n : Nat} {h : r_HI} {g : r_HR} {z : r_HL} {v0 v1 v2 : Value} : r_cl G m_Mo_least m_Mo_in 12 [v0, v1, v2] n h g z := r_clS d_Mo_least_12 w_Mo_in (r_in 880 rfl rfl) a_Mo_in n_Mo (by decide +kernel : r_mh m_Mo_in.1 3)
theorem d_Mo_least_15 : decode m_Mo_least.2.1 15 = .ok (.ifCond .ne 6, 3) := by decide +kernel
theorem d_Mo_least_18 : decode m_Mo_least.2.1 18 = .ok (.bipush (-102), 2) := by decide +kernel
theorem d_Mo_least_20 : decode m_Mo_least.2.1 20 = .ok (.ireturn, 1) := by decide +kernel
theorem d_Mo_least_21 : decode m_Mo_least.2.1 21 = .ok (.aload_n 0, 1) := by decide +kernel
theorem d_Mo_least_22 : decode m_Mo_least.2.1 22 = .ok (.invokevirtual 184, 3) := by decide +kernel
set_option maxRecDepth 100000 in
theorem s_Mo_least_22 {G : r_X} {n : Nat} {h : r_HI} {g : r_HR} {z : r_HL} {k : Nat} (hp : r_pk k = (0, 12)) (hk : k < n) : r_cl G m_Mo_least m_Mo_lacks 22 (.ref (G.2.1 + k) :: []) n h g z := r_clV d_Mo_least_22 w_Mo_lacks (r_in 971 rfl rfl) a_Mo_lacks (r_inP 21 rfl rfl) n_Mo (by decide +kernel : r_mh m_Mo_lacks.1 0) hp hk (by decide)
theorem d_Mo_least_25 : decode m_Mo_least.2.1 25 = .ok (.ifCond .ne 12, 3) := by decide +kernel
theorem d_Mo_least_28 : decode m_Mo_least.2.1 28 = .ok (.aload_n 0, 1) := by decide +kernel
theorem d_Mo_least_29 : decode m_Mo_least.2.1 29 = .ok (.getfield 234, 3) := by decide +kernel
theorem d_Mo_least_32 : decode m_Mo_least.2.1 32 = .ok (.bipush 16, 2) := by decide +kernel
theorem d_Mo_least_34 : decode m_Mo_least.2.1 34 = .ok (.if_icmp .ne 6, 3) := by decide +kernel
theorem d_Mo_least_37 : decode m_Mo_least.2.1 37 = .ok (.bipush (-103), 2) := by decide +kernel
theorem d_Mo_least_39 : decode m_Mo_least.2.1 39 = .ok (.ireturn, 1) := by decide +kernel
theorem d_Mo_least_40 : decode m_Mo_least.2.1 40 = .ok (.aload_n 0, 1) := by decide +kernel
theorem d_Mo_least_41 : decode m_Mo_least.2.1 41 = .ok (.dup, 1) := by decide +kernel
theorem d_Mo_least_42 : decode m_Mo_least.2.1 42 = .ok (.getfield 234, 3) := by decide +kernel
theorem d_Mo_least_45 : decode m_Mo_least.2.1 45 = .ok (.iconst 1, 1) := by decide +kernel
theorem d_Mo_least_46 : decode m_Mo_least.2.1 46 = .ok (.iadd, 1) := by decide +kernel
theorem d_Mo_least_47 : decode m_Mo_least.2.1 47 = .ok (.putfield 234, 3) := by decide +kernel
theorem d_Mo_least_50 : decode m_Mo_least.2.1 50 = .ok (.aload_n 0, 1) := by decide +kernel
theorem d_Mo_least_51 : decode m_Mo_least.2.1 51 = .ok (.iload_n 1, 1) := by decide +kernel
theorem d_Mo_least_52 : decode m_Mo_least.2.1 52 = .ok (.invokevirtual 237, 3) := by decide +kernel
set_option maxRecDepth 100000 in
theorem s_Mo_least_52 {G : r_X} {n : Nat} {h : r_HI} {g : r_HR} {z : r_HL} {k : Nat} {v0 : Value} (hp : r_pk k = (0, 12)) (hk : k < n) : r_cl G m_Mo_least m_Mo_leastOf 52 (.ref (G.2.1 + k) :: [v0]) n h g z := r_clV d_Mo_least_52 w_Mo_leastOf (r_in 1065 rfl rfl) a_Mo_leastOf (r_inP 33 rfl rfl) n_Mo (by decide +kernel : r_mh m_Mo_leastOf.1 1) hp hk (by decide)
theorem d_Mo_least_55 : decode m_Mo_least.2.1 55 = .ok (.ireturn, 1) := by decide +kernel
theorem d_Mo_things_0 : decode m_Mo_things.2.1 0 = .ok (.iconst 0, 1) := by decide +kernel
theorem d_Mo_things_1 : decode m_Mo_things.2.1 1 = .ok (.istore_n 1, 1) := by decide +kernel
theorem d_Mo_things_2 : decode m_Mo_things.2.1 2 = .ok (.iconst 0, 1) := by decide +kernel
theorem d_Mo_things_3 : decode m_Mo_things.2.1 3 = .ok (.istore_n 2, 1) := by decide +kernel
theorem d_Mo_things_4 : decode m_Mo_things.2.1 4 = .ok (.iload_n 2, 1) := by decide +kernel
theorem d_Mo_things_5 : decode m_Mo_things.2.1 5 = .ok (.bipush 6, 2) := by decide +kernel
theorem d_Mo_things_7 : decode m_Mo_things.2.1 7 = .ok (.if_icmp .ge 26, 3) := by decide +kernel
theorem d_Mo_things_10 : decode m_Mo_things.2.1 10 = .ok (.aload_n 0, 1) := by decide +kernel
theorem d_Mo_things_11 : decode m_Mo_things.2.1 11 = .ok (.getfield 31, 3) := by decide +kernel
theorem d_Mo_things_14 : decode m_Mo_things.2.1 14 = .ok (.iload_n 2, 1) := by decide +kernel
theorem d_Mo_things_15 : decode m_Mo_things.2.1 15 = .ok (.iaload, 1) := by decide +kernel
theorem d_Mo_things_16 : decode m_Mo_things.2.1 16 = .ok (.ifCond .le 9, 3) := by decide +kernel
theorem d_Mo_things_19 : decode m_Mo_things.2.1 19 = .ok (.iload_n 2, 1) := by decide +kernel
theorem d_Mo_things_20 : decode m_Mo_things.2.1 20 = .ok (.iconst 1, 1) := by decide +kernel
theorem d_Mo_things_21 : decode m_Mo_things.2.1 21 = .ok (.iadd, 1) := by decide +kernel
theorem d_Mo_things_22 : decode m_Mo_things.2.1 22 = .ok (.goto 4, 3) := by decide +kernel
theorem d_Mo_things_25 : decode m_Mo_things.2.1 25 = .ok (.iload_n 1, 1) := by decide +kernel
theorem d_Mo_things_26 : decode m_Mo_things.2.1 26 = .ok (.istore_n 1, 1) := by decide +kernel
theorem d_Mo_things_27 : decode m_Mo_things.2.1 27 = .ok (.iinc 2 1, 3) := by decide +kernel
theorem d_Mo_things_30 : decode m_Mo_things.2.1 30 = .ok (.goto (-26), 3) := by decide +kernel
theorem d_Mo_things_33 : decode m_Mo_things.2.1 33 = .ok (.iload_n 1, 1) := by decide +kernel
theorem d_Mo_things_34 : decode m_Mo_things.2.1 34 = .ok (.ireturn, 1) := by decide +kernel
theorem d_Mo_weigh_0 : decode m_Mo_weigh.2.1 0 = .ok (.iload_n 1, 1) := by decide +kernel
theorem d_Mo_weigh_1 : decode m_Mo_weigh.2.1 1 = .ok (.i2l, 1) := by decide +kernel
theorem d_Mo_weigh_2 : decode m_Mo_weigh.2.1 2 = .ok (.lconst 0, 1) := by decide +kernel
theorem d_Mo_weigh_3 : decode m_Mo_weigh.2.1 3 = .ok (.ldc2_w 240, 3) := by decide +kernel
theorem d_Mo_weigh_6 : decode m_Mo_weigh.2.1 6 = .ok (.invokestatic 55, 3) := by decide +kernel
set_option maxRecDepth 100000 in
theorem s_Mo_weigh_6 {G : r_X} {n : Nat} {h : r_HI} {g : r_HR} {z : r_HL} {v0 v1 v2 : Value} : r_cl G m_Mo_weigh m_Mo_in 6 [v0, v1, v2] n h g z := r_clS d_Mo_weigh_6 w_Mo_in (r_in 880 rfl rfl) a_Mo_in n_Mo (by decide +kernel : r_mh m_Mo_in.1 3)
theorem d_Mo_weigh_9 : decode m_Mo_weigh.2.1 9 = .ok (.ifCond .eq 11, 3) := by decide +kernel
theorem d_Mo_weigh_12 : decode m_Mo_weigh.2.1 12 = .ok (.aload_n 0, 1) := by decide +kernel
theorem d_Mo_weigh_13 : decode m_Mo_weigh.2.1 13 = .ok (.iload_n 1, 1) := by decide +kernel
theorem d_Mo_weigh_14 : decode m_Mo_weigh.2.1 14 = .ok (.invokevirtual 168, 3) := by decide +kernel
set_option maxRecDepth 100000 in
theorem s_Mo_weigh_14 {G : r_X} {n : Nat} {h : r_HI} {g : r_HR} {z : r_HL} {k : Nat} {v0 : Value} (hp : r_pk k = (0, 12)) (hk : k < n) : r_cl G m_Mo_weigh m_Mo_isRing 14 (.ref (G.2.1 + k) :: [v0]) n h g z := r_clV d_Mo_weigh_14 w_Mo_isRing (r_in 922 rfl rfl) a_Mo_isRing (r_inP 12 rfl rfl) n_Mo (by decide +kernel : r_mh m_Mo_isRing.1 1) hp hk (by decide)
theorem d_Mo_weigh_17 : decode m_Mo_weigh.2.1 17 = .ok (.ifCond .ne 6, 3) := by decide +kernel
theorem d_Mo_weigh_20 : decode m_Mo_weigh.2.1 20 = .ok (.bipush (-101), 2) := by decide +kernel
theorem d_Mo_weigh_22 : decode m_Mo_weigh.2.1 22 = .ok (.ireturn, 1) := by decide +kernel
theorem d_Mo_weigh_23 : decode m_Mo_weigh.2.1 23 = .ok (.iload_n 2, 1) := by decide +kernel
theorem d_Mo_weigh_24 : decode m_Mo_weigh.2.1 24 = .ok (.i2l, 1) := by decide +kernel
theorem d_Mo_weigh_25 : decode m_Mo_weigh.2.1 25 = .ok (.lconst 0, 1) := by decide +kernel
theorem d_Mo_weigh_26 : decode m_Mo_weigh.2.1 26 = .ok (.ldc2_w 211, 3) := by decide +kernel
theorem d_Mo_weigh_29 : decode m_Mo_weigh.2.1 29 = .ok (.invokestatic 55, 3) := by decide +kernel
set_option maxRecDepth 100000 in
theorem s_Mo_weigh_29 {G : r_X} {n : Nat} {h : r_HI} {g : r_HR} {z : r_HL} {v0 v1 v2 : Value} : r_cl G m_Mo_weigh m_Mo_in 29 [v0, v1, v2] n h g z := r_clS d_Mo_weigh_29 w_Mo_in (r_in 880 rfl rfl) a_Mo_in n_Mo (by decide +kernel : r_mh m_Mo_in.1 3)
theorem d_Mo_weigh_32 : decode m_Mo_weigh.2.1 32 = .ok (.ifCond .ne 6, 3) := by decide +kernel
theorem d_Mo_weigh_35 : decode m_Mo_weigh.2.1 35 = .ok (.bipush (-102), 2) := by decide +kernel
theorem d_Mo_weigh_37 : decode m_Mo_weigh.2.1 37 = .ok (.ireturn, 1) := by decide +kernel
theorem d_Mo_weigh_38 : decode m_Mo_weigh.2.1 38 = .ok (.aload_n 0, 1) := by decide +kernel
theorem d_Mo_weigh_39 : decode m_Mo_weigh.2.1 39 = .ok (.getfield 31, 3) := by decide +kernel
theorem d_Mo_weigh_42 : decode m_Mo_weigh.2.1 42 = .ok (.iload_n 1, 1) := by decide +kernel
theorem d_Mo_weigh_43 : decode m_Mo_weigh.2.1 43 = .ok (.iaload, 1) := by decide +kernel
theorem d_Mo_weigh_44 : decode m_Mo_weigh.2.1 44 = .ok (.istore_n 3, 1) := by decide +kernel
theorem d_Mo_weigh_45 : decode m_Mo_weigh.2.1 45 = .ok (.aload_n 0, 1) := by decide +kernel
theorem d_Mo_weigh_46 : decode m_Mo_weigh.2.1 46 = .ok (.getfield 31, 3) := by decide +kernel
theorem d_Mo_weigh_49 : decode m_Mo_weigh.2.1 49 = .ok (.iload_n 1, 1) := by decide +kernel
theorem d_Mo_weigh_50 : decode m_Mo_weigh.2.1 50 = .ok (.iload_n 2, 1) := by decide +kernel
theorem d_Mo_weigh_51 : decode m_Mo_weigh.2.1 51 = .ok (.iastore, 1) := by decide +kernel
theorem d_Mo_weigh_52 : decode m_Mo_weigh.2.1 52 = .ok (.iload_n 3, 1) := by decide +kernel
theorem d_Mo_weigh_53 : decode m_Mo_weigh.2.1 53 = .ok (.ireturn, 1) := by decide +kernel
