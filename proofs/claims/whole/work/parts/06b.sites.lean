theorem d_So_price_0 : decode m_So_price.2.1 0 = .ok (.aload_n 1, 1) := by decide +kernel
theorem d_So_price_1 : decode m_So_price.2.1 1 = .ok (.getfield 9, 3) := by decide +kernel
theorem d_So_price_4 : decode m_So_price.2.1 4 = .ok (.aload_n 1, 1) := by decide +kernel
theorem d_So_price_5 : decode m_So_price.2.1 5 = .ok (.getfield 15, 3) := by decide +kernel
theorem d_So_price_8 : decode m_So_price.2.1 8 = .ok (.aload_n 1, 1) := by decide +kernel
theorem d_So_price_9 : decode m_So_price.2.1 9 = .ok (.getfield 19, 3) := by decide +kernel
theorem d_So_price_12 : decode m_So_price.2.1 12 = .ok (.aload_n 1, 1) := by decide +kernel
theorem d_So_price_13 : decode m_So_price.2.1 13 = .ok (.getfield 22, 3) := by decide +kernel
theorem d_So_price_16 : decode m_So_price.2.1 16 = .ok (.iload_n 2, 1) := by decide +kernel
theorem d_So_price_17 : decode m_So_price.2.1 17 = .ok (.invokestatic 26, 3) := by decide +kernel
set_option maxRecDepth 100000 in
theorem s_So_price_17 {G : r_X} {n : Nat} {h : r_HI} {g : r_HR} {z : r_HL} {v0 v1 : Value} : r_cl G m_So_price m_Ra_at 17 [v0, v1] n h g z := r_clSN d_So_price_17 w_Ra_at (List.mem_of_getElem? (i := 22) rfl) a_Ra_at n_Ra (by decide +kernel : r_mh m_Ra_at.1 2)
theorem d_So_price_20 : decode m_So_price.2.1 20 = .ok (.aload_n 1, 1) := by decide +kernel
theorem d_So_price_21 : decode m_So_price.2.1 21 = .ok (.getfield 30, 3) := by decide +kernel
theorem d_So_price_24 : decode m_So_price.2.1 24 = .ok (.iload_n 2, 1) := by decide +kernel
theorem d_So_price_25 : decode m_So_price.2.1 25 = .ok (.invokestatic 26, 3) := by decide +kernel
set_option maxRecDepth 100000 in
theorem s_So_price_25 {G : r_X} {n : Nat} {h : r_HI} {g : r_HR} {z : r_HL} {v0 v1 : Value} : r_cl G m_So_price m_Ra_at 25 [v0, v1] n h g z := r_clSN d_So_price_25 w_Ra_at (List.mem_of_getElem? (i := 22) rfl) a_Ra_at n_Ra (by decide +kernel : r_mh m_Ra_at.1 2)
theorem d_So_price_28 : decode m_So_price.2.1 28 = .ok (.invokevirtual 33, 3) := by decide +kernel
set_option maxRecDepth 100000 in
theorem s_So_price_28 {G : r_X} {n : Nat} {h : r_HI} {g : r_HR} {z : r_HL} {k : Nat} {v0 v1 v2 v3 : Value} (hp : r_pk k = (0, 1)) (hk : k < n) : r_cl G m_So_price m_Di_doneAt 28 (.ref (G.2.1 + k) :: [v0, v1, v2, v3]) n h g z := r_clV d_So_price_28 w_Di_doneAt (r_in 467 rfl rfl) a_Di_doneAt (r_in 398 rfl rfl) n_Di (by decide +kernel : r_mh m_Di_doneAt.1 4) hp hk (by decide)
theorem d_So_price_31 : decode m_So_price.2.1 31 = .ok (.ireturn, 1) := by decide +kernel
theorem d_Sw_init_0 : decode m_Sw_init.2.1 0 = .ok (.aload_n 0, 1) := by decide +kernel
theorem d_Sw_init_1 : decode m_Sw_init.2.1 1 = .ok (.invokespecial 3, 3) := by decide +kernel
set_option maxRecDepth 100000 in
theorem s_Sw_init_1 {G : r_X} {n : Nat} {h : r_HI} {g : r_HR} {z : r_HL} {a : Nat} : r_cl G m_Sw_init m_Fi_init 1 (.ref a :: []) n h g z := r_clIN d_Sw_init_1 w_Fi_init rfl (List.mem_of_getElem? (i := 8) rfl) a_Fi_init rfl n_Fi (by decide +kernel : r_mh m_Fi_init.1 0)
theorem d_Sw_init_4 : decode m_Sw_init.2.1 4 = .ok (.return_, 1) := by decide +kernel
theorem d_Sw_kind_0 : decode m_Sw_kind.2.1 0 = .ok (.iconst 2, 1) := by decide +kernel
theorem d_Sw_kind_1 : decode m_Sw_kind.2.1 1 = .ok (.ireturn, 1) := by decide +kernel
theorem d_Sw_price_0 : decode m_Sw_price.2.1 0 = .ok (.aload_n 1, 1) := by decide +kernel
theorem d_Sw_price_1 : decode m_Sw_price.2.1 1 = .ok (.getfield 9, 3) := by decide +kernel
theorem d_Sw_price_4 : decode m_Sw_price.2.1 4 = .ok (.iload_n 2, 1) := by decide +kernel
theorem d_Sw_price_5 : decode m_Sw_price.2.1 5 = .ok (.invokestatic 15, 3) := by decide +kernel
set_option maxRecDepth 100000 in
theorem s_Sw_price_5 {G : r_X} {n : Nat} {h : r_HI} {g : r_HR} {z : r_HL} {v0 v1 : Value} : r_cl G m_Sw_price m_Ra_at 5 [v0, v1] n h g z := r_clSN d_Sw_price_5 w_Ra_at (List.mem_of_getElem? (i := 23) rfl) a_Ra_at n_Ra (by decide +kernel : r_mh m_Ra_at.1 2)
theorem d_Sw_price_8 : decode m_Sw_price.2.1 8 = .ok (.aload_n 1, 1) := by decide +kernel
theorem d_Sw_price_9 : decode m_Sw_price.2.1 9 = .ok (.getfield 19, 3) := by decide +kernel
theorem d_Sw_price_12 : decode m_Sw_price.2.1 12 = .ok (.isub, 1) := by decide +kernel
theorem d_Sw_price_13 : decode m_Sw_price.2.1 13 = .ok (.invokestatic 23, 3) := by decide +kernel
set_option maxRecDepth 100000 in
theorem s_Sw_price_13 {G : r_X} {n : Nat} {h : r_HI} {g : r_HR} {z : r_HL} {v0 : Value} : r_cl G m_Sw_price m_Jm_abs 13 [v0] n h g z := r_clS d_Sw_price_13 w_Jm_abs (r_in 472 rfl rfl) a_Jm_abs n_Jm (by decide +kernel : r_mh m_Jm_abs.1 1)
theorem d_Sw_price_16 : decode m_Sw_price.2.1 16 = .ok (.istore_n 3, 1) := by decide +kernel
theorem d_Sw_price_17 : decode m_Sw_price.2.1 17 = .ok (.aload_n 1, 1) := by decide +kernel
theorem d_Sw_price_18 : decode m_Sw_price.2.1 18 = .ok (.iload_n 2, 1) := by decide +kernel
theorem d_Sw_price_19 : decode m_Sw_price.2.1 19 = .ok (.invokestatic 29, 3) := by decide +kernel
set_option maxRecDepth 100000 in
theorem s_Sw_price_19 {G : r_X} {n : Nat} {h : r_HI} {g : r_HR} {z : r_HL} {v0 v1 : Value} : r_cl G m_Sw_price m_Sw_isAhead 19 [v0, v1] n h g z := r_clS d_Sw_price_19 w_Sw_isAhead (r_in 473 rfl rfl) a_Sw_isAhead n_Sw (by decide +kernel : r_mh m_Sw_isAhead.1 2)
theorem d_Sw_price_22 : decode m_Sw_price.2.1 22 = .ok (.ifCond .eq 7, 3) := by decide +kernel
theorem d_Sw_price_25 : decode m_Sw_price.2.1 25 = .ok (.iload_n 3, 1) := by decide +kernel
theorem d_Sw_price_26 : decode m_Sw_price.2.1 26 = .ok (.goto 7, 3) := by decide +kernel
theorem d_Sw_price_29 : decode m_Sw_price.2.1 29 = .ok (.bipush 10, 2) := by decide +kernel
theorem d_Sw_price_31 : decode m_Sw_price.2.1 31 = .ok (.iload_n 3, 1) := by decide +kernel
theorem d_Sw_price_32 : decode m_Sw_price.2.1 32 = .ok (.iadd, 1) := by decide +kernel
theorem d_Sw_price_33 : decode m_Sw_price.2.1 33 = .ok (.ireturn, 1) := by decide +kernel
theorem d_Sw_turns_0 : decode m_Sw_turns.2.1 0 = .ok (.aload_n 1, 1) := by decide +kernel
theorem d_Sw_turns_1 : decode m_Sw_turns.2.1 1 = .ok (.iload_n 2, 1) := by decide +kernel
theorem d_Sw_turns_2 : decode m_Sw_turns.2.1 2 = .ok (.invokestatic 29, 3) := by decide +kernel
set_option maxRecDepth 100000 in
theorem s_Sw_turns_2 {G : r_X} {n : Nat} {h : r_HI} {g : r_HR} {z : r_HL} {v0 v1 : Value} : r_cl G m_Sw_turns m_Sw_isAhead 2 [v0, v1] n h g z := r_clS d_Sw_turns_2 w_Sw_isAhead (r_in 473 rfl rfl) a_Sw_isAhead n_Sw (by decide +kernel : r_mh m_Sw_isAhead.1 2)
theorem d_Sw_turns_5 : decode m_Sw_turns.2.1 5 = .ok (.ifCond .ne 7, 3) := by decide +kernel
theorem d_Sw_turns_8 : decode m_Sw_turns.2.1 8 = .ok (.iconst 1, 1) := by decide +kernel
theorem d_Sw_turns_9 : decode m_Sw_turns.2.1 9 = .ok (.goto 4, 3) := by decide +kernel
theorem d_Sw_turns_12 : decode m_Sw_turns.2.1 12 = .ok (.iconst 0, 1) := by decide +kernel
theorem d_Sw_turns_13 : decode m_Sw_turns.2.1 13 = .ok (.ireturn, 1) := by decide +kernel
theorem d_Sw_isAhead_0 : decode m_Sw_isAhead.2.1 0 = .ok (.aload_n 0, 1) := by decide +kernel
theorem d_Sw_isAhead_1 : decode m_Sw_isAhead.2.1 1 = .ok (.getfield 9, 3) := by decide +kernel
theorem d_Sw_isAhead_4 : decode m_Sw_isAhead.2.1 4 = .ok (.iload_n 1, 1) := by decide +kernel
theorem d_Sw_isAhead_5 : decode m_Sw_isAhead.2.1 5 = .ok (.invokestatic 15, 3) := by decide +kernel
set_option maxRecDepth 100000 in
theorem s_Sw_isAhead_5 {G : r_X} {n : Nat} {h : r_HI} {g : r_HR} {z : r_HL} {v0 v1 : Value} : r_cl G m_Sw_isAhead m_Ra_at 5 [v0, v1] n h g z := r_clSN d_Sw_isAhead_5 w_Ra_at (List.mem_of_getElem? (i := 23) rfl) a_Ra_at n_Ra (by decide +kernel : r_mh m_Ra_at.1 2)
theorem d_Sw_isAhead_8 : decode m_Sw_isAhead.2.1 8 = .ok (.istore_n 2, 1) := by decide +kernel
theorem d_Sw_isAhead_9 : decode m_Sw_isAhead.2.1 9 = .ok (.aload_n 0, 1) := by decide +kernel
theorem d_Sw_isAhead_10 : decode m_Sw_isAhead.2.1 10 = .ok (.getfield 35, 3) := by decide +kernel
theorem d_Sw_isAhead_13 : decode m_Sw_isAhead.2.1 13 = .ok (.ifCond .eq 19, 3) := by decide +kernel
theorem d_Sw_isAhead_16 : decode m_Sw_isAhead.2.1 16 = .ok (.iload_n 2, 1) := by decide +kernel
theorem d_Sw_isAhead_17 : decode m_Sw_isAhead.2.1 17 = .ok (.aload_n 0, 1) := by decide +kernel
theorem d_Sw_isAhead_18 : decode m_Sw_isAhead.2.1 18 = .ok (.getfield 19, 3) := by decide +kernel
theorem d_Sw_isAhead_21 : decode m_Sw_isAhead.2.1 21 = .ok (.if_icmp .lt 7, 3) := by decide +kernel
theorem d_Sw_isAhead_24 : decode m_Sw_isAhead.2.1 24 = .ok (.iconst 1, 1) := by decide +kernel
theorem d_Sw_isAhead_25 : decode m_Sw_isAhead.2.1 25 = .ok (.goto 20, 3) := by decide +kernel
theorem d_Sw_isAhead_28 : decode m_Sw_isAhead.2.1 28 = .ok (.iconst 0, 1) := by decide +kernel
theorem d_Sw_isAhead_29 : decode m_Sw_isAhead.2.1 29 = .ok (.goto 16, 3) := by decide +kernel
theorem d_Sw_isAhead_32 : decode m_Sw_isAhead.2.1 32 = .ok (.iload_n 2, 1) := by decide +kernel
theorem d_Sw_isAhead_33 : decode m_Sw_isAhead.2.1 33 = .ok (.aload_n 0, 1) := by decide +kernel
theorem d_Sw_isAhead_34 : decode m_Sw_isAhead.2.1 34 = .ok (.getfield 19, 3) := by decide +kernel
theorem d_Sw_isAhead_37 : decode m_Sw_isAhead.2.1 37 = .ok (.if_icmp .gt 7, 3) := by decide +kernel
theorem d_Sw_isAhead_40 : decode m_Sw_isAhead.2.1 40 = .ok (.iconst 1, 1) := by decide +kernel
theorem d_Sw_isAhead_41 : decode m_Sw_isAhead.2.1 41 = .ok (.goto 4, 3) := by decide +kernel
theorem d_Sw_isAhead_44 : decode m_Sw_isAhead.2.1 44 = .ok (.iconst 0, 1) := by decide +kernel
theorem d_Sw_isAhead_45 : decode m_Sw_isAhead.2.1 45 = .ok (.ireturn, 1) := by decide +kernel
theorem d_Th_init_0 : decode m_Th_init.2.1 0 = .ok (.aload_n 0, 1) := by decide +kernel
theorem d_Th_init_1 : decode m_Th_init.2.1 1 = .ok (.invokespecial 3, 3) := by decide +kernel
set_option maxRecDepth 100000 in
theorem s_Th_init_1 : Cond.methodLink m_Th_init.1.cls 3 Lib.objectInit ∈ r_wg := r_in 137 rfl rfl
theorem d_Th_init_4 : decode m_Th_init.2.1 4 = .ok (.aload_n 0, 1) := by decide +kernel
theorem d_Th_init_5 : decode m_Th_init.2.1 5 = .ok (.bipush 6, 2) := by decide +kernel
theorem d_Th_init_7 : decode m_Th_init.2.1 7 = .ok (.newarray .int, 2) := by decide +kernel
theorem d_Th_init_9 : decode m_Th_init.2.1 9 = .ok (.putfield 9, 3) := by decide +kernel
theorem d_Th_init_12 : decode m_Th_init.2.1 12 = .ok (.aload_n 0, 1) := by decide +kernel
theorem d_Th_init_13 : decode m_Th_init.2.1 13 = .ok (.bipush 6, 2) := by decide +kernel
theorem d_Th_init_15 : decode m_Th_init.2.1 15 = .ok (.newarray .int, 2) := by decide +kernel
theorem d_Th_init_17 : decode m_Th_init.2.1 17 = .ok (.putfield 15, 3) := by decide +kernel
theorem d_Th_init_20 : decode m_Th_init.2.1 20 = .ok (.aload_n 0, 1) := by decide +kernel
theorem d_Th_init_21 : decode m_Th_init.2.1 21 = .ok (.bipush 6, 2) := by decide +kernel
theorem d_Th_init_23 : decode m_Th_init.2.1 23 = .ok (.newarray .int, 2) := by decide +kernel
theorem d_Th_init_25 : decode m_Th_init.2.1 25 = .ok (.putfield 18, 3) := by decide +kernel
theorem d_Th_init_28 : decode m_Th_init.2.1 28 = .ok (.aload_n 0, 1) := by decide +kernel
theorem d_Th_init_29 : decode m_Th_init.2.1 29 = .ok (.iconst 0, 1) := by decide +kernel
theorem d_Th_init_30 : decode m_Th_init.2.1 30 = .ok (.putfield 21, 3) := by decide +kernel
theorem d_Th_init_33 : decode m_Th_init.2.1 33 = .ok (.return_, 1) := by decide +kernel
theorem d_Th_clear_0 : decode m_Th_clear.2.1 0 = .ok (.iconst 0, 1) := by decide +kernel
theorem d_Th_clear_1 : decode m_Th_clear.2.1 1 = .ok (.istore_n 1, 1) := by decide +kernel
theorem d_Th_clear_2 : decode m_Th_clear.2.1 2 = .ok (.iload_n 1, 1) := by decide +kernel
theorem d_Th_clear_3 : decode m_Th_clear.2.1 3 = .ok (.bipush 6, 2) := by decide +kernel
theorem d_Th_clear_5 : decode m_Th_clear.2.1 5 = .ok (.if_icmp .ge 18, 3) := by decide +kernel
theorem d_Th_clear_8 : decode m_Th_clear.2.1 8 = .ok (.aload_n 0, 1) := by decide +kernel
theorem d_Th_clear_9 : decode m_Th_clear.2.1 9 = .ok (.getfield 9, 3) := by decide +kernel
theorem d_Th_clear_12 : decode m_Th_clear.2.1 12 = .ok (.iload_n 1, 1) := by decide +kernel
theorem d_Th_clear_13 : decode m_Th_clear.2.1 13 = .ok (.iconst 0, 1) := by decide +kernel
theorem d_Th_clear_14 : decode m_Th_clear.2.1 14 = .ok (.invokestatic 25, 3) := by decide +kernel
set_option maxRecDepth 100000 in
theorem s_Th_clear_14 {G : r_X} {n : Nat} {h : r_HI} {g : r_HR} {z : r_HL} {v0 v1 v2 : Value} : r_cl G m_Th_clear m_Ra_put 14 [v0, v1, v2] n h g z := r_clSN d_Th_clear_14 w_Ra_put (List.mem_of_getElem? (i := 18) rfl) a_Ra_put n_Ra (by decide +kernel : r_mh m_Ra_put.1 3)
theorem d_Th_clear_17 : decode m_Th_clear.2.1 17 = .ok (.iinc 1 1, 3) := by decide +kernel
theorem d_Th_clear_20 : decode m_Th_clear.2.1 20 = .ok (.goto (-18), 3) := by decide +kernel
theorem d_Th_clear_23 : decode m_Th_clear.2.1 23 = .ok (.return_, 1) := by decide +kernel
theorem d_Th_copyFrom_0 : decode m_Th_copyFrom.2.1 0 = .ok (.aload_n 1, 1) := by decide +kernel
theorem d_Th_copyFrom_1 : decode m_Th_copyFrom.2.1 1 = .ok (.getfield 9, 3) := by decide +kernel
theorem d_Th_copyFrom_4 : decode m_Th_copyFrom.2.1 4 = .ok (.aload_n 0, 1) := by decide +kernel
theorem d_Th_copyFrom_5 : decode m_Th_copyFrom.2.1 5 = .ok (.getfield 9, 3) := by decide +kernel
theorem d_Th_copyFrom_8 : decode m_Th_copyFrom.2.1 8 = .ok (.invokestatic 29, 3) := by decide +kernel
set_option maxRecDepth 100000 in
theorem s_Th_copyFrom_8 {G : r_X} {n : Nat} {h : r_HI} {g : r_HR} {z : r_HL} {v0 v1 : Value} : r_cl G m_Th_copyFrom m_Ra_copyRow 8 [v0, v1] n h g z := r_clSN d_Th_copyFrom_8 w_Ra_copyRow (List.mem_of_getElem? (i := 31) rfl) a_Ra_copyRow n_Ra (by decide +kernel : r_mh m_Ra_copyRow.1 2)
theorem d_Th_copyFrom_11 : decode m_Th_copyFrom.2.1 11 = .ok (.return_, 1) := by decide +kernel
theorem d_Th_howMany_0 : decode m_Th_howMany.2.1 0 = .ok (.iconst 0, 1) := by decide +kernel
theorem d_Th_howMany_1 : decode m_Th_howMany.2.1 1 = .ok (.istore_n 1, 1) := by decide +kernel
theorem d_Th_howMany_2 : decode m_Th_howMany.2.1 2 = .ok (.iconst 0, 1) := by decide +kernel
theorem d_Th_howMany_3 : decode m_Th_howMany.2.1 3 = .ok (.istore_n 2, 1) := by decide +kernel
theorem d_Th_howMany_4 : decode m_Th_howMany.2.1 4 = .ok (.iload_n 2, 1) := by decide +kernel
theorem d_Th_howMany_5 : decode m_Th_howMany.2.1 5 = .ok (.bipush 6, 2) := by decide +kernel
theorem d_Th_howMany_7 : decode m_Th_howMany.2.1 7 = .ok (.if_icmp .ge 24, 3) := by decide +kernel
theorem d_Th_howMany_10 : decode m_Th_howMany.2.1 10 = .ok (.aload_n 0, 1) := by decide +kernel
theorem d_Th_howMany_11 : decode m_Th_howMany.2.1 11 = .ok (.getfield 9, 3) := by decide +kernel
theorem d_Th_howMany_14 : decode m_Th_howMany.2.1 14 = .ok (.iload_n 2, 1) := by decide +kernel
theorem d_Th_howMany_15 : decode m_Th_howMany.2.1 15 = .ok (.invokestatic 33, 3) := by decide +kernel
set_option maxRecDepth 100000 in
theorem s_Th_howMany_15 {G : r_X} {n : Nat} {h : r_HI} {g : r_HR} {z : r_HL} {v0 v1 : Value} : r_cl G m_Th_howMany m_Ra_at 15 [v0, v1] n h g z := r_clSN d_Th_howMany_15 w_Ra_at (List.mem_of_getElem? (i := 30) rfl) a_Ra_at n_Ra (by decide +kernel : r_mh m_Ra_at.1 2)
theorem d_Th_howMany_18 : decode m_Th_howMany.2.1 18 = .ok (.ifCond .le 7, 3) := by decide +kernel
theorem d_Th_howMany_21 : decode m_Th_howMany.2.1 21 = .ok (.iload_n 2, 1) := by decide +kernel
theorem d_Th_howMany_22 : decode m_Th_howMany.2.1 22 = .ok (.iconst 1, 1) := by decide +kernel
theorem d_Th_howMany_23 : decode m_Th_howMany.2.1 23 = .ok (.iadd, 1) := by decide +kernel
theorem d_Th_howMany_24 : decode m_Th_howMany.2.1 24 = .ok (.istore_n 1, 1) := by decide +kernel
theorem d_Th_howMany_25 : decode m_Th_howMany.2.1 25 = .ok (.iinc 2 1, 3) := by decide +kernel
theorem d_Th_howMany_28 : decode m_Th_howMany.2.1 28 = .ok (.goto (-24), 3) := by decide +kernel
theorem d_Th_howMany_31 : decode m_Th_howMany.2.1 31 = .ok (.iload_n 1, 1) := by decide +kernel
theorem d_Th_howMany_32 : decode m_Th_howMany.2.1 32 = .ok (.ireturn, 1) := by decide +kernel
theorem d_Th_solve_0 : decode m_Th_solve.2.1 0 = .ok (.aload_n 0, 1) := by decide +kernel
theorem d_Th_solve_1 : decode m_Th_solve.2.1 1 = .ok (.ldc 37, 2) := by decide +kernel
theorem d_Th_solve_3 : decode m_Th_solve.2.1 3 = .ok (.putfield 21, 3) := by decide +kernel
theorem d_Th_solve_6 : decode m_Th_solve.2.1 6 = .ok (.aload_n 0, 1) := by decide +kernel
theorem d_Th_solve_7 : decode m_Th_solve.2.1 7 = .ok (.iconst 0, 1) := by decide +kernel
theorem d_Th_solve_8 : decode m_Th_solve.2.1 8 = .ok (.aload_n 0, 1) := by decide +kernel
theorem d_Th_solve_9 : decode m_Th_solve.2.1 9 = .ok (.invokevirtual 38, 3) := by decide +kernel
set_option maxRecDepth 100000 in
theorem s_Th_solve_9 {G : r_X} {n : Nat} {h : r_HI} {g : r_HR} {z : r_HL} {k : Nat} (hp : r_pk k = (0, 10)) (hk : k < n) : r_cl G m_Th_solve m_Th_howMany 9 (.ref (G.2.1 + k) :: []) n h g z := r_clV d_Th_solve_9 w_Th_howMany (r_in 585 rfl rfl) a_Th_howMany (r_in 587 rfl rfl) n_Th (by decide +kernel : r_mh m_Th_howMany.1 0) hp hk (by decide)
theorem d_Th_solve_12 : decode m_Th_solve.2.1 12 = .ok (.iconst 0, 1) := by decide +kernel
theorem d_Th_solve_13 : decode m_Th_solve.2.1 13 = .ok (.iconst 0, 1) := by decide +kernel
theorem d_Th_solve_14 : decode m_Th_solve.2.1 14 = .ok (.invokestatic 42, 3) := by decide +kernel
set_option maxRecDepth 100000 in
theorem s_Th_solve_14 {G : r_X} {n : Nat} {h : r_HI} {g : r_HR} {z : r_HL} {v0 v1 v2 v3 v4 : Value} : r_cl G m_Th_solve m_Th_search 14 [v0, v1, v2, v3, v4] n h g z := r_clS d_Th_solve_14 w_Th_search (r_in 590 rfl rfl) a_Th_search n_Th (by decide +kernel : r_mh m_Th_search.1 5)
theorem d_Th_solve_17 : decode m_Th_solve.2.1 17 = .ok (.return_, 1) := by decide +kernel
theorem d_Th_told_0 : decode m_Th_told.2.1 0 = .ok (.iload_n 1, 1) := by decide +kernel
theorem d_Th_told_1 : decode m_Th_told.2.1 1 = .ok (.ifCond .ne 8, 3) := by decide +kernel
theorem d_Th_told_4 : decode m_Th_told.2.1 4 = .ok (.aload_n 0, 1) := by decide +kernel
theorem d_Th_told_5 : decode m_Th_told.2.1 5 = .ok (.getfield 21, 3) := by decide +kernel
theorem d_Th_told_8 : decode m_Th_told.2.1 8 = .ok (.ireturn, 1) := by decide +kernel
theorem d_Th_told_9 : decode m_Th_told.2.1 9 = .ok (.iload_n 1, 1) := by decide +kernel
theorem d_Th_told_10 : decode m_Th_told.2.1 10 = .ok (.bipush 10, 2) := by decide +kernel
theorem d_Th_told_12 : decode m_Th_told.2.1 12 = .ok (.isub, 1) := by decide +kernel
theorem d_Th_told_13 : decode m_Th_told.2.1 13 = .ok (.aload_n 0, 1) := by decide +kernel
theorem d_Th_told_14 : decode m_Th_told.2.1 14 = .ok (.invokevirtual 38, 3) := by decide +kernel
set_option maxRecDepth 100000 in
theorem s_Th_told_14 {G : r_X} {n : Nat} {h : r_HI} {g : r_HR} {z : r_HL} {k : Nat} (hp : r_pk k = (0, 10)) (hk : k < n) : r_cl G m_Th_told m_Th_howMany 14 (.ref (G.2.1 + k) :: []) n h g z := r_clV d_Th_told_14 w_Th_howMany (r_in 585 rfl rfl) a_Th_howMany (r_in 587 rfl rfl) n_Th (by decide +kernel : r_mh m_Th_howMany.1 0) hp hk (by decide)
theorem d_Th_told_17 : decode m_Th_told.2.1 17 = .ok (.if_icmp .ge 17, 3) := by decide +kernel
theorem d_Th_told_20 : decode m_Th_told.2.1 20 = .ok (.aload_n 0, 1) := by decide +kernel
theorem d_Th_told_21 : decode m_Th_told.2.1 21 = .ok (.getfield 18, 3) := by decide +kernel
theorem d_Th_told_24 : decode m_Th_told.2.1 24 = .ok (.iload_n 1, 1) := by decide +kernel
theorem d_Th_told_25 : decode m_Th_told.2.1 25 = .ok (.bipush 10, 2) := by decide +kernel
theorem d_Th_told_27 : decode m_Th_told.2.1 27 = .ok (.isub, 1) := by decide +kernel
theorem d_Th_told_28 : decode m_Th_told.2.1 28 = .ok (.invokestatic 33, 3) := by decide +kernel
set_option maxRecDepth 100000 in
theorem s_Th_told_28 {G : r_X} {n : Nat} {h : r_HI} {g : r_HR} {z : r_HL} {v0 v1 : Value} : r_cl G m_Th_told m_Ra_at 28 [v0, v1] n h g z := r_clSN d_Th_told_28 w_Ra_at (List.mem_of_getElem? (i := 30) rfl) a_Ra_at n_Ra (by decide +kernel : r_mh m_Ra_at.1 2)
theorem d_Th_told_31 : decode m_Th_told.2.1 31 = .ok (.goto 4, 3) := by decide +kernel
theorem d_Th_told_34 : decode m_Th_told.2.1 34 = .ok (.iconst (-1), 1) := by decide +kernel
theorem d_Th_told_35 : decode m_Th_told.2.1 35 = .ok (.ireturn, 1) := by decide +kernel
theorem d_Th_search_0 : decode m_Th_search.2.1 0 = .ok (.iload_n 3, 1) := by decide +kernel
theorem d_Th_search_1 : decode m_Th_search.2.1 1 = .ok (.aload_n 0, 1) := by decide +kernel
theorem d_Th_search_2 : decode m_Th_search.2.1 2 = .ok (.getfield 21, 3) := by decide +kernel
theorem d_Th_search_5 : decode m_Th_search.2.1 5 = .ok (.if_icmp .lt 4, 3) := by decide +kernel
theorem d_Th_search_8 : decode m_Th_search.2.1 8 = .ok (.return_, 1) := by decide +kernel
theorem d_Th_search_9 : decode m_Th_search.2.1 9 = .ok (.iload_n 1, 1) := by decide +kernel
theorem d_Th_search_10 : decode m_Th_search.2.1 10 = .ok (.iload_n 2, 1) := by decide +kernel
theorem d_Th_search_11 : decode m_Th_search.2.1 11 = .ok (.if_icmp .ge 9, 3) := by decide +kernel
theorem d_Th_search_14 : decode m_Th_search.2.1 14 = .ok (.iload_n 1, 1) := by decide +kernel
theorem d_Th_search_15 : decode m_Th_search.2.1 15 = .ok (.bipush 6, 2) := by decide +kernel
theorem d_Th_search_17 : decode m_Th_search.2.1 17 = .ok (.if_icmp .lt 20, 3) := by decide +kernel
theorem d_Th_search_20 : decode m_Th_search.2.1 20 = .ok (.aload_n 0, 1) := by decide +kernel
theorem d_Th_search_21 : decode m_Th_search.2.1 21 = .ok (.iload_n 3, 1) := by decide +kernel
theorem d_Th_search_22 : decode m_Th_search.2.1 22 = .ok (.putfield 21, 3) := by decide +kernel
theorem d_Th_search_25 : decode m_Th_search.2.1 25 = .ok (.aload_n 0, 1) := by decide +kernel
theorem d_Th_search_26 : decode m_Th_search.2.1 26 = .ok (.getfield 15, 3) := by decide +kernel
theorem d_Th_search_29 : decode m_Th_search.2.1 29 = .ok (.aload_n 0, 1) := by decide +kernel
theorem d_Th_search_30 : decode m_Th_search.2.1 30 = .ok (.getfield 18, 3) := by decide +kernel
theorem d_Th_search_33 : decode m_Th_search.2.1 33 = .ok (.invokestatic 29, 3) := by decide +kernel
set_option maxRecDepth 100000 in
theorem s_Th_search_33 {G : r_X} {n : Nat} {h : r_HI} {g : r_HR} {z : r_HL} {v0 v1 : Value} : r_cl G m_Th_search m_Ra_copyRow 33 [v0, v1] n h g z := r_clSN d_Th_search_33 w_Ra_copyRow (List.mem_of_getElem? (i := 31) rfl) a_Ra_copyRow n_Ra (by decide +kernel : r_mh m_Ra_copyRow.1 2)
theorem d_Th_search_36 : decode m_Th_search.2.1 36 = .ok (.return_, 1) := by decide +kernel
theorem d_Th_search_37 : decode m_Th_search.2.1 37 = .ok (.iconst 0, 1) := by decide +kernel
theorem d_Th_search_38 : decode m_Th_search.2.1 38 = .ok (.istore 5, 2) := by decide +kernel
theorem d_Th_search_40 : decode m_Th_search.2.1 40 = .ok (.iload 5, 2) := by decide +kernel
theorem d_Th_search_42 : decode m_Th_search.2.1 42 = .ok (.iload_n 2, 1) := by decide +kernel
theorem d_Th_search_43 : decode m_Th_search.2.1 43 = .ok (.if_icmp .ge 58, 3) := by decide +kernel
theorem d_Th_search_46 : decode m_Th_search.2.1 46 = .ok (.iload 5, 2) := by decide +kernel
theorem d_Th_search_48 : decode m_Th_search.2.1 48 = .ok (.bipush 6, 2) := by decide +kernel
theorem d_Th_search_50 : decode m_Th_search.2.1 50 = .ok (.if_icmp .ge 51, 3) := by decide +kernel
theorem d_Th_search_53 : decode m_Th_search.2.1 53 = .ok (.iload 4, 2) := by decide +kernel
theorem d_Th_search_55 : decode m_Th_search.2.1 55 = .ok (.iload 5, 2) := by decide +kernel
theorem d_Th_search_57 : decode m_Th_search.2.1 57 = .ok (.invokestatic 46, 3) := by decide +kernel
set_option maxRecDepth 100000 in
theorem s_Th_search_57 {G : r_X} {n : Nat} {h : r_HI} {g : r_HR} {z : r_HL} {v0 v1 : Value} : r_cl G m_Th_search m_Ra_hasBit 57 [v0, v1] n h g z := r_clSN d_Th_search_57 w_Ra_hasBit (List.mem_of_getElem? (i := 32) rfl) a_Ra_hasBit n_Ra (by decide +kernel : r_mh m_Ra_hasBit.1 2)
theorem d_Th_search_60 : decode m_Th_search.2.1 60 = .ok (.ifCond .ne 35, 3) := by decide +kernel
theorem d_Th_search_63 : decode m_Th_search.2.1 63 = .ok (.aload_n 0, 1) := by decide +kernel
theorem d_Th_search_64 : decode m_Th_search.2.1 64 = .ok (.getfield 15, 3) := by decide +kernel
theorem d_Th_search_67 : decode m_Th_search.2.1 67 = .ok (.iload_n 1, 1) := by decide +kernel
theorem d_Th_search_68 : decode m_Th_search.2.1 68 = .ok (.iload 5, 2) := by decide +kernel
theorem d_Th_search_70 : decode m_Th_search.2.1 70 = .ok (.invokestatic 25, 3) := by decide +kernel
set_option maxRecDepth 100000 in
theorem s_Th_search_70 {G : r_X} {n : Nat} {h : r_HI} {g : r_HR} {z : r_HL} {v0 v1 v2 : Value} : r_cl G m_Th_search m_Ra_put 70 [v0, v1, v2] n h g z := r_clSN d_Th_search_70 w_Ra_put (List.mem_of_getElem? (i := 18) rfl) a_Ra_put n_Ra (by decide +kernel : r_mh m_Ra_put.1 3)
theorem d_Th_search_73 : decode m_Th_search.2.1 73 = .ok (.aload_n 0, 1) := by decide +kernel
theorem d_Th_search_74 : decode m_Th_search.2.1 74 = .ok (.iload_n 1, 1) := by decide +kernel
theorem d_Th_search_75 : decode m_Th_search.2.1 75 = .ok (.iconst 1, 1) := by decide +kernel
theorem d_Th_search_76 : decode m_Th_search.2.1 76 = .ok (.iadd, 1) := by decide +kernel
theorem d_Th_search_77 : decode m_Th_search.2.1 77 = .ok (.iload_n 2, 1) := by decide +kernel
theorem d_Th_search_78 : decode m_Th_search.2.1 78 = .ok (.iload_n 3, 1) := by decide +kernel
theorem d_Th_search_79 : decode m_Th_search.2.1 79 = .ok (.aload_n 0, 1) := by decide +kernel
theorem d_Th_search_80 : decode m_Th_search.2.1 80 = .ok (.iload_n 1, 1) := by decide +kernel
theorem d_Th_search_81 : decode m_Th_search.2.1 81 = .ok (.invokevirtual 50, 3) := by decide +kernel
set_option maxRecDepth 100000 in
theorem s_Th_search_81 {G : r_X} {n : Nat} {h : r_HI} {g : r_HR} {z : r_HL} {k : Nat} {v0 : Value} (hp : r_pk k = (0, 10)) (hk : k < n) : r_cl G m_Th_search m_Th_share 81 (.ref (G.2.1 + k) :: [v0]) n h g z := r_clV d_Th_search_81 w_Th_share (r_in 595 rfl rfl) a_Th_share (r_inP 2 rfl rfl) n_Th (by decide +kernel : r_mh m_Th_share.1 1) hp hk (by decide)
theorem d_Th_search_84 : decode m_Th_search.2.1 84 = .ok (.iadd, 1) := by decide +kernel
theorem d_Th_search_85 : decode m_Th_search.2.1 85 = .ok (.iload 4, 2) := by decide +kernel
theorem d_Th_search_87 : decode m_Th_search.2.1 87 = .ok (.iconst 1, 1) := by decide +kernel
theorem d_Th_search_88 : decode m_Th_search.2.1 88 = .ok (.iload 5, 2) := by decide +kernel
theorem d_Th_search_90 : decode m_Th_search.2.1 90 = .ok (.ishl, 1) := by decide +kernel
theorem d_Th_search_91 : decode m_Th_search.2.1 91 = .ok (.ior, 1) := by decide +kernel
theorem d_Th_search_92 : decode m_Th_search.2.1 92 = .ok (.invokestatic 42, 3) := by decide +kernel
set_option maxRecDepth 100000 in
theorem s_Th_search_92 {G : r_X} {n : Nat} {h : r_HI} {g : r_HR} {z : r_HL} {v0 v1 v2 v3 v4 : Value} : r_cl G m_Th_search m_Th_search 92 [v0, v1, v2, v3, v4] n h g z := r_clS d_Th_search_92 w_Th_search (r_in 590 rfl rfl) a_Th_search n_Th (by decide +kernel : r_mh m_Th_search.1 5)
theorem d_Th_search_95 : decode m_Th_search.2.1 95 = .ok (.iinc 5 1, 3) := by decide +kernel
theorem d_Th_search_98 : decode m_Th_search.2.1 98 = .ok (.goto (-58), 3) := by decide +kernel
theorem d_Th_search_101 : decode m_Th_search.2.1 101 = .ok (.return_, 1) := by decide +kernel
theorem d_Th_share_0 : decode m_Th_share.2.1 0 = .ok (.iconst 0, 1) := by decide +kernel
theorem d_Th_share_1 : decode m_Th_share.2.1 1 = .ok (.istore_n 2, 1) := by decide +kernel
theorem d_Th_share_2 : decode m_Th_share.2.1 2 = .ok (.iconst 0, 1) := by decide +kernel
theorem d_Th_share_3 : decode m_Th_share.2.1 3 = .ok (.istore_n 3, 1) := by decide +kernel
theorem d_Th_share_4 : decode m_Th_share.2.1 4 = .ok (.iload_n 3, 1) := by decide +kernel
theorem d_Th_share_5 : decode m_Th_share.2.1 5 = .ok (.iload_n 1, 1) := by decide +kernel
theorem d_Th_share_6 : decode m_Th_share.2.1 6 = .ok (.if_icmp .ge 56, 3) := by decide +kernel
theorem d_Th_share_9 : decode m_Th_share.2.1 9 = .ok (.iload_n 3, 1) := by decide +kernel
theorem d_Th_share_10 : decode m_Th_share.2.1 10 = .ok (.bipush 6, 2) := by decide +kernel
theorem d_Th_share_12 : decode m_Th_share.2.1 12 = .ok (.if_icmp .ge 50, 3) := by decide +kernel
theorem d_Th_share_15 : decode m_Th_share.2.1 15 = .ok (.iload_n 2, 1) := by decide +kernel
theorem d_Th_share_16 : decode m_Th_share.2.1 16 = .ok (.aload_n 0, 1) := by decide +kernel
theorem d_Th_share_17 : decode m_Th_share.2.1 17 = .ok (.getfield 9, 3) := by decide +kernel
theorem d_Th_share_20 : decode m_Th_share.2.1 20 = .ok (.iload_n 3, 1) := by decide +kernel
theorem d_Th_share_21 : decode m_Th_share.2.1 21 = .ok (.invokestatic 33, 3) := by decide +kernel
set_option maxRecDepth 100000 in
theorem s_Th_share_21 {G : r_X} {n : Nat} {h : r_HI} {g : r_HR} {z : r_HL} {v0 v1 : Value} : r_cl G m_Th_share m_Ra_at 21 [v0, v1] n h g z := r_clSN d_Th_share_21 w_Ra_at (List.mem_of_getElem? (i := 30) rfl) a_Ra_at n_Ra (by decide +kernel : r_mh m_Ra_at.1 2)
theorem d_Th_share_24 : decode m_Th_share.2.1 24 = .ok (.aload_n 0, 1) := by decide +kernel
theorem d_Th_share_25 : decode m_Th_share.2.1 25 = .ok (.getfield 9, 3) := by decide +kernel
theorem d_Th_share_28 : decode m_Th_share.2.1 28 = .ok (.iload_n 1, 1) := by decide +kernel
theorem d_Th_share_29 : decode m_Th_share.2.1 29 = .ok (.invokestatic 33, 3) := by decide +kernel
set_option maxRecDepth 100000 in
theorem s_Th_share_29 {G : r_X} {n : Nat} {h : r_HI} {g : r_HR} {z : r_HL} {v0 v1 : Value} : r_cl G m_Th_share m_Ra_at 29 [v0, v1] n h g z := r_clSN d_Th_share_29 w_Ra_at (List.mem_of_getElem? (i := 30) rfl) a_Ra_at n_Ra (by decide +kernel : r_mh m_Ra_at.1 2)
theorem d_Th_share_32 : decode m_Th_share.2.1 32 = .ok (.imul, 1) := by decide +kernel
theorem d_Th_share_33 : decode m_Th_share.2.1 33 = .ok (.aload_n 0, 1) := by decide +kernel
theorem d_Th_share_34 : decode m_Th_share.2.1 34 = .ok (.getfield 15, 3) := by decide +kernel
theorem d_Th_share_37 : decode m_Th_share.2.1 37 = .ok (.iload_n 3, 1) := by decide +kernel
theorem d_Th_share_38 : decode m_Th_share.2.1 38 = .ok (.invokestatic 33, 3) := by decide +kernel
set_option maxRecDepth 100000 in
theorem s_Th_share_38 {G : r_X} {n : Nat} {h : r_HI} {g : r_HR} {z : r_HL} {v0 v1 : Value} : r_cl G m_Th_share m_Ra_at 38 [v0, v1] n h g z := r_clSN d_Th_share_38 w_Ra_at (List.mem_of_getElem? (i := 30) rfl) a_Ra_at n_Ra (by decide +kernel : r_mh m_Ra_at.1 2)
theorem d_Th_share_41 : decode m_Th_share.2.1 41 = .ok (.aload_n 0, 1) := by decide +kernel
theorem d_Th_share_42 : decode m_Th_share.2.1 42 = .ok (.getfield 15, 3) := by decide +kernel
theorem d_Th_share_45 : decode m_Th_share.2.1 45 = .ok (.iload_n 1, 1) := by decide +kernel
theorem d_Th_share_46 : decode m_Th_share.2.1 46 = .ok (.invokestatic 33, 3) := by decide +kernel
set_option maxRecDepth 100000 in
theorem s_Th_share_46 {G : r_X} {n : Nat} {h : r_HI} {g : r_HR} {z : r_HL} {v0 v1 : Value} : r_cl G m_Th_share m_Ra_at 46 [v0, v1] n h g z := r_clSN d_Th_share_46 w_Ra_at (List.mem_of_getElem? (i := 30) rfl) a_Ra_at n_Ra (by decide +kernel : r_mh m_Ra_at.1 2)
theorem d_Th_share_49 : decode m_Th_share.2.1 49 = .ok (.isub, 1) := by decide +kernel
theorem d_Th_share_50 : decode m_Th_share.2.1 50 = .ok (.invokestatic 54, 3) := by decide +kernel
set_option maxRecDepth 100000 in
theorem s_Th_share_50 {G : r_X} {n : Nat} {h : r_HI} {g : r_HR} {z : r_HL} {v0 : Value} : r_cl G m_Th_share m_Jm_abs 50 [v0] n h g z := r_clS d_Th_share_50 w_Jm_abs (r_in 599 rfl rfl) a_Jm_abs n_Jm (by decide +kernel : r_mh m_Jm_abs.1 1)
theorem d_Th_share_53 : decode m_Th_share.2.1 53 = .ok (.imul, 1) := by decide +kernel
theorem d_Th_share_54 : decode m_Th_share.2.1 54 = .ok (.iadd, 1) := by decide +kernel
theorem d_Th_share_55 : decode m_Th_share.2.1 55 = .ok (.istore_n 2, 1) := by decide +kernel
theorem d_Th_share_56 : decode m_Th_share.2.1 56 = .ok (.iinc 3 1, 3) := by decide +kernel
theorem d_Th_share_59 : decode m_Th_share.2.1 59 = .ok (.goto (-55), 3) := by decide +kernel
theorem d_Th_share_62 : decode m_Th_share.2.1 62 = .ok (.iload_n 2, 1) := by decide +kernel
theorem d_Th_share_63 : decode m_Th_share.2.1 63 = .ok (.ireturn, 1) := by decide +kernel
theorem d_Ra_init_0 : decode m_Ra_init.2.1 0 = .ok (.aload_n 0, 1) := by decide +kernel
theorem d_Ra_init_1 : decode m_Ra_init.2.1 1 = .ok (.invokespecial 1, 3) := by decide +kernel
set_option maxRecDepth 100000 in
theorem s_Ra_init_1 : Cond.methodLink m_Ra_init.1.cls 1 Lib.objectInit ∈ r_wg := r_in 20 rfl rfl
theorem d_Ra_init_4 : decode m_Ra_init.2.1 4 = .ok (.aload_n 0, 1) := by decide +kernel
theorem d_Ra_init_5 : decode m_Ra_init.2.1 5 = .ok (.new 7, 3) := by decide +kernel
theorem d_Ra_init_8 : decode m_Ra_init.2.1 8 = .ok (.dup, 1) := by decide +kernel
theorem d_Ra_init_9 : decode m_Ra_init.2.1 9 = .ok (.invokespecial 9, 3) := by decide +kernel
set_option maxRecDepth 100000 in
theorem s_Ra_init_9 {G : r_X} {n : Nat} {h : r_HI} {g : r_HR} {z : r_HL} {a : Nat} : r_cl G m_Ra_init m_Pa_init 9 (.ref a :: []) n h g z := r_clIN d_Ra_init_9 w_Pa_init rfl (List.mem_of_getElem? (i := 0) rfl) a_Pa_init rfl n_Pa (by decide +kernel : r_mh m_Pa_init.1 0)
theorem d_Ra_init_12 : decode m_Ra_init.2.1 12 = .ok (.putfield 10, 3) := by decide +kernel
theorem d_Ra_init_15 : decode m_Ra_init.2.1 15 = .ok (.aload_n 0, 1) := by decide +kernel
theorem d_Ra_init_16 : decode m_Ra_init.2.1 16 = .ok (.new 16, 3) := by decide +kernel
theorem d_Ra_init_19 : decode m_Ra_init.2.1 19 = .ok (.dup, 1) := by decide +kernel
theorem d_Ra_init_20 : decode m_Ra_init.2.1 20 = .ok (.invokespecial 18, 3) := by decide +kernel
set_option maxRecDepth 100000 in
theorem s_Ra_init_20 {G : r_X} {n : Nat} {h : r_HI} {g : r_HR} {z : r_HL} {a : Nat} : r_cl G m_Ra_init m_Di_init 20 (.ref a :: []) n h g z := r_clIN d_Ra_init_20 w_Di_init rfl (List.mem_of_getElem? (i := 1) rfl) a_Di_init rfl n_Di (by decide +kernel : r_mh m_Di_init.1 0)
theorem d_Ra_init_23 : decode m_Ra_init.2.1 23 = .ok (.putfield 19, 3) := by decide +kernel
theorem d_Ra_init_26 : decode m_Ra_init.2.1 26 = .ok (.aload_n 0, 1) := by decide +kernel
theorem d_Ra_init_27 : decode m_Ra_init.2.1 27 = .ok (.new 23, 3) := by decide +kernel
theorem d_Ra_init_30 : decode m_Ra_init.2.1 30 = .ok (.dup, 1) := by decide +kernel
theorem d_Ra_init_31 : decode m_Ra_init.2.1 31 = .ok (.aload_n 0, 1) := by decide +kernel
theorem d_Ra_init_32 : decode m_Ra_init.2.1 32 = .ok (.getfield 19, 3) := by decide +kernel
theorem d_Ra_init_35 : decode m_Ra_init.2.1 35 = .ok (.invokespecial 25, 3) := by decide +kernel
set_option maxRecDepth 100000 in
theorem s_Ra_init_35 {G : r_X} {n : Nat} {h : r_HI} {g : r_HR} {z : r_HL} {a : Nat} {v0 : Value} : r_cl G m_Ra_init m_Dk_init 35 (.ref a :: [v0]) n h g z := r_clI d_Ra_init_35 w_Dk_init rfl (r_in 73 rfl rfl) a_Dk_init rfl n_Dk (by decide +kernel : r_mh m_Dk_init.1 1)
theorem d_Ra_init_38 : decode m_Ra_init.2.1 38 = .ok (.putfield 28, 3) := by decide +kernel
theorem d_Ra_init_41 : decode m_Ra_init.2.1 41 = .ok (.aload_n 0, 1) := by decide +kernel
theorem d_Ra_init_42 : decode m_Ra_init.2.1 42 = .ok (.new 32, 3) := by decide +kernel
theorem d_Ra_init_45 : decode m_Ra_init.2.1 45 = .ok (.dup, 1) := by decide +kernel
theorem d_Ra_init_46 : decode m_Ra_init.2.1 46 = .ok (.invokespecial 34, 3) := by decide +kernel
set_option maxRecDepth 100000 in
theorem s_Ra_init_46 {G : r_X} {n : Nat} {h : r_HI} {g : r_HR} {z : r_HL} {a : Nat} : r_cl G m_Ra_init m_Th_init 46 (.ref a :: []) n h g z := r_clIN d_Ra_init_46 w_Th_init rfl (List.mem_of_getElem? (i := 2) rfl) a_Th_init rfl n_Th (by decide +kernel : r_mh m_Th_init.1 0)
theorem d_Ra_init_49 : decode m_Ra_init.2.1 49 = .ok (.putfield 35, 3) := by decide +kernel
theorem d_Ra_init_52 : decode m_Ra_init.2.1 52 = .ok (.aload_n 0, 1) := by decide +kernel
theorem d_Ra_init_53 : decode m_Ra_init.2.1 53 = .ok (.new 39, 3) := by decide +kernel
theorem d_Ra_init_56 : decode m_Ra_init.2.1 56 = .ok (.dup, 1) := by decide +kernel
theorem d_Ra_init_57 : decode m_Ra_init.2.1 57 = .ok (.invokespecial 41, 3) := by decide +kernel
set_option maxRecDepth 100000 in
theorem s_Ra_init_57 {G : r_X} {n : Nat} {h : r_HI} {g : r_HR} {z : r_HL} {a : Nat} : r_cl G m_Ra_init m_Si_init 57 (.ref a :: []) n h g z := r_clIN d_Ra_init_57 w_Si_init rfl (List.mem_of_getElem? (i := 3) rfl) a_Si_init rfl n_Si (by decide +kernel : r_mh m_Si_init.1 0)
theorem d_Ra_init_60 : decode m_Ra_init.2.1 60 = .ok (.putfield 42, 3) := by decide +kernel
theorem d_Ra_init_63 : decode m_Ra_init.2.1 63 = .ok (.aload_n 0, 1) := by decide +kernel
theorem d_Ra_init_64 : decode m_Ra_init.2.1 64 = .ok (.iconst 5, 1) := by decide +kernel
theorem d_Ra_init_65 : decode m_Ra_init.2.1 65 = .ok (.anewarray 46, 3) := by decide +kernel
theorem d_Ra_init_68 : decode m_Ra_init.2.1 68 = .ok (.dup, 1) := by decide +kernel
theorem d_Ra_init_69 : decode m_Ra_init.2.1 69 = .ok (.iconst 0, 1) := by decide +kernel
theorem d_Ra_init_70 : decode m_Ra_init.2.1 70 = .ok (.new 46, 3) := by decide +kernel
theorem d_Ra_init_73 : decode m_Ra_init.2.1 73 = .ok (.dup, 1) := by decide +kernel
theorem d_Ra_init_74 : decode m_Ra_init.2.1 74 = .ok (.invokespecial 48, 3) := by decide +kernel
set_option maxRecDepth 100000 in
theorem s_Ra_init_74 {G : r_X} {n : Nat} {h : r_HI} {g : r_HR} {z : r_HL} {a : Nat} : r_cl G m_Ra_init m_Fi_init 74 (.ref a :: []) n h g z := r_clIN d_Ra_init_74 w_Fi_init rfl (List.mem_of_getElem? (i := 4) rfl) a_Fi_init rfl n_Fi (by decide +kernel : r_mh m_Fi_init.1 0)
theorem d_Ra_init_77 : decode m_Ra_init.2.1 77 = .ok (.aastore, 1) := by decide +kernel
theorem d_Ra_init_78 : decode m_Ra_init.2.1 78 = .ok (.dup, 1) := by decide +kernel
theorem d_Ra_init_79 : decode m_Ra_init.2.1 79 = .ok (.iconst 1, 1) := by decide +kernel
theorem d_Ra_init_80 : decode m_Ra_init.2.1 80 = .ok (.new 49, 3) := by decide +kernel
theorem d_Ra_init_83 : decode m_Ra_init.2.1 83 = .ok (.dup, 1) := by decide +kernel
theorem d_Ra_init_84 : decode m_Ra_init.2.1 84 = .ok (.invokespecial 51, 3) := by decide +kernel
set_option maxRecDepth 100000 in
theorem s_Ra_init_84 {G : r_X} {n : Nat} {h : r_HI} {g : r_HR} {z : r_HL} {a : Nat} : r_cl G m_Ra_init m_Ne_init 84 (.ref a :: []) n h g z := r_clIN d_Ra_init_84 w_Ne_init rfl (List.mem_of_getElem? (i := 5) rfl) a_Ne_init rfl n_Ne (by decide +kernel : r_mh m_Ne_init.1 0)
theorem d_Ra_init_87 : decode m_Ra_init.2.1 87 = .ok (.aastore, 1) := by decide +kernel
theorem d_Ra_init_88 : decode m_Ra_init.2.1 88 = .ok (.dup, 1) := by decide +kernel
theorem d_Ra_init_89 : decode m_Ra_init.2.1 89 = .ok (.iconst 2, 1) := by decide +kernel
theorem d_Ra_init_90 : decode m_Ra_init.2.1 90 = .ok (.new 52, 3) := by decide +kernel
theorem d_Ra_init_93 : decode m_Ra_init.2.1 93 = .ok (.dup, 1) := by decide +kernel
theorem d_Ra_init_94 : decode m_Ra_init.2.1 94 = .ok (.invokespecial 54, 3) := by decide +kernel
set_option maxRecDepth 100000 in
theorem s_Ra_init_94 {G : r_X} {n : Nat} {h : r_HI} {g : r_HR} {z : r_HL} {a : Nat} : r_cl G m_Ra_init m_Sw_init 94 (.ref a :: []) n h g z := r_clIN d_Ra_init_94 w_Sw_init rfl (List.mem_of_getElem? (i := 7) rfl) a_Sw_init rfl n_Sw (by decide +kernel : r_mh m_Sw_init.1 0)
theorem d_Ra_init_97 : decode m_Ra_init.2.1 97 = .ok (.aastore, 1) := by decide +kernel
theorem d_Ra_init_98 : decode m_Ra_init.2.1 98 = .ok (.dup, 1) := by decide +kernel
theorem d_Ra_init_99 : decode m_Ra_init.2.1 99 = .ok (.iconst 3, 1) := by decide +kernel
theorem d_Ra_init_100 : decode m_Ra_init.2.1 100 = .ok (.new 55, 3) := by decide +kernel
theorem d_Ra_init_103 : decode m_Ra_init.2.1 103 = .ok (.dup, 1) := by decide +kernel
theorem d_Ra_init_104 : decode m_Ra_init.2.1 104 = .ok (.invokespecial 57, 3) := by decide +kernel
set_option maxRecDepth 100000 in
theorem s_Ra_init_104 {G : r_X} {n : Nat} {h : r_HI} {g : r_HR} {z : r_HL} {a : Nat} : r_cl G m_Ra_init m_Ro_init 104 (.ref a :: []) n h g z := r_clIN d_Ra_init_104 w_Ro_init rfl (List.mem_of_getElem? (i := 9) rfl) a_Ro_init rfl n_Ro (by decide +kernel : r_mh m_Ro_init.1 0)
theorem d_Ra_init_107 : decode m_Ra_init.2.1 107 = .ok (.aastore, 1) := by decide +kernel
theorem d_Ra_init_108 : decode m_Ra_init.2.1 108 = .ok (.dup, 1) := by decide +kernel
theorem d_Ra_init_109 : decode m_Ra_init.2.1 109 = .ok (.iconst 4, 1) := by decide +kernel
theorem d_Ra_init_110 : decode m_Ra_init.2.1 110 = .ok (.new 58, 3) := by decide +kernel
theorem d_Ra_init_113 : decode m_Ra_init.2.1 113 = .ok (.dup, 1) := by decide +kernel
theorem d_Ra_init_114 : decode m_Ra_init.2.1 114 = .ok (.invokespecial 60, 3) := by decide +kernel
set_option maxRecDepth 100000 in
theorem s_Ra_init_114 {G : r_X} {n : Nat} {h : r_HI} {g : r_HR} {z : r_HL} {a : Nat} : r_cl G m_Ra_init m_So_init 114 (.ref a :: []) n h g z := r_clIN d_Ra_init_114 w_So_init rfl (List.mem_of_getElem? (i := 11) rfl) a_So_init rfl n_So (by decide +kernel : r_mh m_So_init.1 0)
theorem d_Ra_init_117 : decode m_Ra_init.2.1 117 = .ok (.aastore, 1) := by decide +kernel
theorem d_Ra_init_118 : decode m_Ra_init.2.1 118 = .ok (.putfield 61, 3) := by decide +kernel
theorem d_Ra_init_121 : decode m_Ra_init.2.1 121 = .ok (.aload_n 0, 1) := by decide +kernel
theorem d_Ra_init_122 : decode m_Ra_init.2.1 122 = .ok (.new 46, 3) := by decide +kernel
theorem d_Ra_init_125 : decode m_Ra_init.2.1 125 = .ok (.dup, 1) := by decide +kernel
theorem d_Ra_init_126 : decode m_Ra_init.2.1 126 = .ok (.invokespecial 48, 3) := by decide +kernel
set_option maxRecDepth 100000 in
theorem s_Ra_init_126 {G : r_X} {n : Nat} {h : r_HI} {g : r_HR} {z : r_HL} {a : Nat} : r_cl G m_Ra_init m_Fi_init 126 (.ref a :: []) n h g z := r_clIN d_Ra_init_126 w_Fi_init rfl (List.mem_of_getElem? (i := 4) rfl) a_Fi_init rfl n_Fi (by decide +kernel : r_mh m_Fi_init.1 0)
theorem d_Ra_init_129 : decode m_Ra_init.2.1 129 = .ok (.putfield 65, 3) := by decide +kernel
theorem d_Ra_init_132 : decode m_Ra_init.2.1 132 = .ok (.aload_n 0, 1) := by decide +kernel
theorem d_Ra_init_133 : decode m_Ra_init.2.1 133 = .ok (.new 16, 3) := by decide +kernel
theorem d_Ra_init_136 : decode m_Ra_init.2.1 136 = .ok (.dup, 1) := by decide +kernel
theorem d_Ra_init_137 : decode m_Ra_init.2.1 137 = .ok (.invokespecial 18, 3) := by decide +kernel
set_option maxRecDepth 100000 in
theorem s_Ra_init_137 {G : r_X} {n : Nat} {h : r_HI} {g : r_HR} {z : r_HL} {a : Nat} : r_cl G m_Ra_init m_Di_init 137 (.ref a :: []) n h g z := r_clIN d_Ra_init_137 w_Di_init rfl (List.mem_of_getElem? (i := 1) rfl) a_Di_init rfl n_Di (by decide +kernel : r_mh m_Di_init.1 0)
theorem d_Ra_init_140 : decode m_Ra_init.2.1 140 = .ok (.putfield 69, 3) := by decide +kernel
theorem d_Ra_init_143 : decode m_Ra_init.2.1 143 = .ok (.aload_n 0, 1) := by decide +kernel
theorem d_Ra_init_144 : decode m_Ra_init.2.1 144 = .ok (.new 23, 3) := by decide +kernel
theorem d_Ra_init_147 : decode m_Ra_init.2.1 147 = .ok (.dup, 1) := by decide +kernel
theorem d_Ra_init_148 : decode m_Ra_init.2.1 148 = .ok (.aload_n 0, 1) := by decide +kernel
theorem d_Ra_init_149 : decode m_Ra_init.2.1 149 = .ok (.getfield 69, 3) := by decide +kernel
theorem d_Ra_init_152 : decode m_Ra_init.2.1 152 = .ok (.invokespecial 25, 3) := by decide +kernel
set_option maxRecDepth 100000 in
theorem s_Ra_init_152 {G : r_X} {n : Nat} {h : r_HI} {g : r_HR} {z : r_HL} {a : Nat} {v0 : Value} : r_cl G m_Ra_init m_Dk_init 152 (.ref a :: [v0]) n h g z := r_clI d_Ra_init_152 w_Dk_init rfl (r_in 73 rfl rfl) a_Dk_init rfl n_Dk (by decide +kernel : r_mh m_Dk_init.1 1)
theorem d_Ra_init_155 : decode m_Ra_init.2.1 155 = .ok (.putfield 72, 3) := by decide +kernel
theorem d_Ra_init_158 : decode m_Ra_init.2.1 158 = .ok (.aload_n 0, 1) := by decide +kernel
theorem d_Ra_init_159 : decode m_Ra_init.2.1 159 = .ok (.new 32, 3) := by decide +kernel
theorem d_Ra_init_162 : decode m_Ra_init.2.1 162 = .ok (.dup, 1) := by decide +kernel
theorem d_Ra_init_163 : decode m_Ra_init.2.1 163 = .ok (.invokespecial 34, 3) := by decide +kernel
set_option maxRecDepth 100000 in
theorem s_Ra_init_163 {G : r_X} {n : Nat} {h : r_HI} {g : r_HR} {z : r_HL} {a : Nat} : r_cl G m_Ra_init m_Th_init 163 (.ref a :: []) n h g z := r_clIN d_Ra_init_163 w_Th_init rfl (List.mem_of_getElem? (i := 2) rfl) a_Th_init rfl n_Th (by decide +kernel : r_mh m_Th_init.1 0)
theorem d_Ra_init_166 : decode m_Ra_init.2.1 166 = .ok (.putfield 75, 3) := by decide +kernel
theorem d_Ra_init_169 : decode m_Ra_init.2.1 169 = .ok (.aload_n 0, 1) := by decide +kernel
theorem d_Ra_init_170 : decode m_Ra_init.2.1 170 = .ok (.new 39, 3) := by decide +kernel
theorem d_Ra_init_173 : decode m_Ra_init.2.1 173 = .ok (.dup, 1) := by decide +kernel
theorem d_Ra_init_174 : decode m_Ra_init.2.1 174 = .ok (.invokespecial 41, 3) := by decide +kernel
set_option maxRecDepth 100000 in
theorem s_Ra_init_174 {G : r_X} {n : Nat} {h : r_HI} {g : r_HR} {z : r_HL} {a : Nat} : r_cl G m_Ra_init m_Si_init 174 (.ref a :: []) n h g z := r_clIN d_Ra_init_174 w_Si_init rfl (List.mem_of_getElem? (i := 3) rfl) a_Si_init rfl n_Si (by decide +kernel : r_mh m_Si_init.1 0)
theorem d_Ra_init_177 : decode m_Ra_init.2.1 177 = .ok (.putfield 78, 3) := by decide +kernel
theorem d_Ra_init_180 : decode m_Ra_init.2.1 180 = .ok (.aload_n 0, 1) := by decide +kernel
theorem d_Ra_init_181 : decode m_Ra_init.2.1 181 = .ok (.aload_n 0, 1) := by decide +kernel
theorem d_Ra_init_182 : decode m_Ra_init.2.1 182 = .ok (.getfield 65, 3) := by decide +kernel
theorem d_Ra_init_185 : decode m_Ra_init.2.1 185 = .ok (.putfield 81, 3) := by decide +kernel
theorem d_Ra_init_188 : decode m_Ra_init.2.1 188 = .ok (.aload_n 0, 1) := by decide +kernel
theorem d_Ra_init_189 : decode m_Ra_init.2.1 189 = .ok (.iconst 0, 1) := by decide +kernel
theorem d_Ra_init_190 : decode m_Ra_init.2.1 190 = .ok (.putfield 84, 3) := by decide +kernel
theorem d_Ra_init_193 : decode m_Ra_init.2.1 193 = .ok (.aload_n 0, 1) := by decide +kernel
theorem d_Ra_init_194 : decode m_Ra_init.2.1 194 = .ok (.new 23, 3) := by decide +kernel
theorem d_Ra_init_197 : decode m_Ra_init.2.1 197 = .ok (.dup, 1) := by decide +kernel
theorem d_Ra_init_198 : decode m_Ra_init.2.1 198 = .ok (.aload_n 0, 1) := by decide +kernel
theorem d_Ra_init_199 : decode m_Ra_init.2.1 199 = .ok (.getfield 19, 3) := by decide +kernel
theorem d_Ra_init_202 : decode m_Ra_init.2.1 202 = .ok (.invokespecial 25, 3) := by decide +kernel
set_option maxRecDepth 100000 in
theorem s_Ra_init_202 {G : r_X} {n : Nat} {h : r_HI} {g : r_HR} {z : r_HL} {a : Nat} {v0 : Value} : r_cl G m_Ra_init m_Dk_init 202 (.ref a :: [v0]) n h g z := r_clI d_Ra_init_202 w_Dk_init rfl (r_in 73 rfl rfl) a_Dk_init rfl n_Dk (by decide +kernel : r_mh m_Dk_init.1 1)
theorem d_Ra_init_205 : decode m_Ra_init.2.1 205 = .ok (.putfield 88, 3) := by decide +kernel
theorem d_Ra_init_208 : decode m_Ra_init.2.1 208 = .ok (.aload_n 0, 1) := by decide +kernel
theorem d_Ra_init_209 : decode m_Ra_init.2.1 209 = .ok (.new 91, 3) := by decide +kernel
theorem d_Ra_init_212 : decode m_Ra_init.2.1 212 = .ok (.dup, 1) := by decide +kernel
theorem d_Ra_init_213 : decode m_Ra_init.2.1 213 = .ok (.invokespecial 93, 3) := by decide +kernel
set_option maxRecDepth 100000 in
theorem s_Ra_init_213 {G : r_X} {n : Nat} {h : r_HI} {g : r_HR} {z : r_HL} {a : Nat} : r_cl G m_Ra_init m_Or_init 213 (.ref a :: []) n h g z := r_clIN d_Ra_init_213 w_Or_init rfl (List.mem_of_getElem? (i := 13) rfl) a_Or_init rfl n_Or (by decide +kernel : r_mh m_Or_init.1 0)
theorem d_Ra_init_216 : decode m_Ra_init.2.1 216 = .ok (.putfield 94, 3) := by decide +kernel
theorem d_Ra_init_219 : decode m_Ra_init.2.1 219 = .ok (.aload_n 0, 1) := by decide +kernel
theorem d_Ra_init_220 : decode m_Ra_init.2.1 220 = .ok (.iconst 0, 1) := by decide +kernel
theorem d_Ra_init_221 : decode m_Ra_init.2.1 221 = .ok (.putfield 98, 3) := by decide +kernel
theorem d_Ra_init_224 : decode m_Ra_init.2.1 224 = .ok (.aload_n 0, 1) := by decide +kernel
theorem d_Ra_init_225 : decode m_Ra_init.2.1 225 = .ok (.iconst 0, 1) := by decide +kernel
theorem d_Ra_init_226 : decode m_Ra_init.2.1 226 = .ok (.putfield 102, 3) := by decide +kernel
theorem d_Ra_init_229 : decode m_Ra_init.2.1 229 = .ok (.return_, 1) := by decide +kernel
theorem d_Ra_letter_0 : decode m_Ra_letter.2.1 0 = .ok (.iload_n 1, 1) := by decide +kernel
theorem d_Ra_letter_1 : decode m_Ra_letter.2.1 1 = .ok (.iconst 1, 1) := by decide +kernel
theorem d_Ra_letter_2 : decode m_Ra_letter.2.1 2 = .ok (.if_icmp .lt 9, 3) := by decide +kernel
theorem d_Ra_letter_5 : decode m_Ra_letter.2.1 5 = .ok (.iload_n 1, 1) := by decide +kernel
theorem d_Ra_letter_6 : decode m_Ra_letter.2.1 6 = .ok (.bipush 126, 2) := by decide +kernel
theorem d_Ra_letter_8 : decode m_Ra_letter.2.1 8 = .ok (.if_icmp .le 6, 3) := by decide +kernel
theorem d_Ra_letter_11 : decode m_Ra_letter.2.1 11 = .ok (.bipush (-102), 2) := by decide +kernel
theorem d_Ra_letter_13 : decode m_Ra_letter.2.1 13 = .ok (.ireturn, 1) := by decide +kernel
theorem d_Ra_letter_14 : decode m_Ra_letter.2.1 14 = .ok (.aload_n 0, 1) := by decide +kernel
theorem d_Ra_letter_15 : decode m_Ra_letter.2.1 15 = .ok (.getfield 10, 3) := by decide +kernel
theorem d_Ra_letter_18 : decode m_Ra_letter.2.1 18 = .ok (.getfield 105, 3) := by decide +kernel
theorem d_Ra_letter_21 : decode m_Ra_letter.2.1 21 = .ok (.bipush 28, 2) := by decide +kernel
theorem d_Ra_letter_23 : decode m_Ra_letter.2.1 23 = .ok (.if_icmp .lt 6, 3) := by decide +kernel
theorem d_Ra_letter_26 : decode m_Ra_letter.2.1 26 = .ok (.bipush (-104), 2) := by decide +kernel
theorem d_Ra_letter_28 : decode m_Ra_letter.2.1 28 = .ok (.ireturn, 1) := by decide +kernel
theorem d_Ra_letter_29 : decode m_Ra_letter.2.1 29 = .ok (.aload_n 0, 1) := by decide +kernel
theorem d_Ra_letter_30 : decode m_Ra_letter.2.1 30 = .ok (.getfield 10, 3) := by decide +kernel
theorem d_Ra_letter_33 : decode m_Ra_letter.2.1 33 = .ok (.iload_n 1, 1) := by decide +kernel
theorem d_Ra_letter_34 : decode m_Ra_letter.2.1 34 = .ok (.invokevirtual 108, 3) := by decide +kernel
set_option maxRecDepth 100000 in
theorem s_Ra_letter_34 {G : r_X} {n : Nat} {h : r_HI} {g : r_HR} {z : r_HL} {k : Nat} {v0 : Value} (hp : r_pk k = (0, 5)) (hk : k < n) : r_cl G m_Ra_letter m_Pa_append 34 (.ref (G.2.1 + k) :: [v0]) n h g z := r_clV d_Ra_letter_34 w_Pa_append (r_in 283 rfl rfl) a_Pa_append (r_in 285 rfl rfl) n_Pa (by decide +kernel : r_mh m_Pa_append.1 1) hp hk (by decide)
theorem d_Ra_letter_37 : decode m_Ra_letter.2.1 37 = .ok (.ireturn, 1) := by decide +kernel
theorem d_Ra_blank_0 : decode m_Ra_blank.2.1 0 = .ok (.aload_n 0, 1) := by decide +kernel
theorem d_Ra_blank_1 : decode m_Ra_blank.2.1 1 = .ok (.getfield 10, 3) := by decide +kernel
theorem d_Ra_blank_4 : decode m_Ra_blank.2.1 4 = .ok (.invokevirtual 112, 3) := by decide +kernel
set_option maxRecDepth 100000 in
theorem s_Ra_blank_4 {G : r_X} {n : Nat} {h : r_HI} {g : r_HR} {z : r_HL} {k : Nat} (hp : r_pk k = (0, 5)) (hk : k < n) : r_cl G m_Ra_blank m_Pa_clear 4 (.ref (G.2.1 + k) :: []) n h g z := r_clV d_Ra_blank_4 w_Pa_clear (r_in 294 rfl rfl) a_Pa_clear (r_in 296 rfl rfl) n_Pa (by decide +kernel : r_mh m_Pa_clear.1 0) hp hk (by decide)
theorem d_Ra_blank_7 : decode m_Ra_blank.2.1 7 = .ok (.ireturn, 1) := by decide +kernel
theorem d_Ra_fault_0 : decode m_Ra_fault.2.1 0 = .ok (.aload_n 0, 1) := by decide +kernel
theorem d_Ra_fault_1 : decode m_Ra_fault.2.1 1 = .ok (.getfield 10, 3) := by decide +kernel
theorem d_Ra_fault_4 : decode m_Ra_fault.2.1 4 = .ok (.invokevirtual 116, 3) := by decide +kernel
set_option maxRecDepth 100000 in
theorem s_Ra_fault_4 {G : r_X} {n : Nat} {h : r_HI} {g : r_HR} {z : r_HL} {k : Nat} (hp : r_pk k = (0, 5)) (hk : k < n) : r_cl G m_Ra_fault m_Pa_firstFault 4 (.ref (G.2.1 + k) :: []) n h g z := r_clV d_Ra_fault_4 w_Pa_firstFault (r_in 302 rfl rfl) a_Pa_firstFault (r_in 304 rfl rfl) n_Pa (by decide +kernel : r_mh m_Pa_firstFault.1 0) hp hk (by decide)
theorem d_Ra_fault_7 : decode m_Ra_fault.2.1 7 = .ok (.ireturn, 1) := by decide +kernel
theorem d_Ra_plate_0 : decode m_Ra_plate.2.1 0 = .ok (.aload_n 0, 1) := by decide +kernel
theorem d_Ra_plate_1 : decode m_Ra_plate.2.1 1 = .ok (.getfield 10, 3) := by decide +kernel
theorem d_Ra_plate_4 : decode m_Ra_plate.2.1 4 = .ok (.invokevirtual 119, 3) := by decide +kernel
set_option maxRecDepth 100000 in
theorem s_Ra_plate_4 {G : r_X} {n : Nat} {h : r_HI} {g : r_HR} {z : r_HL} {k : Nat} (hp : r_pk k = (0, 5)) (hk : k < n) : r_cl G m_Ra_plate m_Pa_isPlate 4 (.ref (G.2.1 + k) :: []) n h g z := r_clV d_Ra_plate_4 w_Pa_isPlate (r_in 325 rfl rfl) a_Pa_isPlate (r_in 327 rfl rfl) n_Pa (by decide +kernel : r_mh m_Pa_isPlate.1 0) hp hk (by decide)
theorem d_Ra_plate_7 : decode m_Ra_plate.2.1 7 = .ok (.ifCond .ne 6, 3) := by decide +kernel
theorem d_Ra_plate_10 : decode m_Ra_plate.2.1 10 = .ok (.bipush (-103), 2) := by decide +kernel
theorem d_Ra_plate_12 : decode m_Ra_plate.2.1 12 = .ok (.ireturn, 1) := by decide +kernel
theorem d_Ra_plate_13 : decode m_Ra_plate.2.1 13 = .ok (.aload_n 0, 1) := by decide +kernel
theorem d_Ra_plate_14 : decode m_Ra_plate.2.1 14 = .ok (.aload_n 0, 1) := by decide +kernel
theorem d_Ra_plate_15 : decode m_Ra_plate.2.1 15 = .ok (.aload_n 0, 1) := by decide +kernel
theorem d_Ra_plate_16 : decode m_Ra_plate.2.1 16 = .ok (.getfield 10, 3) := by decide +kernel
theorem d_Ra_plate_19 : decode m_Ra_plate.2.1 19 = .ok (.invokevirtual 123, 3) := by decide +kernel
set_option maxRecDepth 100000 in
theorem s_Ra_plate_19 {G : r_X} {n : Nat} {h : r_HI} {g : r_HR} {z : r_HL} {k : Nat} (hp : r_pk k = (0, 5)) (hk : k < n) : r_cl G m_Ra_plate m_Pa_policyKind 19 (.ref (G.2.1 + k) :: []) n h g z := r_clV d_Ra_plate_19 w_Pa_policyKind (r_in 334 rfl rfl) a_Pa_policyKind (r_in 336 rfl rfl) n_Pa (by decide +kernel : r_mh m_Pa_policyKind.1 0) hp hk (by decide)
theorem d_Ra_plate_22 : decode m_Ra_plate.2.1 22 = .ok (.invokevirtual 126, 3) := by decide +kernel
set_option maxRecDepth 100000 in
theorem s_Ra_plate_22 {G : r_X} {n : Nat} {h : r_HI} {g : r_HR} {z : r_HL} {k : Nat} {v0 : Value} (hp : r_pk k = (0, 11)) (hk : k < n) : r_cl G m_Ra_plate m_Ra_policyOf 22 (.ref (G.2.1 + k) :: [v0]) n h g z := r_clV d_Ra_plate_22 w_Ra_policyOf (r_in 338 rfl rfl) a_Ra_policyOf (r_inP 0 rfl rfl) n_Ra (by decide +kernel : r_mh m_Ra_policyOf.1 1) hp hk (by decide)
theorem d_Ra_plate_25 : decode m_Ra_plate.2.1 25 = .ok (.putfield 65, 3) := by decide +kernel
theorem d_Ra_plate_28 : decode m_Ra_plate.2.1 28 = .ok (.aload_n 0, 1) := by decide +kernel
theorem d_Ra_plate_29 : decode m_Ra_plate.2.1 29 = .ok (.getfield 19, 3) := by decide +kernel
theorem d_Ra_plate_32 : decode m_Ra_plate.2.1 32 = .ok (.aload_n 0, 1) := by decide +kernel
theorem d_Ra_plate_33 : decode m_Ra_plate.2.1 33 = .ok (.getfield 10, 3) := by decide +kernel
theorem d_Ra_plate_36 : decode m_Ra_plate.2.1 36 = .ok (.invokevirtual 130, 3) := by decide +kernel
set_option maxRecDepth 100000 in
theorem s_Ra_plate_36 {G : r_X} {n : Nat} {h : r_HI} {g : r_HR} {z : r_HL} {k : Nat} {v0 : Value} (hp : r_pk k = (0, 1)) (hk : k < n) : r_cl G m_Ra_plate m_Di_readFrom 36 (.ref (G.2.1 + k) :: [v0]) n h g z := r_clV d_Ra_plate_36 w_Di_readFrom (r_in 342 rfl rfl) a_Di_readFrom (r_in 344 rfl rfl) n_Di (by decide +kernel : r_mh m_Di_readFrom.1 1) hp hk (by decide)
theorem d_Ra_plate_39 : decode m_Ra_plate.2.1 39 = .ok (.aload_n 0, 1) := by decide +kernel
theorem d_Ra_plate_40 : decode m_Ra_plate.2.1 40 = .ok (.getfield 10, 3) := by decide +kernel
theorem d_Ra_plate_43 : decode m_Ra_plate.2.1 43 = .ok (.invokevirtual 112, 3) := by decide +kernel
set_option maxRecDepth 100000 in
theorem s_Ra_plate_43 {G : r_X} {n : Nat} {h : r_HI} {g : r_HR} {z : r_HL} {k : Nat} (hp : r_pk k = (0, 5)) (hk : k < n) : r_cl G m_Ra_plate m_Pa_clear 43 (.ref (G.2.1 + k) :: []) n h g z := r_clV d_Ra_plate_43 w_Pa_clear (r_in 294 rfl rfl) a_Pa_clear (r_in 296 rfl rfl) n_Pa (by decide +kernel : r_mh m_Pa_clear.1 0) hp hk (by decide)
theorem d_Ra_plate_46 : decode m_Ra_plate.2.1 46 = .ok (.pop, 1) := by decide +kernel
theorem d_Ra_plate_47 : decode m_Ra_plate.2.1 47 = .ok (.aload_n 0, 1) := by decide +kernel
theorem d_Ra_plate_48 : decode m_Ra_plate.2.1 48 = .ok (.getfield 28, 3) := by decide +kernel
theorem d_Ra_plate_51 : decode m_Ra_plate.2.1 51 = .ok (.invokevirtual 134, 3) := by decide +kernel
set_option maxRecDepth 100000 in
theorem s_Ra_plate_51 {G : r_X} {n : Nat} {h : r_HI} {g : r_HR} {z : r_HL} {k : Nat} (hp : r_pk k = (0, 0)) (hk : k < n) : r_cl G m_Ra_plate m_Dk_restart 51 (.ref (G.2.1 + k) :: []) n h g z := r_clV d_Ra_plate_51 w_Dk_restart (r_in 353 rfl rfl) a_Dk_restart (r_in 355 rfl rfl) n_Dk (by decide +kernel : r_mh m_Dk_restart.1 0) hp hk (by decide)
theorem d_Ra_plate_54 : decode m_Ra_plate.2.1 54 = .ok (.aload_n 0, 1) := by decide +kernel
theorem d_Ra_plate_55 : decode m_Ra_plate.2.1 55 = .ok (.getfield 35, 3) := by decide +kernel
theorem d_Ra_plate_58 : decode m_Ra_plate.2.1 58 = .ok (.invokevirtual 137, 3) := by decide +kernel
set_option maxRecDepth 100000 in
theorem s_Ra_plate_58 {G : r_X} {n : Nat} {h : r_HI} {g : r_HR} {z : r_HL} {k : Nat} (hp : r_pk k = (0, 10)) (hk : k < n) : r_cl G m_Ra_plate m_Th_clear 58 (.ref (G.2.1 + k) :: []) n h g z := r_clV d_Ra_plate_58 w_Th_clear (r_in 357 rfl rfl) a_Th_clear (r_in 359 rfl rfl) n_Th (by decide +kernel : r_mh m_Th_clear.1 0) hp hk (by decide)
theorem d_Ra_plate_61 : decode m_Ra_plate.2.1 61 = .ok (.aload_n 0, 1) := by decide +kernel
theorem d_Ra_plate_62 : decode m_Ra_plate.2.1 62 = .ok (.getfield 42, 3) := by decide +kernel
theorem d_Ra_plate_65 : decode m_Ra_plate.2.1 65 = .ok (.invokevirtual 139, 3) := by decide +kernel
set_option maxRecDepth 100000 in
theorem s_Ra_plate_65 {G : r_X} {n : Nat} {h : r_HI} {g : r_HR} {z : r_HL} {k : Nat} (hp : r_pk k = (0, 7)) (hk : k < n) : r_cl G m_Ra_plate m_Si_clear 65 (.ref (G.2.1 + k) :: []) n h g z := r_clV d_Ra_plate_65 w_Si_clear (r_in 362 rfl rfl) a_Si_clear (r_in 364 rfl rfl) n_Si (by decide +kernel : r_mh m_Si_clear.1 0) hp hk (by decide)
theorem d_Ra_plate_68 : decode m_Ra_plate.2.1 68 = .ok (.pop, 1) := by decide +kernel
theorem d_Ra_plate_69 : decode m_Ra_plate.2.1 69 = .ok (.aload_n 0, 1) := by decide +kernel
theorem d_Ra_plate_70 : decode m_Ra_plate.2.1 70 = .ok (.iconst 0, 1) := by decide +kernel
theorem d_Ra_plate_71 : decode m_Ra_plate.2.1 71 = .ok (.putfield 84, 3) := by decide +kernel
theorem d_Ra_plate_74 : decode m_Ra_plate.2.1 74 = .ok (.aload_n 0, 1) := by decide +kernel
theorem d_Ra_plate_75 : decode m_Ra_plate.2.1 75 = .ok (.dup, 1) := by decide +kernel
theorem d_Ra_plate_76 : decode m_Ra_plate.2.1 76 = .ok (.getfield 98, 3) := by decide +kernel
theorem d_Ra_plate_79 : decode m_Ra_plate.2.1 79 = .ok (.iconst 1, 1) := by decide +kernel
theorem d_Ra_plate_80 : decode m_Ra_plate.2.1 80 = .ok (.iadd, 1) := by decide +kernel
theorem d_Ra_plate_81 : decode m_Ra_plate.2.1 81 = .ok (.putfield 98, 3) := by decide +kernel
theorem d_Ra_plate_84 : decode m_Ra_plate.2.1 84 = .ok (.aload_n 0, 1) := by decide +kernel
theorem d_Ra_plate_85 : decode m_Ra_plate.2.1 85 = .ok (.getfield 19, 3) := by decide +kernel
theorem d_Ra_plate_88 : decode m_Ra_plate.2.1 88 = .ok (.getfield 140, 3) := by decide +kernel
theorem d_Ra_plate_91 : decode m_Ra_plate.2.1 91 = .ok (.ireturn, 1) := by decide +kernel
theorem d_Ra_ring_0 : decode m_Ra_ring.2.1 0 = .ok (.aload_n 0, 1) := by decide +kernel
theorem d_Ra_ring_1 : decode m_Ra_ring.2.1 1 = .ok (.getfield 19, 3) := by decide +kernel
theorem d_Ra_ring_4 : decode m_Ra_ring.2.1 4 = .ok (.iload_n 1, 1) := by decide +kernel
theorem d_Ra_ring_5 : decode m_Ra_ring.2.1 5 = .ok (.invokevirtual 141, 3) := by decide +kernel
set_option maxRecDepth 100000 in
theorem s_Ra_ring_5 {G : r_X} {n : Nat} {h : r_HI} {g : r_HR} {z : r_HL} {k : Nat} {v0 : Value} (hp : r_pk k = (0, 1)) (hk : k < n) : r_cl G m_Ra_ring m_Di_has 5 (.ref (G.2.1 + k) :: [v0]) n h g z := r_clV d_Ra_ring_5 w_Di_has (r_in 370 rfl rfl) a_Di_has (r_in 372 rfl rfl) n_Di (by decide +kernel : r_mh m_Di_has.1 1) hp hk (by decide)
theorem d_Ra_ring_8 : decode m_Ra_ring.2.1 8 = .ok (.ifCond .ne 6, 3) := by decide +kernel
theorem d_Ra_ring_11 : decode m_Ra_ring.2.1 11 = .ok (.bipush (-101), 2) := by decide +kernel
theorem d_Ra_ring_13 : decode m_Ra_ring.2.1 13 = .ok (.ireturn, 1) := by decide +kernel
theorem d_Ra_ring_14 : decode m_Ra_ring.2.1 14 = .ok (.iload_n 2, 1) := by decide +kernel
theorem d_Ra_ring_15 : decode m_Ra_ring.2.1 15 = .ok (.tableswitch 94 0 4 #[33, 45, 57, 69, 78], 33) := by decide +kernel
theorem d_Ra_ring_48 : decode m_Ra_ring.2.1 48 = .ok (.aload_n 0, 1) := by decide +kernel
theorem d_Ra_ring_49 : decode m_Ra_ring.2.1 49 = .ok (.getfield 19, 3) := by decide +kernel
theorem d_Ra_ring_52 : decode m_Ra_ring.2.1 52 = .ok (.getfield 145, 3) := by decide +kernel
theorem d_Ra_ring_55 : decode m_Ra_ring.2.1 55 = .ok (.iload_n 1, 1) := by decide +kernel
theorem d_Ra_ring_56 : decode m_Ra_ring.2.1 56 = .ok (.invokestatic 149, 3) := by decide +kernel
set_option maxRecDepth 100000 in
theorem s_Ra_ring_56 {G : r_X} {n : Nat} {h : r_HI} {g : r_HR} {z : r_HL} {v0 v1 : Value} : r_cl G m_Ra_ring m_Ra_at 56 [v0, v1] n h g z := r_clS d_Ra_ring_56 w_Ra_at (r_in 374 rfl rfl) a_Ra_at n_Ra (by decide +kernel : r_mh m_Ra_at.1 2)
theorem d_Ra_ring_59 : decode m_Ra_ring.2.1 59 = .ok (.ireturn, 1) := by decide +kernel
theorem d_Ra_ring_60 : decode m_Ra_ring.2.1 60 = .ok (.aload_n 0, 1) := by decide +kernel
theorem d_Ra_ring_61 : decode m_Ra_ring.2.1 61 = .ok (.getfield 19, 3) := by decide +kernel
theorem d_Ra_ring_64 : decode m_Ra_ring.2.1 64 = .ok (.getfield 153, 3) := by decide +kernel
theorem d_Ra_ring_67 : decode m_Ra_ring.2.1 67 = .ok (.iload_n 1, 1) := by decide +kernel
theorem d_Ra_ring_68 : decode m_Ra_ring.2.1 68 = .ok (.invokestatic 149, 3) := by decide +kernel
set_option maxRecDepth 100000 in
theorem s_Ra_ring_68 {G : r_X} {n : Nat} {h : r_HI} {g : r_HR} {z : r_HL} {v0 v1 : Value} : r_cl G m_Ra_ring m_Ra_at 68 [v0, v1] n h g z := r_clS d_Ra_ring_68 w_Ra_at (r_in 374 rfl rfl) a_Ra_at n_Ra (by decide +kernel : r_mh m_Ra_at.1 2)
theorem d_Ra_ring_71 : decode m_Ra_ring.2.1 71 = .ok (.ireturn, 1) := by decide +kernel
theorem d_Ra_ring_72 : decode m_Ra_ring.2.1 72 = .ok (.aload_n 0, 1) := by decide +kernel
theorem d_Ra_ring_73 : decode m_Ra_ring.2.1 73 = .ok (.getfield 19, 3) := by decide +kernel
theorem d_Ra_ring_76 : decode m_Ra_ring.2.1 76 = .ok (.getfield 156, 3) := by decide +kernel
theorem d_Ra_ring_79 : decode m_Ra_ring.2.1 79 = .ok (.iload_n 1, 1) := by decide +kernel
theorem d_Ra_ring_80 : decode m_Ra_ring.2.1 80 = .ok (.invokestatic 149, 3) := by decide +kernel
set_option maxRecDepth 100000 in
theorem s_Ra_ring_80 {G : r_X} {n : Nat} {h : r_HI} {g : r_HR} {z : r_HL} {v0 v1 : Value} : r_cl G m_Ra_ring m_Ra_at 80 [v0, v1] n h g z := r_clS d_Ra_ring_80 w_Ra_at (r_in 374 rfl rfl) a_Ra_at n_Ra (by decide +kernel : r_mh m_Ra_at.1 2)
theorem d_Ra_ring_83 : decode m_Ra_ring.2.1 83 = .ok (.ireturn, 1) := by decide +kernel
theorem d_Ra_ring_84 : decode m_Ra_ring.2.1 84 = .ok (.aload_n 0, 1) := by decide +kernel
theorem d_Ra_ring_85 : decode m_Ra_ring.2.1 85 = .ok (.getfield 28, 3) := by decide +kernel
theorem d_Ra_ring_88 : decode m_Ra_ring.2.1 88 = .ok (.iload_n 1, 1) := by decide +kernel
theorem d_Ra_ring_89 : decode m_Ra_ring.2.1 89 = .ok (.invokevirtual 159, 3) := by decide +kernel
set_option maxRecDepth 100000 in
theorem s_Ra_ring_89 {G : r_X} {n : Nat} {h : r_HI} {g : r_HR} {z : r_HL} {k : Nat} {v0 : Value} (hp : r_pk k = (0, 0)) (hk : k < n) : r_cl G m_Ra_ring m_Dk_bitsOn 89 (.ref (G.2.1 + k) :: [v0]) n h g z := r_clV d_Ra_ring_89 w_Dk_bitsOn (r_in 375 rfl rfl) a_Dk_bitsOn (r_in 377 rfl rfl) n_Dk (by decide +kernel : r_mh m_Dk_bitsOn.1 1) hp hk (by decide)
theorem d_Ra_ring_92 : decode m_Ra_ring.2.1 92 = .ok (.ireturn, 1) := by decide +kernel
theorem d_Ra_ring_93 : decode m_Ra_ring.2.1 93 = .ok (.aload_n 0, 1) := by decide +kernel
theorem d_Ra_ring_94 : decode m_Ra_ring.2.1 94 = .ok (.getfield 19, 3) := by decide +kernel
theorem d_Ra_ring_97 : decode m_Ra_ring.2.1 97 = .ok (.aload_n 0, 1) := by decide +kernel
theorem d_Ra_ring_98 : decode m_Ra_ring.2.1 98 = .ok (.getfield 28, 3) := by decide +kernel
theorem d_Ra_ring_101 : decode m_Ra_ring.2.1 101 = .ok (.getfield 162, 3) := by decide +kernel
theorem d_Ra_ring_104 : decode m_Ra_ring.2.1 104 = .ok (.iload_n 1, 1) := by decide +kernel
theorem d_Ra_ring_105 : decode m_Ra_ring.2.1 105 = .ok (.invokevirtual 165, 3) := by decide +kernel
set_option maxRecDepth 100000 in
theorem s_Ra_ring_105 {G : r_X} {n : Nat} {h : r_HI} {g : r_HR} {z : r_HL} {k : Nat} {v0 v1 : Value} (hp : r_pk k = (0, 1)) (hk : k < n) : r_cl G m_Ra_ring m_Di_travel 105 (.ref (G.2.1 + k) :: [v0, v1]) n h g z := r_clV d_Ra_ring_105 w_Di_travel (r_in 380 rfl rfl) a_Di_travel (r_in 382 rfl rfl) n_Di (by decide +kernel : r_mh m_Di_travel.1 2) hp hk (by decide)
theorem d_Ra_ring_108 : decode m_Ra_ring.2.1 108 = .ok (.ireturn, 1) := by decide +kernel
theorem d_Ra_ring_109 : decode m_Ra_ring.2.1 109 = .ok (.bipush (-102), 2) := by decide +kernel
theorem d_Ra_ring_111 : decode m_Ra_ring.2.1 111 = .ok (.ireturn, 1) := by decide +kernel
theorem d_Ra_asked_0 : decode m_Ra_asked.2.1 0 = .ok (.aload_n 0, 1) := by decide +kernel
theorem d_Ra_asked_1 : decode m_Ra_asked.2.1 1 = .ok (.getfield 28, 3) := by decide +kernel
theorem d_Ra_asked_4 : decode m_Ra_asked.2.1 4 = .ok (.iload_n 1, 1) := by decide +kernel
theorem d_Ra_asked_5 : decode m_Ra_asked.2.1 5 = .ok (.invokevirtual 169, 3) := by decide +kernel
set_option maxRecDepth 100000 in
theorem s_Ra_asked_5 {G : r_X} {n : Nat} {h : r_HI} {g : r_HR} {z : r_HL} {k : Nat} {v0 : Value} (hp : r_pk k = (0, 0)) (hk : k < n) : r_cl G m_Ra_asked m_Dk_has 5 (.ref (G.2.1 + k) :: [v0]) n h g z := r_clV d_Ra_asked_5 w_Dk_has (r_in 388 rfl rfl) a_Dk_has (r_in 390 rfl rfl) n_Dk (by decide +kernel : r_mh m_Dk_has.1 1) hp hk (by decide)
theorem d_Ra_asked_8 : decode m_Ra_asked.2.1 8 = .ok (.ifCond .ne 6, 3) := by decide +kernel
theorem d_Ra_asked_11 : decode m_Ra_asked.2.1 11 = .ok (.bipush (-101), 2) := by decide +kernel
theorem d_Ra_asked_13 : decode m_Ra_asked.2.1 13 = .ok (.ireturn, 1) := by decide +kernel
theorem d_Ra_asked_14 : decode m_Ra_asked.2.1 14 = .ok (.iload_n 2, 1) := by decide +kernel
theorem d_Ra_asked_15 : decode m_Ra_asked.2.1 15 = .ok (.tableswitch 74 0 3 #[29, 41, 53, 65], 29) := by decide +kernel
theorem d_Ra_asked_44 : decode m_Ra_asked.2.1 44 = .ok (.aload_n 0, 1) := by decide +kernel
theorem d_Ra_asked_45 : decode m_Ra_asked.2.1 45 = .ok (.getfield 28, 3) := by decide +kernel
theorem d_Ra_asked_48 : decode m_Ra_asked.2.1 48 = .ok (.getfield 170, 3) := by decide +kernel
theorem d_Ra_asked_51 : decode m_Ra_asked.2.1 51 = .ok (.iload_n 1, 1) := by decide +kernel
theorem d_Ra_asked_52 : decode m_Ra_asked.2.1 52 = .ok (.invokestatic 149, 3) := by decide +kernel
set_option maxRecDepth 100000 in
theorem s_Ra_asked_52 {G : r_X} {n : Nat} {h : r_HI} {g : r_HR} {z : r_HL} {v0 v1 : Value} : r_cl G m_Ra_asked m_Ra_at 52 [v0, v1] n h g z := r_clS d_Ra_asked_52 w_Ra_at (r_in 374 rfl rfl) a_Ra_at n_Ra (by decide +kernel : r_mh m_Ra_at.1 2)
theorem d_Ra_asked_55 : decode m_Ra_asked.2.1 55 = .ok (.ireturn, 1) := by decide +kernel
theorem d_Ra_asked_56 : decode m_Ra_asked.2.1 56 = .ok (.aload_n 0, 1) := by decide +kernel
theorem d_Ra_asked_57 : decode m_Ra_asked.2.1 57 = .ok (.getfield 28, 3) := by decide +kernel
theorem d_Ra_asked_60 : decode m_Ra_asked.2.1 60 = .ok (.getfield 173, 3) := by decide +kernel
theorem d_Ra_asked_63 : decode m_Ra_asked.2.1 63 = .ok (.iload_n 1, 1) := by decide +kernel
theorem d_Ra_asked_64 : decode m_Ra_asked.2.1 64 = .ok (.invokestatic 149, 3) := by decide +kernel
set_option maxRecDepth 100000 in
theorem s_Ra_asked_64 {G : r_X} {n : Nat} {h : r_HI} {g : r_HR} {z : r_HL} {v0 v1 : Value} : r_cl G m_Ra_asked m_Ra_at 64 [v0, v1] n h g z := r_clS d_Ra_asked_64 w_Ra_at (r_in 374 rfl rfl) a_Ra_at n_Ra (by decide +kernel : r_mh m_Ra_at.1 2)
theorem d_Ra_asked_67 : decode m_Ra_asked.2.1 67 = .ok (.ireturn, 1) := by decide +kernel
theorem d_Ra_asked_68 : decode m_Ra_asked.2.1 68 = .ok (.aload_n 0, 1) := by decide +kernel
theorem d_Ra_asked_69 : decode m_Ra_asked.2.1 69 = .ok (.getfield 28, 3) := by decide +kernel
theorem d_Ra_asked_72 : decode m_Ra_asked.2.1 72 = .ok (.getfield 174, 3) := by decide +kernel
theorem d_Ra_asked_75 : decode m_Ra_asked.2.1 75 = .ok (.iload_n 1, 1) := by decide +kernel
theorem d_Ra_asked_76 : decode m_Ra_asked.2.1 76 = .ok (.invokestatic 149, 3) := by decide +kernel
set_option maxRecDepth 100000 in
theorem s_Ra_asked_76 {G : r_X} {n : Nat} {h : r_HI} {g : r_HR} {z : r_HL} {v0 v1 : Value} : r_cl G m_Ra_asked m_Ra_at 76 [v0, v1] n h g z := r_clS d_Ra_asked_76 w_Ra_at (r_in 374 rfl rfl) a_Ra_at n_Ra (by decide +kernel : r_mh m_Ra_at.1 2)
theorem d_Ra_asked_79 : decode m_Ra_asked.2.1 79 = .ok (.ireturn, 1) := by decide +kernel
theorem d_Ra_asked_80 : decode m_Ra_asked.2.1 80 = .ok (.aload_n 0, 1) := by decide +kernel
theorem d_Ra_asked_81 : decode m_Ra_asked.2.1 81 = .ok (.getfield 28, 3) := by decide +kernel
theorem d_Ra_asked_84 : decode m_Ra_asked.2.1 84 = .ok (.iload_n 1, 1) := by decide +kernel
theorem d_Ra_asked_85 : decode m_Ra_asked.2.1 85 = .ok (.invokevirtual 177, 3) := by decide +kernel
set_option maxRecDepth 100000 in
theorem s_Ra_asked_85 {G : r_X} {n : Nat} {h : r_HI} {g : r_HR} {z : r_HL} {k : Nat} {v0 : Value} (hp : r_pk k = (0, 0)) (hk : k < n) : r_cl G m_Ra_asked m_Dk_doneAt 85 (.ref (G.2.1 + k) :: [v0]) n h g z := r_clV d_Ra_asked_85 w_Dk_doneAt (r_in 392 rfl rfl) a_Dk_doneAt (r_in 394 rfl rfl) n_Dk (by decide +kernel : r_mh m_Dk_doneAt.1 1) hp hk (by decide)
theorem d_Ra_asked_88 : decode m_Ra_asked.2.1 88 = .ok (.ireturn, 1) := by decide +kernel
theorem d_Ra_asked_89 : decode m_Ra_asked.2.1 89 = .ok (.bipush (-102), 2) := by decide +kernel
theorem d_Ra_asked_91 : decode m_Ra_asked.2.1 91 = .ok (.ireturn, 1) := by decide +kernel
theorem d_Ra_as_0 : decode m_Ra_as.2.1 0 = .ok (.iload_n 1, 1) := by decide +kernel
theorem d_Ra_as_1 : decode m_Ra_as.2.1 1 = .ok (.invokestatic 180, 3) := by decide +kernel
set_option maxRecDepth 100000 in
theorem s_Ra_as_1 {G : r_X} {n : Nat} {h : r_HI} {g : r_HR} {z : r_HL} {v0 : Value} : r_cl G m_Ra_as m_Ra_isKind 1 [v0] n h g z := r_clS d_Ra_as_1 w_Ra_isKind (r_in 408 rfl rfl) a_Ra_isKind n_Ra (by decide +kernel : r_mh m_Ra_isKind.1 1)
theorem d_Ra_as_4 : decode m_Ra_as.2.1 4 = .ok (.ifCond .ne 6, 3) := by decide +kernel
theorem d_Ra_as_7 : decode m_Ra_as.2.1 7 = .ok (.bipush (-102), 2) := by decide +kernel
theorem d_Ra_as_9 : decode m_Ra_as.2.1 9 = .ok (.ireturn, 1) := by decide +kernel
theorem d_Ra_as_10 : decode m_Ra_as.2.1 10 = .ok (.aload_n 0, 1) := by decide +kernel
theorem d_Ra_as_11 : decode m_Ra_as.2.1 11 = .ok (.invokevirtual 183, 3) := by decide +kernel
set_option maxRecDepth 100000 in
theorem s_Ra_as_11 {G : r_X} {n : Nat} {h : r_HI} {g : r_HR} {z : r_HL} {k : Nat} (hp : r_pk k = (0, 11)) (hk : k < n) : r_cl G m_Ra_as m_Ra_hasPlate 11 (.ref (G.2.1 + k) :: []) n h g z := r_clV d_Ra_as_11 w_Ra_hasPlate (r_in 411 rfl rfl) a_Ra_hasPlate (r_inP 1 rfl rfl) n_Ra (by decide +kernel : r_mh m_Ra_hasPlate.1 0) hp hk (by decide)
theorem d_Ra_as_14 : decode m_Ra_as.2.1 14 = .ok (.ifCond .ne 6, 3) := by decide +kernel
theorem d_Ra_as_17 : decode m_Ra_as.2.1 17 = .ok (.bipush (-103), 2) := by decide +kernel
theorem d_Ra_as_19 : decode m_Ra_as.2.1 19 = .ok (.ireturn, 1) := by decide +kernel
theorem d_Ra_as_20 : decode m_Ra_as.2.1 20 = .ok (.aload_n 0, 1) := by decide +kernel
theorem d_Ra_as_21 : decode m_Ra_as.2.1 21 = .ok (.getfield 65, 3) := by decide +kernel
theorem d_Ra_as_24 : decode m_Ra_as.2.1 24 = .ok (.iload_n 1, 1) := by decide +kernel
theorem d_Ra_as_25 : decode m_Ra_as.2.1 25 = .ok (.invokestatic 186, 3) := by decide +kernel
set_option maxRecDepth 100000 in
theorem s_Ra_as_25 {G : r_X} {n : Nat} {h : r_HI} {g : r_HR} {z : r_HL} {v0 v1 : Value} : r_cl G m_Ra_as m_Ra_isOf 25 [v0, v1] n h g z := r_clS d_Ra_as_25 w_Ra_isOf (r_in 415 rfl rfl) a_Ra_isOf n_Ra (by decide +kernel : r_mh m_Ra_isOf.1 2)
theorem d_Ra_as_28 : decode m_Ra_as.2.1 28 = .ok (.ifCond .eq 13, 3) := by decide +kernel
theorem d_Ra_as_31 : decode m_Ra_as.2.1 31 = .ok (.aload_n 0, 1) := by decide +kernel
theorem d_Ra_as_32 : decode m_Ra_as.2.1 32 = .ok (.getfield 65, 3) := by decide +kernel
theorem d_Ra_as_35 : decode m_Ra_as.2.1 35 = .ok (.invokevirtual 190, 3) := by decide +kernel
set_option maxRecDepth 100000 in
theorem s_Ra_as_35_Fi {G : r_X} {n : Nat} {h : r_HI} {g : r_HR} {z : r_HL} {k : Nat} (hp : r_pk k = (0, 2)) (hk : k < n) : r_cl G m_Ra_as m_Fi_kind 35 (.ref (G.2.1 + k) :: []) n h g z := r_clU (x := m_Fi_kind.1) (owner := "RingArm$First") (M0 := m_Fi_kind) d_Ra_as_35 w_Fi_kind (r_in 418 rfl rfl) (r_in 421 rfl rfl) a_Fi_kind w_Fi_kind rfl a_Fi_kind (r_in 420 rfl rfl) n_Fi ⟨by decide, by decide⟩ (by decide +kernel : r_mh m_Fi_kind.1 0) hp hk (by decide)
set_option maxRecDepth 100000 in
theorem s_Ra_as_35_Ne {G : r_X} {n : Nat} {h : r_HI} {g : r_HR} {z : r_HL} {k : Nat} (hp : r_pk k = (0, 3)) (hk : k < n) : r_cl G m_Ra_as m_Ne_kind 35 (.ref (G.2.1 + k) :: []) n h g z := r_clU (x := m_Fi_kind.1) (owner := "RingArm$First") (M0 := m_Fi_kind) d_Ra_as_35 w_Ne_kind (r_in 418 rfl rfl) (r_in 421 rfl rfl) a_Fi_kind w_Fi_kind rfl a_Ne_kind (r_in 422 rfl rfl) n_Ne ⟨by decide, by decide⟩ (by decide +kernel : r_mh m_Fi_kind.1 0) hp hk (by decide)
set_option maxRecDepth 100000 in
theorem s_Ra_as_35_Sw {G : r_X} {n : Nat} {h : r_HI} {g : r_HR} {z : r_HL} {k : Nat} (hp : r_pk k = (0, 9)) (hk : k < n) : r_cl G m_Ra_as m_Sw_kind 35 (.ref (G.2.1 + k) :: []) n h g z := r_clU (x := m_Fi_kind.1) (owner := "RingArm$First") (M0 := m_Fi_kind) d_Ra_as_35 w_Sw_kind (r_in 418 rfl rfl) (r_in 421 rfl rfl) a_Fi_kind w_Fi_kind rfl a_Sw_kind (r_in 431 rfl rfl) n_Sw ⟨by decide, by decide⟩ (by decide +kernel : r_mh m_Fi_kind.1 0) hp hk (by decide)
set_option maxRecDepth 100000 in
theorem s_Ra_as_35_Ro {G : r_X} {n : Nat} {h : r_HI} {g : r_HR} {z : r_HL} {k : Nat} (hp : r_pk k = (0, 6)) (hk : k < n) : r_cl G m_Ra_as m_Ro_kind 35 (.ref (G.2.1 + k) :: []) n h g z := r_clU (x := m_Fi_kind.1) (owner := "RingArm$First") (M0 := m_Fi_kind) d_Ra_as_35 w_Ro_kind (r_in 418 rfl rfl) (r_in 421 rfl rfl) a_Fi_kind w_Fi_kind rfl a_Ro_kind (r_in 425 rfl rfl) n_Ro ⟨by decide, by decide⟩ (by decide +kernel : r_mh m_Fi_kind.1 0) hp hk (by decide)
set_option maxRecDepth 100000 in
theorem s_Ra_as_35_So {G : r_X} {n : Nat} {h : r_HI} {g : r_HR} {z : r_HL} {k : Nat} (hp : r_pk k = (0, 8)) (hk : k < n) : r_cl G m_Ra_as m_So_kind 35 (.ref (G.2.1 + k) :: []) n h g z := r_clU (x := m_Fi_kind.1) (owner := "RingArm$First") (M0 := m_Fi_kind) d_Ra_as_35 w_So_kind (r_in 418 rfl rfl) (r_in 421 rfl rfl) a_Fi_kind w_Fi_kind rfl a_So_kind (r_in 428 rfl rfl) n_So ⟨by decide, by decide⟩ (by decide +kernel : r_mh m_Fi_kind.1 0) hp hk (by decide)
theorem d_Ra_as_38 : decode m_Ra_as.2.1 38 = .ok (.goto 4, 3) := by decide +kernel
theorem d_Ra_as_41 : decode m_Ra_as.2.1 41 = .ok (.iconst (-1), 1) := by decide +kernel
theorem d_Ra_as_42 : decode m_Ra_as.2.1 42 = .ok (.ireturn, 1) := by decide +kernel
theorem d_Ra_next_0 : decode m_Ra_next.2.1 0 = .ok (.aload_n 0, 1) := by decide +kernel
theorem d_Ra_next_1 : decode m_Ra_next.2.1 1 = .ok (.invokevirtual 183, 3) := by decide +kernel
set_option maxRecDepth 100000 in
theorem s_Ra_next_1 {G : r_X} {n : Nat} {h : r_HI} {g : r_HR} {z : r_HL} {k : Nat} (hp : r_pk k = (0, 11)) (hk : k < n) : r_cl G m_Ra_next m_Ra_hasPlate 1 (.ref (G.2.1 + k) :: []) n h g z := r_clV d_Ra_next_1 w_Ra_hasPlate (r_in 411 rfl rfl) a_Ra_hasPlate (r_inP 1 rfl rfl) n_Ra (by decide +kernel : r_mh m_Ra_hasPlate.1 0) hp hk (by decide)
theorem d_Ra_next_4 : decode m_Ra_next.2.1 4 = .ok (.ifCond .ne 6, 3) := by decide +kernel
theorem d_Ra_next_7 : decode m_Ra_next.2.1 7 = .ok (.bipush (-103), 2) := by decide +kernel
theorem d_Ra_next_9 : decode m_Ra_next.2.1 9 = .ok (.ireturn, 1) := by decide +kernel
theorem d_Ra_next_10 : decode m_Ra_next.2.1 10 = .ok (.aload_n 0, 1) := by decide +kernel
theorem d_Ra_next_11 : decode m_Ra_next.2.1 11 = .ok (.getfield 65, 3) := by decide +kernel
theorem d_Ra_next_14 : decode m_Ra_next.2.1 14 = .ok (.aload_n 0, 1) := by decide +kernel
theorem d_Ra_next_15 : decode m_Ra_next.2.1 15 = .ok (.getfield 28, 3) := by decide +kernel
theorem d_Ra_next_18 : decode m_Ra_next.2.1 18 = .ok (.invokevirtual 193, 3) := by decide +kernel
set_option maxRecDepth 100000 in
theorem s_Ra_next_18_Fi {G : r_X} {n : Nat} {h : r_HI} {g : r_HR} {z : r_HL} {k : Nat} {v0 : Value} (hp : r_pk k = (0, 2)) (hk : k < n) : r_cl G m_Ra_next m_Fi_pick 18 (.ref (G.2.1 + k) :: [v0]) n h g z := r_clU (x := m_Fi_pick.1) (owner := "RingArm$First") (M0 := m_Fi_pick) d_Ra_next_18 w_Fi_pick (r_in 439 rfl rfl) (r_in 442 rfl rfl) a_Fi_pick w_Fi_pick rfl a_Fi_pick (r_in 441 rfl rfl) n_Fi ⟨by decide, by decide⟩ (by decide +kernel : r_mh m_Fi_pick.1 1) hp hk (by decide)
set_option maxRecDepth 100000 in
theorem s_Ra_next_18_Ne {G : r_X} {n : Nat} {h : r_HI} {g : r_HR} {z : r_HL} {k : Nat} {v0 : Value} (hp : r_pk k = (0, 3)) (hk : k < n) : r_cl G m_Ra_next m_Fi_pick 18 (.ref (G.2.1 + k) :: [v0]) n h g z := r_clU (x := m_Fi_pick.1) (owner := "RingArm$First") (M0 := m_Fi_pick) d_Ra_next_18 w_Fi_pick (r_in 439 rfl rfl) (r_in 442 rfl rfl) a_Fi_pick w_Fi_pick rfl a_Fi_pick (r_in 443 rfl rfl) n_Fi ⟨by decide, by decide⟩ (by decide +kernel : r_mh m_Fi_pick.1 1) hp hk (by decide)
set_option maxRecDepth 100000 in
theorem s_Ra_next_18_Sw {G : r_X} {n : Nat} {h : r_HI} {g : r_HR} {z : r_HL} {k : Nat} {v0 : Value} (hp : r_pk k = (0, 9)) (hk : k < n) : r_cl G m_Ra_next m_Fi_pick 18 (.ref (G.2.1 + k) :: [v0]) n h g z := r_clU (x := m_Fi_pick.1) (owner := "RingArm$First") (M0 := m_Fi_pick) d_Ra_next_18 w_Fi_pick (r_in 439 rfl rfl) (r_in 442 rfl rfl) a_Fi_pick w_Fi_pick rfl a_Fi_pick (r_in 446 rfl rfl) n_Fi ⟨by decide, by decide⟩ (by decide +kernel : r_mh m_Fi_pick.1 1) hp hk (by decide)
set_option maxRecDepth 100000 in
theorem s_Ra_next_18_Ro {G : r_X} {n : Nat} {h : r_HI} {g : r_HR} {z : r_HL} {k : Nat} {v0 : Value} (hp : r_pk k = (0, 6)) (hk : k < n) : r_cl G m_Ra_next m_Fi_pick 18 (.ref (G.2.1 + k) :: [v0]) n h g z := r_clU (x := m_Fi_pick.1) (owner := "RingArm$First") (M0 := m_Fi_pick) d_Ra_next_18 w_Fi_pick (r_in 439 rfl rfl) (r_in 442 rfl rfl) a_Fi_pick w_Fi_pick rfl a_Fi_pick (r_in 444 rfl rfl) n_Fi ⟨by decide, by decide⟩ (by decide +kernel : r_mh m_Fi_pick.1 1) hp hk (by decide)
set_option maxRecDepth 100000 in
theorem s_Ra_next_18_So {G : r_X} {n : Nat} {h : r_HI} {g : r_HR} {z : r_HL} {k : Nat} {v0 : Value} (hp : r_pk k = (0, 8)) (hk : k < n) : r_cl G m_Ra_next m_Fi_pick 18 (.ref (G.2.1 + k) :: [v0]) n h g z := r_clU (x := m_Fi_pick.1) (owner := "RingArm$First") (M0 := m_Fi_pick) d_Ra_next_18 w_Fi_pick (r_in 439 rfl rfl) (r_in 442 rfl rfl) a_Fi_pick w_Fi_pick rfl a_Fi_pick (r_in 445 rfl rfl) n_Fi ⟨by decide, by decide⟩ (by decide +kernel : r_mh m_Fi_pick.1 1) hp hk (by decide)
theorem d_Ra_next_21 : decode m_Ra_next.2.1 21 = .ok (.ireturn, 1) := by decide +kernel
theorem d_Ra_ask_0 : decode m_Ra_ask.2.1 0 = .ok (.aload_n 0, 1) := by decide +kernel
theorem d_Ra_ask_1 : decode m_Ra_ask.2.1 1 = .ok (.getfield 19, 3) := by decide +kernel
theorem d_Ra_ask_4 : decode m_Ra_ask.2.1 4 = .ok (.iload_n 1, 1) := by decide +kernel
theorem d_Ra_ask_5 : decode m_Ra_ask.2.1 5 = .ok (.invokevirtual 141, 3) := by decide +kernel
set_option maxRecDepth 100000 in
theorem s_Ra_ask_5 {G : r_X} {n : Nat} {h : r_HI} {g : r_HR} {z : r_HL} {k : Nat} {v0 : Value} (hp : r_pk k = (0, 1)) (hk : k < n) : r_cl G m_Ra_ask m_Di_has 5 (.ref (G.2.1 + k) :: [v0]) n h g z := r_clV d_Ra_ask_5 w_Di_has (r_in 370 rfl rfl) a_Di_has (r_in 372 rfl rfl) n_Di (by decide +kernel : r_mh m_Di_has.1 1) hp hk (by decide)
theorem d_Ra_ask_8 : decode m_Ra_ask.2.1 8 = .ok (.ifCond .eq 22, 3) := by decide +kernel
theorem d_Ra_ask_11 : decode m_Ra_ask.2.1 11 = .ok (.iload_n 2, 1) := by decide +kernel
theorem d_Ra_ask_12 : decode m_Ra_ask.2.1 12 = .ok (.ifCond .lt 18, 3) := by decide +kernel
theorem d_Ra_ask_15 : decode m_Ra_ask.2.1 15 = .ok (.iload_n 2, 1) := by decide +kernel
theorem d_Ra_ask_16 : decode m_Ra_ask.2.1 16 = .ok (.aload_n 0, 1) := by decide +kernel
theorem d_Ra_ask_17 : decode m_Ra_ask.2.1 17 = .ok (.getfield 19, 3) := by decide +kernel
theorem d_Ra_ask_20 : decode m_Ra_ask.2.1 20 = .ok (.getfield 145, 3) := by decide +kernel
theorem d_Ra_ask_23 : decode m_Ra_ask.2.1 23 = .ok (.iload_n 1, 1) := by decide +kernel
theorem d_Ra_ask_24 : decode m_Ra_ask.2.1 24 = .ok (.invokestatic 149, 3) := by decide +kernel
set_option maxRecDepth 100000 in
theorem s_Ra_ask_24 {G : r_X} {n : Nat} {h : r_HI} {g : r_HR} {z : r_HL} {v0 v1 : Value} : r_cl G m_Ra_ask m_Ra_at 24 [v0, v1] n h g z := r_clS d_Ra_ask_24 w_Ra_at (r_in 374 rfl rfl) a_Ra_at n_Ra (by decide +kernel : r_mh m_Ra_at.1 2)
theorem d_Ra_ask_27 : decode m_Ra_ask.2.1 27 = .ok (.if_icmp .lt 6, 3) := by decide +kernel
theorem d_Ra_ask_30 : decode m_Ra_ask.2.1 30 = .ok (.bipush (-101), 2) := by decide +kernel
theorem d_Ra_ask_32 : decode m_Ra_ask.2.1 32 = .ok (.ireturn, 1) := by decide +kernel
theorem d_Ra_ask_33 : decode m_Ra_ask.2.1 33 = .ok (.aload_n 0, 1) := by decide +kernel
theorem d_Ra_ask_34 : decode m_Ra_ask.2.1 34 = .ok (.getfield 28, 3) := by decide +kernel
theorem d_Ra_ask_37 : decode m_Ra_ask.2.1 37 = .ok (.getfield 197, 3) := by decide +kernel
theorem d_Ra_ask_40 : decode m_Ra_ask.2.1 40 = .ok (.bipush 7, 2) := by decide +kernel
theorem d_Ra_ask_42 : decode m_Ra_ask.2.1 42 = .ok (.if_icmp .lt 6, 3) := by decide +kernel
theorem d_Ra_ask_45 : decode m_Ra_ask.2.1 45 = .ok (.bipush (-104), 2) := by decide +kernel
theorem d_Ra_ask_47 : decode m_Ra_ask.2.1 47 = .ok (.ireturn, 1) := by decide +kernel
theorem d_Ra_ask_48 : decode m_Ra_ask.2.1 48 = .ok (.aload_n 0, 1) := by decide +kernel
theorem d_Ra_ask_49 : decode m_Ra_ask.2.1 49 = .ok (.getfield 28, 3) := by decide +kernel
theorem d_Ra_ask_52 : decode m_Ra_ask.2.1 52 = .ok (.iload_n 1, 1) := by decide +kernel
theorem d_Ra_ask_53 : decode m_Ra_ask.2.1 53 = .ok (.iload_n 2, 1) := by decide +kernel
theorem d_Ra_ask_54 : decode m_Ra_ask.2.1 54 = .ok (.invokevirtual 198, 3) := by decide +kernel
set_option maxRecDepth 100000 in
theorem s_Ra_ask_54 {G : r_X} {n : Nat} {h : r_HI} {g : r_HR} {z : r_HL} {k : Nat} {v0 v1 : Value} (hp : r_pk k = (0, 0)) (hk : k < n) : r_cl G m_Ra_ask m_Dk_append 54 (.ref (G.2.1 + k) :: [v0, v1]) n h g z := r_clV d_Ra_ask_54 w_Dk_append (r_in 481 rfl rfl) a_Dk_append (r_in 483 rfl rfl) n_Dk (by decide +kernel : r_mh m_Dk_append.1 2) hp hk (by decide)
theorem d_Ra_ask_57 : decode m_Ra_ask.2.1 57 = .ok (.ireturn, 1) := by decide +kernel
theorem d_Ra_serve_0 : decode m_Ra_serve.2.1 0 = .ok (.aload_n 0, 1) := by decide +kernel
theorem d_Ra_serve_1 : decode m_Ra_serve.2.1 1 = .ok (.invokevirtual 183, 3) := by decide +kernel
set_option maxRecDepth 100000 in
theorem s_Ra_serve_1 {G : r_X} {n : Nat} {h : r_HI} {g : r_HR} {z : r_HL} {k : Nat} (hp : r_pk k = (0, 11)) (hk : k < n) : r_cl G m_Ra_serve m_Ra_hasPlate 1 (.ref (G.2.1 + k) :: []) n h g z := r_clV d_Ra_serve_1 w_Ra_hasPlate (r_in 411 rfl rfl) a_Ra_hasPlate (r_inP 1 rfl rfl) n_Ra (by decide +kernel : r_mh m_Ra_hasPlate.1 0) hp hk (by decide)
theorem d_Ra_serve_4 : decode m_Ra_serve.2.1 4 = .ok (.ifCond .eq 13, 3) := by decide +kernel
theorem d_Ra_serve_7 : decode m_Ra_serve.2.1 7 = .ok (.aload_n 0, 1) := by decide +kernel
theorem d_Ra_serve_8 : decode m_Ra_serve.2.1 8 = .ok (.getfield 28, 3) := by decide +kernel
theorem d_Ra_serve_11 : decode m_Ra_serve.2.1 11 = .ok (.getfield 197, 3) := by decide +kernel
theorem d_Ra_serve_14 : decode m_Ra_serve.2.1 14 = .ok (.ifCond .ne 6, 3) := by decide +kernel
theorem d_Ra_serve_17 : decode m_Ra_serve.2.1 17 = .ok (.bipush (-103), 2) := by decide +kernel
theorem d_Ra_serve_19 : decode m_Ra_serve.2.1 19 = .ok (.ireturn, 1) := by decide +kernel
theorem d_Ra_serve_20 : decode m_Ra_serve.2.1 20 = .ok (.aload_n 0, 1) := by decide +kernel
theorem d_Ra_serve_21 : decode m_Ra_serve.2.1 21 = .ok (.getfield 65, 3) := by decide +kernel
theorem d_Ra_serve_24 : decode m_Ra_serve.2.1 24 = .ok (.aload_n 0, 1) := by decide +kernel
theorem d_Ra_serve_25 : decode m_Ra_serve.2.1 25 = .ok (.getfield 28, 3) := by decide +kernel
theorem d_Ra_serve_28 : decode m_Ra_serve.2.1 28 = .ok (.invokevirtual 193, 3) := by decide +kernel
set_option maxRecDepth 100000 in
theorem s_Ra_serve_28_Fi {G : r_X} {n : Nat} {h : r_HI} {g : r_HR} {z : r_HL} {k : Nat} {v0 : Value} (hp : r_pk k = (0, 2)) (hk : k < n) : r_cl G m_Ra_serve m_Fi_pick 28 (.ref (G.2.1 + k) :: [v0]) n h g z := r_clU (x := m_Fi_pick.1) (owner := "RingArm$First") (M0 := m_Fi_pick) d_Ra_serve_28 w_Fi_pick (r_in 439 rfl rfl) (r_in 442 rfl rfl) a_Fi_pick w_Fi_pick rfl a_Fi_pick (r_in 441 rfl rfl) n_Fi ⟨by decide, by decide⟩ (by decide +kernel : r_mh m_Fi_pick.1 1) hp hk (by decide)
set_option maxRecDepth 100000 in
theorem s_Ra_serve_28_Ne {G : r_X} {n : Nat} {h : r_HI} {g : r_HR} {z : r_HL} {k : Nat} {v0 : Value} (hp : r_pk k = (0, 3)) (hk : k < n) : r_cl G m_Ra_serve m_Fi_pick 28 (.ref (G.2.1 + k) :: [v0]) n h g z := r_clU (x := m_Fi_pick.1) (owner := "RingArm$First") (M0 := m_Fi_pick) d_Ra_serve_28 w_Fi_pick (r_in 439 rfl rfl) (r_in 442 rfl rfl) a_Fi_pick w_Fi_pick rfl a_Fi_pick (r_in 443 rfl rfl) n_Fi ⟨by decide, by decide⟩ (by decide +kernel : r_mh m_Fi_pick.1 1) hp hk (by decide)
set_option maxRecDepth 100000 in
theorem s_Ra_serve_28_Sw {G : r_X} {n : Nat} {h : r_HI} {g : r_HR} {z : r_HL} {k : Nat} {v0 : Value} (hp : r_pk k = (0, 9)) (hk : k < n) : r_cl G m_Ra_serve m_Fi_pick 28 (.ref (G.2.1 + k) :: [v0]) n h g z := r_clU (x := m_Fi_pick.1) (owner := "RingArm$First") (M0 := m_Fi_pick) d_Ra_serve_28 w_Fi_pick (r_in 439 rfl rfl) (r_in 442 rfl rfl) a_Fi_pick w_Fi_pick rfl a_Fi_pick (r_in 446 rfl rfl) n_Fi ⟨by decide, by decide⟩ (by decide +kernel : r_mh m_Fi_pick.1 1) hp hk (by decide)
set_option maxRecDepth 100000 in
theorem s_Ra_serve_28_Ro {G : r_X} {n : Nat} {h : r_HI} {g : r_HR} {z : r_HL} {k : Nat} {v0 : Value} (hp : r_pk k = (0, 6)) (hk : k < n) : r_cl G m_Ra_serve m_Fi_pick 28 (.ref (G.2.1 + k) :: [v0]) n h g z := r_clU (x := m_Fi_pick.1) (owner := "RingArm$First") (M0 := m_Fi_pick) d_Ra_serve_28 w_Fi_pick (r_in 439 rfl rfl) (r_in 442 rfl rfl) a_Fi_pick w_Fi_pick rfl a_Fi_pick (r_in 444 rfl rfl) n_Fi ⟨by decide, by decide⟩ (by decide +kernel : r_mh m_Fi_pick.1 1) hp hk (by decide)
set_option maxRecDepth 100000 in
theorem s_Ra_serve_28_So {G : r_X} {n : Nat} {h : r_HI} {g : r_HR} {z : r_HL} {k : Nat} {v0 : Value} (hp : r_pk k = (0, 8)) (hk : k < n) : r_cl G m_Ra_serve m_Fi_pick 28 (.ref (G.2.1 + k) :: [v0]) n h g z := r_clU (x := m_Fi_pick.1) (owner := "RingArm$First") (M0 := m_Fi_pick) d_Ra_serve_28 w_Fi_pick (r_in 439 rfl rfl) (r_in 442 rfl rfl) a_Fi_pick w_Fi_pick rfl a_Fi_pick (r_in 445 rfl rfl) n_Fi ⟨by decide, by decide⟩ (by decide +kernel : r_mh m_Fi_pick.1 1) hp hk (by decide)
theorem d_Ra_serve_31 : decode m_Ra_serve.2.1 31 = .ok (.istore_n 1, 1) := by decide +kernel
theorem d_Ra_serve_32 : decode m_Ra_serve.2.1 32 = .ok (.aload_n 0, 1) := by decide +kernel
theorem d_Ra_serve_33 : decode m_Ra_serve.2.1 33 = .ok (.getfield 28, 3) := by decide +kernel
theorem d_Ra_serve_36 : decode m_Ra_serve.2.1 36 = .ok (.iload_n 1, 1) := by decide +kernel
theorem d_Ra_serve_37 : decode m_Ra_serve.2.1 37 = .ok (.invokevirtual 177, 3) := by decide +kernel
set_option maxRecDepth 100000 in
theorem s_Ra_serve_37 {G : r_X} {n : Nat} {h : r_HI} {g : r_HR} {z : r_HL} {k : Nat} {v0 : Value} (hp : r_pk k = (0, 0)) (hk : k < n) : r_cl G m_Ra_serve m_Dk_doneAt 37 (.ref (G.2.1 + k) :: [v0]) n h g z := r_clV d_Ra_serve_37 w_Dk_doneAt (r_in 392 rfl rfl) a_Dk_doneAt (r_in 394 rfl rfl) n_Dk (by decide +kernel : r_mh m_Dk_doneAt.1 1) hp hk (by decide)
theorem d_Ra_serve_40 : decode m_Ra_serve.2.1 40 = .ok (.ldc 200, 2) := by decide +kernel
theorem d_Ra_serve_42 : decode m_Ra_serve.2.1 42 = .ok (.if_icmp .le 6, 3) := by decide +kernel
theorem d_Ra_serve_45 : decode m_Ra_serve.2.1 45 = .ok (.bipush (-104), 2) := by decide +kernel
theorem d_Ra_serve_47 : decode m_Ra_serve.2.1 47 = .ok (.ireturn, 1) := by decide +kernel
theorem d_Ra_serve_48 : decode m_Ra_serve.2.1 48 = .ok (.aload_n 0, 1) := by decide +kernel
theorem d_Ra_serve_49 : decode m_Ra_serve.2.1 49 = .ok (.getfield 28, 3) := by decide +kernel
theorem d_Ra_serve_52 : decode m_Ra_serve.2.1 52 = .ok (.aload_n 0, 1) := by decide +kernel
theorem d_Ra_serve_53 : decode m_Ra_serve.2.1 53 = .ok (.getfield 65, 3) := by decide +kernel
theorem d_Ra_serve_56 : decode m_Ra_serve.2.1 56 = .ok (.iload_n 1, 1) := by decide +kernel
theorem d_Ra_serve_57 : decode m_Ra_serve.2.1 57 = .ok (.invokevirtual 201, 3) := by decide +kernel
set_option maxRecDepth 100000 in
theorem s_Ra_serve_57 {G : r_X} {n : Nat} {h : r_HI} {g : r_HR} {z : r_HL} {k : Nat} {v0 v1 : Value} (hp : r_pk k = (0, 0)) (hk : k < n) : r_cl G m_Ra_serve m_Dk_follow 57 (.ref (G.2.1 + k) :: [v0, v1]) n h g z := r_clV d_Ra_serve_57 w_Dk_follow (r_in 491 rfl rfl) a_Dk_follow (r_in 493 rfl rfl) n_Dk (by decide +kernel : r_mh m_Dk_follow.1 2) hp hk (by decide)
theorem d_Ra_serve_60 : decode m_Ra_serve.2.1 60 = .ok (.aload_n 0, 1) := by decide +kernel
theorem d_Ra_serve_61 : decode m_Ra_serve.2.1 61 = .ok (.getfield 28, 3) := by decide +kernel
theorem d_Ra_serve_64 : decode m_Ra_serve.2.1 64 = .ok (.getfield 205, 3) := by decide +kernel
theorem d_Ra_serve_67 : decode m_Ra_serve.2.1 67 = .ok (.ireturn, 1) := by decide +kernel
theorem d_Ra_read_0 : decode m_Ra_read.2.1 0 = .ok (.aload_n 0, 1) := by decide +kernel
theorem d_Ra_read_1 : decode m_Ra_read.2.1 1 = .ok (.getfield 28, 3) := by decide +kernel
theorem d_Ra_read_4 : decode m_Ra_read.2.1 4 = .ok (.iload_n 1, 1) := by decide +kernel
theorem d_Ra_read_5 : decode m_Ra_read.2.1 5 = .ok (.invokevirtual 169, 3) := by decide +kernel
set_option maxRecDepth 100000 in
theorem s_Ra_read_5 {G : r_X} {n : Nat} {h : r_HI} {g : r_HR} {z : r_HL} {k : Nat} {v0 : Value} (hp : r_pk k = (0, 0)) (hk : k < n) : r_cl G m_Ra_read m_Dk_has 5 (.ref (G.2.1 + k) :: [v0]) n h g z := r_clV d_Ra_read_5 w_Dk_has (r_in 388 rfl rfl) a_Dk_has (r_in 390 rfl rfl) n_Dk (by decide +kernel : r_mh m_Dk_has.1 1) hp hk (by decide)
theorem d_Ra_read_8 : decode m_Ra_read.2.1 8 = .ok (.ifCond .ne 6, 3) := by decide +kernel
theorem d_Ra_read_11 : decode m_Ra_read.2.1 11 = .ok (.bipush (-101), 2) := by decide +kernel
theorem d_Ra_read_13 : decode m_Ra_read.2.1 13 = .ok (.ireturn, 1) := by decide +kernel
theorem d_Ra_read_14 : decode m_Ra_read.2.1 14 = .ok (.aload_n 0, 1) := by decide +kernel
theorem d_Ra_read_15 : decode m_Ra_read.2.1 15 = .ok (.getfield 28, 3) := by decide +kernel
theorem d_Ra_read_18 : decode m_Ra_read.2.1 18 = .ok (.iload_n 1, 1) := by decide +kernel
theorem d_Ra_read_19 : decode m_Ra_read.2.1 19 = .ok (.invokevirtual 177, 3) := by decide +kernel
set_option maxRecDepth 100000 in
theorem s_Ra_read_19 {G : r_X} {n : Nat} {h : r_HI} {g : r_HR} {z : r_HL} {k : Nat} {v0 : Value} (hp : r_pk k = (0, 0)) (hk : k < n) : r_cl G m_Ra_read m_Dk_doneAt 19 (.ref (G.2.1 + k) :: [v0]) n h g z := r_clV d_Ra_read_19 w_Dk_doneAt (r_in 392 rfl rfl) a_Dk_doneAt (r_in 394 rfl rfl) n_Dk (by decide +kernel : r_mh m_Dk_doneAt.1 1) hp hk (by decide)
theorem d_Ra_read_22 : decode m_Ra_read.2.1 22 = .ok (.ldc 200, 2) := by decide +kernel
theorem d_Ra_read_24 : decode m_Ra_read.2.1 24 = .ok (.if_icmp .le 6, 3) := by decide +kernel
theorem d_Ra_read_27 : decode m_Ra_read.2.1 27 = .ok (.bipush (-104), 2) := by decide +kernel
theorem d_Ra_read_29 : decode m_Ra_read.2.1 29 = .ok (.ireturn, 1) := by decide +kernel
theorem d_Ra_read_30 : decode m_Ra_read.2.1 30 = .ok (.aload_n 0, 1) := by decide +kernel
theorem d_Ra_read_31 : decode m_Ra_read.2.1 31 = .ok (.getfield 28, 3) := by decide +kernel
theorem d_Ra_read_34 : decode m_Ra_read.2.1 34 = .ok (.iload_n 1, 1) := by decide +kernel
theorem d_Ra_read_35 : decode m_Ra_read.2.1 35 = .ok (.invokevirtual 208, 3) := by decide +kernel
set_option maxRecDepth 100000 in
theorem s_Ra_read_35 {G : r_X} {n : Nat} {h : r_HI} {g : r_HR} {z : r_HL} {k : Nat} {v0 : Value} (hp : r_pk k = (0, 0)) (hk : k < n) : r_cl G m_Ra_read m_Dk_finish 35 (.ref (G.2.1 + k) :: [v0]) n h g z := r_clV d_Ra_read_35 w_Dk_finish (r_in 517 rfl rfl) a_Dk_finish (r_in 510 rfl rfl) n_Dk (by decide +kernel : r_mh m_Dk_finish.1 1) hp hk (by decide)
theorem d_Ra_read_38 : decode m_Ra_read.2.1 38 = .ok (.aload_n 0, 1) := by decide +kernel
theorem d_Ra_read_39 : decode m_Ra_read.2.1 39 = .ok (.getfield 28, 3) := by decide +kernel
theorem d_Ra_read_42 : decode m_Ra_read.2.1 42 = .ok (.getfield 205, 3) := by decide +kernel
theorem d_Ra_read_45 : decode m_Ra_read.2.1 45 = .ok (.ireturn, 1) := by decide +kernel
theorem d_Ra_pass_0 : decode m_Ra_pass.2.1 0 = .ok (.iload_n 1, 1) := by decide +kernel
theorem d_Ra_pass_1 : decode m_Ra_pass.2.1 1 = .ok (.iconst 1, 1) := by decide +kernel
theorem d_Ra_pass_2 : decode m_Ra_pass.2.1 2 = .ok (.if_icmp .lt 9, 3) := by decide +kernel
theorem d_Ra_pass_5 : decode m_Ra_pass.2.1 5 = .ok (.iload_n 1, 1) := by decide +kernel
theorem d_Ra_pass_6 : decode m_Ra_pass.2.1 6 = .ok (.bipush 99, 2) := by decide +kernel
theorem d_Ra_pass_8 : decode m_Ra_pass.2.1 8 = .ok (.if_icmp .le 6, 3) := by decide +kernel
theorem d_Ra_pass_11 : decode m_Ra_pass.2.1 11 = .ok (.bipush (-102), 2) := by decide +kernel
theorem d_Ra_pass_13 : decode m_Ra_pass.2.1 13 = .ok (.ireturn, 1) := by decide +kernel
theorem d_Ra_pass_14 : decode m_Ra_pass.2.1 14 = .ok (.aload_n 0, 1) := by decide +kernel
theorem d_Ra_pass_15 : decode m_Ra_pass.2.1 15 = .ok (.invokevirtual 183, 3) := by decide +kernel
set_option maxRecDepth 100000 in
theorem s_Ra_pass_15 {G : r_X} {n : Nat} {h : r_HI} {g : r_HR} {z : r_HL} {k : Nat} (hp : r_pk k = (0, 11)) (hk : k < n) : r_cl G m_Ra_pass m_Ra_hasPlate 15 (.ref (G.2.1 + k) :: []) n h g z := r_clV d_Ra_pass_15 w_Ra_hasPlate (r_in 411 rfl rfl) a_Ra_hasPlate (r_inP 1 rfl rfl) n_Ra (by decide +kernel : r_mh m_Ra_hasPlate.1 0) hp hk (by decide)
theorem d_Ra_pass_18 : decode m_Ra_pass.2.1 18 = .ok (.ifCond .ne 6, 3) := by decide +kernel
theorem d_Ra_pass_21 : decode m_Ra_pass.2.1 21 = .ok (.bipush (-103), 2) := by decide +kernel
theorem d_Ra_pass_23 : decode m_Ra_pass.2.1 23 = .ok (.ireturn, 1) := by decide +kernel
theorem d_Ra_pass_24 : decode m_Ra_pass.2.1 24 = .ok (.aload_n 0, 1) := by decide +kernel
theorem d_Ra_pass_25 : decode m_Ra_pass.2.1 25 = .ok (.getfield 28, 3) := by decide +kernel
theorem d_Ra_pass_28 : decode m_Ra_pass.2.1 28 = .ok (.getfield 205, 3) := by decide +kernel
theorem d_Ra_pass_31 : decode m_Ra_pass.2.1 31 = .ok (.iload_n 1, 1) := by decide +kernel
theorem d_Ra_pass_32 : decode m_Ra_pass.2.1 32 = .ok (.iadd, 1) := by decide +kernel
theorem d_Ra_pass_33 : decode m_Ra_pass.2.1 33 = .ok (.ldc 200, 2) := by decide +kernel
theorem d_Ra_pass_35 : decode m_Ra_pass.2.1 35 = .ok (.if_icmp .le 6, 3) := by decide +kernel
theorem d_Ra_pass_38 : decode m_Ra_pass.2.1 38 = .ok (.bipush (-104), 2) := by decide +kernel
theorem d_Ra_pass_40 : decode m_Ra_pass.2.1 40 = .ok (.ireturn, 1) := by decide +kernel
theorem d_Ra_pass_41 : decode m_Ra_pass.2.1 41 = .ok (.aload_n 0, 1) := by decide +kernel
theorem d_Ra_pass_42 : decode m_Ra_pass.2.1 42 = .ok (.getfield 28, 3) := by decide +kernel
theorem d_Ra_pass_45 : decode m_Ra_pass.2.1 45 = .ok (.dup, 1) := by decide +kernel
theorem d_Ra_pass_46 : decode m_Ra_pass.2.1 46 = .ok (.getfield 205, 3) := by decide +kernel
theorem d_Ra_pass_49 : decode m_Ra_pass.2.1 49 = .ok (.iload_n 1, 1) := by decide +kernel
theorem d_Ra_pass_50 : decode m_Ra_pass.2.1 50 = .ok (.iadd, 1) := by decide +kernel
theorem d_Ra_pass_51 : decode m_Ra_pass.2.1 51 = .ok (.putfield 205, 3) := by decide +kernel
theorem d_Ra_pass_54 : decode m_Ra_pass.2.1 54 = .ok (.aload_n 0, 1) := by decide +kernel
theorem d_Ra_pass_55 : decode m_Ra_pass.2.1 55 = .ok (.getfield 28, 3) := by decide +kernel
theorem d_Ra_pass_58 : decode m_Ra_pass.2.1 58 = .ok (.getfield 205, 3) := by decide +kernel
theorem d_Ra_pass_61 : decode m_Ra_pass.2.1 61 = .ok (.ireturn, 1) := by decide +kernel
theorem d_Ra_choose_0 : decode m_Ra_choose.2.1 0 = .ok (.iload_n 1, 1) := by decide +kernel
theorem d_Ra_choose_1 : decode m_Ra_choose.2.1 1 = .ok (.invokestatic 180, 3) := by decide +kernel
set_option maxRecDepth 100000 in
theorem s_Ra_choose_1 {G : r_X} {n : Nat} {h : r_HI} {g : r_HR} {z : r_HL} {v0 : Value} : r_cl G m_Ra_choose m_Ra_isKind 1 [v0] n h g z := r_clS d_Ra_choose_1 w_Ra_isKind (r_in 408 rfl rfl) a_Ra_isKind n_Ra (by decide +kernel : r_mh m_Ra_isKind.1 1)
theorem d_Ra_choose_4 : decode m_Ra_choose.2.1 4 = .ok (.ifCond .ne 6, 3) := by decide +kernel
theorem d_Ra_choose_7 : decode m_Ra_choose.2.1 7 = .ok (.bipush (-102), 2) := by decide +kernel
theorem d_Ra_choose_9 : decode m_Ra_choose.2.1 9 = .ok (.ireturn, 1) := by decide +kernel
theorem d_Ra_choose_10 : decode m_Ra_choose.2.1 10 = .ok (.aload_n 0, 1) := by decide +kernel
theorem d_Ra_choose_11 : decode m_Ra_choose.2.1 11 = .ok (.invokevirtual 183, 3) := by decide +kernel
set_option maxRecDepth 100000 in
theorem s_Ra_choose_11 {G : r_X} {n : Nat} {h : r_HI} {g : r_HR} {z : r_HL} {k : Nat} (hp : r_pk k = (0, 11)) (hk : k < n) : r_cl G m_Ra_choose m_Ra_hasPlate 11 (.ref (G.2.1 + k) :: []) n h g z := r_clV d_Ra_choose_11 w_Ra_hasPlate (r_in 411 rfl rfl) a_Ra_hasPlate (r_inP 1 rfl rfl) n_Ra (by decide +kernel : r_mh m_Ra_hasPlate.1 0) hp hk (by decide)
theorem d_Ra_choose_14 : decode m_Ra_choose.2.1 14 = .ok (.ifCond .ne 6, 3) := by decide +kernel
theorem d_Ra_choose_17 : decode m_Ra_choose.2.1 17 = .ok (.bipush (-103), 2) := by decide +kernel
theorem d_Ra_choose_19 : decode m_Ra_choose.2.1 19 = .ok (.ireturn, 1) := by decide +kernel
theorem d_Ra_choose_20 : decode m_Ra_choose.2.1 20 = .ok (.aload_n 0, 1) := by decide +kernel
theorem d_Ra_choose_21 : decode m_Ra_choose.2.1 21 = .ok (.getfield 65, 3) := by decide +kernel
theorem d_Ra_choose_24 : decode m_Ra_choose.2.1 24 = .ok (.invokevirtual 190, 3) := by decide +kernel
set_option maxRecDepth 100000 in
theorem s_Ra_choose_24_Fi {G : r_X} {n : Nat} {h : r_HI} {g : r_HR} {z : r_HL} {k : Nat} (hp : r_pk k = (0, 2)) (hk : k < n) : r_cl G m_Ra_choose m_Fi_kind 24 (.ref (G.2.1 + k) :: []) n h g z := r_clU (x := m_Fi_kind.1) (owner := "RingArm$First") (M0 := m_Fi_kind) d_Ra_choose_24 w_Fi_kind (r_in 418 rfl rfl) (r_in 421 rfl rfl) a_Fi_kind w_Fi_kind rfl a_Fi_kind (r_in 420 rfl rfl) n_Fi ⟨by decide, by decide⟩ (by decide +kernel : r_mh m_Fi_kind.1 0) hp hk (by decide)
set_option maxRecDepth 100000 in
theorem s_Ra_choose_24_Ne {G : r_X} {n : Nat} {h : r_HI} {g : r_HR} {z : r_HL} {k : Nat} (hp : r_pk k = (0, 3)) (hk : k < n) : r_cl G m_Ra_choose m_Ne_kind 24 (.ref (G.2.1 + k) :: []) n h g z := r_clU (x := m_Fi_kind.1) (owner := "RingArm$First") (M0 := m_Fi_kind) d_Ra_choose_24 w_Ne_kind (r_in 418 rfl rfl) (r_in 421 rfl rfl) a_Fi_kind w_Fi_kind rfl a_Ne_kind (r_in 422 rfl rfl) n_Ne ⟨by decide, by decide⟩ (by decide +kernel : r_mh m_Fi_kind.1 0) hp hk (by decide)
set_option maxRecDepth 100000 in
theorem s_Ra_choose_24_Sw {G : r_X} {n : Nat} {h : r_HI} {g : r_HR} {z : r_HL} {k : Nat} (hp : r_pk k = (0, 9)) (hk : k < n) : r_cl G m_Ra_choose m_Sw_kind 24 (.ref (G.2.1 + k) :: []) n h g z := r_clU (x := m_Fi_kind.1) (owner := "RingArm$First") (M0 := m_Fi_kind) d_Ra_choose_24 w_Sw_kind (r_in 418 rfl rfl) (r_in 421 rfl rfl) a_Fi_kind w_Fi_kind rfl a_Sw_kind (r_in 431 rfl rfl) n_Sw ⟨by decide, by decide⟩ (by decide +kernel : r_mh m_Fi_kind.1 0) hp hk (by decide)
set_option maxRecDepth 100000 in
theorem s_Ra_choose_24_Ro {G : r_X} {n : Nat} {h : r_HI} {g : r_HR} {z : r_HL} {k : Nat} (hp : r_pk k = (0, 6)) (hk : k < n) : r_cl G m_Ra_choose m_Ro_kind 24 (.ref (G.2.1 + k) :: []) n h g z := r_clU (x := m_Fi_kind.1) (owner := "RingArm$First") (M0 := m_Fi_kind) d_Ra_choose_24 w_Ro_kind (r_in 418 rfl rfl) (r_in 421 rfl rfl) a_Fi_kind w_Fi_kind rfl a_Ro_kind (r_in 425 rfl rfl) n_Ro ⟨by decide, by decide⟩ (by decide +kernel : r_mh m_Fi_kind.1 0) hp hk (by decide)
set_option maxRecDepth 100000 in
theorem s_Ra_choose_24_So {G : r_X} {n : Nat} {h : r_HI} {g : r_HR} {z : r_HL} {k : Nat} (hp : r_pk k = (0, 8)) (hk : k < n) : r_cl G m_Ra_choose m_So_kind 24 (.ref (G.2.1 + k) :: []) n h g z := r_clU (x := m_Fi_kind.1) (owner := "RingArm$First") (M0 := m_Fi_kind) d_Ra_choose_24 w_So_kind (r_in 418 rfl rfl) (r_in 421 rfl rfl) a_Fi_kind w_Fi_kind rfl a_So_kind (r_in 428 rfl rfl) n_So ⟨by decide, by decide⟩ (by decide +kernel : r_mh m_Fi_kind.1 0) hp hk (by decide)
theorem d_Ra_choose_27 : decode m_Ra_choose.2.1 27 = .ok (.istore_n 2, 1) := by decide +kernel
theorem d_Ra_choose_28 : decode m_Ra_choose.2.1 28 = .ok (.aload_n 0, 1) := by decide +kernel
theorem d_Ra_choose_29 : decode m_Ra_choose.2.1 29 = .ok (.aload_n 0, 1) := by decide +kernel
theorem d_Ra_choose_30 : decode m_Ra_choose.2.1 30 = .ok (.iload_n 1, 1) := by decide +kernel
theorem d_Ra_choose_31 : decode m_Ra_choose.2.1 31 = .ok (.invokevirtual 126, 3) := by decide +kernel
set_option maxRecDepth 100000 in
theorem s_Ra_choose_31 {G : r_X} {n : Nat} {h : r_HI} {g : r_HR} {z : r_HL} {k : Nat} {v0 : Value} (hp : r_pk k = (0, 11)) (hk : k < n) : r_cl G m_Ra_choose m_Ra_policyOf 31 (.ref (G.2.1 + k) :: [v0]) n h g z := r_clV d_Ra_choose_31 w_Ra_policyOf (r_in 338 rfl rfl) a_Ra_policyOf (r_inP 0 rfl rfl) n_Ra (by decide +kernel : r_mh m_Ra_policyOf.1 1) hp hk (by decide)
theorem d_Ra_choose_34 : decode m_Ra_choose.2.1 34 = .ok (.putfield 65, 3) := by decide +kernel
theorem d_Ra_choose_37 : decode m_Ra_choose.2.1 37 = .ok (.iload_n 2, 1) := by decide +kernel
theorem d_Ra_choose_38 : decode m_Ra_choose.2.1 38 = .ok (.ireturn, 1) := by decide +kernel
theorem d_Ra_skew_0 : decode m_Ra_skew.2.1 0 = .ok (.aload_n 0, 1) := by decide +kernel
theorem d_Ra_skew_1 : decode m_Ra_skew.2.1 1 = .ok (.getfield 19, 3) := by decide +kernel
theorem d_Ra_skew_4 : decode m_Ra_skew.2.1 4 = .ok (.iload_n 1, 1) := by decide +kernel
theorem d_Ra_skew_5 : decode m_Ra_skew.2.1 5 = .ok (.invokevirtual 141, 3) := by decide +kernel
set_option maxRecDepth 100000 in
theorem s_Ra_skew_5 {G : r_X} {n : Nat} {h : r_HI} {g : r_HR} {z : r_HL} {k : Nat} {v0 : Value} (hp : r_pk k = (0, 1)) (hk : k < n) : r_cl G m_Ra_skew m_Di_has 5 (.ref (G.2.1 + k) :: [v0]) n h g z := r_clV d_Ra_skew_5 w_Di_has (r_in 370 rfl rfl) a_Di_has (r_in 372 rfl rfl) n_Di (by decide +kernel : r_mh m_Di_has.1 1) hp hk (by decide)
theorem d_Ra_skew_8 : decode m_Ra_skew.2.1 8 = .ok (.ifCond .ne 6, 3) := by decide +kernel
theorem d_Ra_skew_11 : decode m_Ra_skew.2.1 11 = .ok (.bipush (-101), 2) := by decide +kernel
theorem d_Ra_skew_13 : decode m_Ra_skew.2.1 13 = .ok (.ireturn, 1) := by decide +kernel
theorem d_Ra_skew_14 : decode m_Ra_skew.2.1 14 = .ok (.iload_n 2, 1) := by decide +kernel
theorem d_Ra_skew_15 : decode m_Ra_skew.2.1 15 = .ok (.ifCond .lt 9, 3) := by decide +kernel
theorem d_Ra_skew_18 : decode m_Ra_skew.2.1 18 = .ok (.iload_n 2, 1) := by decide +kernel
theorem d_Ra_skew_19 : decode m_Ra_skew.2.1 19 = .ok (.bipush 24, 2) := by decide +kernel
theorem d_Ra_skew_21 : decode m_Ra_skew.2.1 21 = .ok (.if_icmp .lt 6, 3) := by decide +kernel
theorem d_Ra_skew_24 : decode m_Ra_skew.2.1 24 = .ok (.bipush (-102), 2) := by decide +kernel
theorem d_Ra_skew_26 : decode m_Ra_skew.2.1 26 = .ok (.ireturn, 1) := by decide +kernel
theorem d_Ra_skew_27 : decode m_Ra_skew.2.1 27 = .ok (.aload_n 0, 1) := by decide +kernel
theorem d_Ra_skew_28 : decode m_Ra_skew.2.1 28 = .ok (.getfield 19, 3) := by decide +kernel
theorem d_Ra_skew_31 : decode m_Ra_skew.2.1 31 = .ok (.getfield 153, 3) := by decide +kernel
theorem d_Ra_skew_34 : decode m_Ra_skew.2.1 34 = .ok (.iload_n 1, 1) := by decide +kernel
theorem d_Ra_skew_35 : decode m_Ra_skew.2.1 35 = .ok (.invokestatic 149, 3) := by decide +kernel
set_option maxRecDepth 100000 in
theorem s_Ra_skew_35 {G : r_X} {n : Nat} {h : r_HI} {g : r_HR} {z : r_HL} {v0 v1 : Value} : r_cl G m_Ra_skew m_Ra_at 35 [v0, v1] n h g z := r_clS d_Ra_skew_35 w_Ra_at (r_in 374 rfl rfl) a_Ra_at n_Ra (by decide +kernel : r_mh m_Ra_at.1 2)
theorem d_Ra_skew_38 : decode m_Ra_skew.2.1 38 = .ok (.istore_n 3, 1) := by decide +kernel
theorem d_Ra_skew_39 : decode m_Ra_skew.2.1 39 = .ok (.aload_n 0, 1) := by decide +kernel
theorem d_Ra_skew_40 : decode m_Ra_skew.2.1 40 = .ok (.getfield 19, 3) := by decide +kernel
theorem d_Ra_skew_43 : decode m_Ra_skew.2.1 43 = .ok (.getfield 153, 3) := by decide +kernel
theorem d_Ra_skew_46 : decode m_Ra_skew.2.1 46 = .ok (.iload_n 1, 1) := by decide +kernel
theorem d_Ra_skew_47 : decode m_Ra_skew.2.1 47 = .ok (.iload_n 2, 1) := by decide +kernel
theorem d_Ra_skew_48 : decode m_Ra_skew.2.1 48 = .ok (.invokestatic 212, 3) := by decide +kernel
set_option maxRecDepth 100000 in
theorem s_Ra_skew_48 {G : r_X} {n : Nat} {h : r_HI} {g : r_HR} {z : r_HL} {v0 v1 v2 : Value} : r_cl G m_Ra_skew m_Ra_put 48 [v0, v1, v2] n h g z := r_clS d_Ra_skew_48 w_Ra_put (r_in 530 rfl rfl) a_Ra_put n_Ra (by decide +kernel : r_mh m_Ra_put.1 3)
theorem d_Ra_skew_51 : decode m_Ra_skew.2.1 51 = .ok (.iload_n 3, 1) := by decide +kernel
theorem d_Ra_skew_52 : decode m_Ra_skew.2.1 52 = .ok (.ireturn, 1) := by decide +kernel
theorem d_Ra_gear_0 : decode m_Ra_gear.2.1 0 = .ok (.iload_n 1, 1) := by decide +kernel
theorem d_Ra_gear_1 : decode m_Ra_gear.2.1 1 = .ok (.ifCond .lt 20, 3) := by decide +kernel
theorem d_Ra_gear_4 : decode m_Ra_gear.2.1 4 = .ok (.iload_n 1, 1) := by decide +kernel
theorem d_Ra_gear_5 : decode m_Ra_gear.2.1 5 = .ok (.bipush 9, 2) := by decide +kernel
theorem d_Ra_gear_7 : decode m_Ra_gear.2.1 7 = .ok (.if_icmp .gt 14, 3) := by decide +kernel
theorem d_Ra_gear_10 : decode m_Ra_gear.2.1 10 = .ok (.iload_n 2, 1) := by decide +kernel
theorem d_Ra_gear_11 : decode m_Ra_gear.2.1 11 = .ok (.iconst 1, 1) := by decide +kernel
theorem d_Ra_gear_12 : decode m_Ra_gear.2.1 12 = .ok (.if_icmp .lt 9, 3) := by decide +kernel
theorem d_Ra_gear_15 : decode m_Ra_gear.2.1 15 = .ok (.iload_n 2, 1) := by decide +kernel
theorem d_Ra_gear_16 : decode m_Ra_gear.2.1 16 = .ok (.bipush 9, 2) := by decide +kernel
theorem d_Ra_gear_18 : decode m_Ra_gear.2.1 18 = .ok (.if_icmp .le 6, 3) := by decide +kernel
theorem d_Ra_gear_21 : decode m_Ra_gear.2.1 21 = .ok (.bipush (-102), 2) := by decide +kernel
theorem d_Ra_gear_23 : decode m_Ra_gear.2.1 23 = .ok (.ireturn, 1) := by decide +kernel
theorem d_Ra_gear_24 : decode m_Ra_gear.2.1 24 = .ok (.aload_n 0, 1) := by decide +kernel
theorem d_Ra_gear_25 : decode m_Ra_gear.2.1 25 = .ok (.invokevirtual 183, 3) := by decide +kernel
set_option maxRecDepth 100000 in
theorem s_Ra_gear_25 {G : r_X} {n : Nat} {h : r_HI} {g : r_HR} {z : r_HL} {k : Nat} (hp : r_pk k = (0, 11)) (hk : k < n) : r_cl G m_Ra_gear m_Ra_hasPlate 25 (.ref (G.2.1 + k) :: []) n h g z := r_clV d_Ra_gear_25 w_Ra_hasPlate (r_in 411 rfl rfl) a_Ra_hasPlate (r_inP 1 rfl rfl) n_Ra (by decide +kernel : r_mh m_Ra_hasPlate.1 0) hp hk (by decide)
theorem d_Ra_gear_28 : decode m_Ra_gear.2.1 28 = .ok (.ifCond .ne 6, 3) := by decide +kernel
theorem d_Ra_gear_31 : decode m_Ra_gear.2.1 31 = .ok (.bipush (-103), 2) := by decide +kernel
theorem d_Ra_gear_33 : decode m_Ra_gear.2.1 33 = .ok (.ireturn, 1) := by decide +kernel
theorem d_Ra_gear_34 : decode m_Ra_gear.2.1 34 = .ok (.aload_n 0, 1) := by decide +kernel
theorem d_Ra_gear_35 : decode m_Ra_gear.2.1 35 = .ok (.getfield 19, 3) := by decide +kernel
theorem d_Ra_gear_38 : decode m_Ra_gear.2.1 38 = .ok (.getfield 216, 3) := by decide +kernel
theorem d_Ra_gear_41 : decode m_Ra_gear.2.1 41 = .ok (.istore_n 3, 1) := by decide +kernel
theorem d_Ra_gear_42 : decode m_Ra_gear.2.1 42 = .ok (.aload_n 0, 1) := by decide +kernel
theorem d_Ra_gear_43 : decode m_Ra_gear.2.1 43 = .ok (.getfield 19, 3) := by decide +kernel
theorem d_Ra_gear_46 : decode m_Ra_gear.2.1 46 = .ok (.iload_n 1, 1) := by decide +kernel
theorem d_Ra_gear_47 : decode m_Ra_gear.2.1 47 = .ok (.putfield 219, 3) := by decide +kernel
theorem d_Ra_gear_50 : decode m_Ra_gear.2.1 50 = .ok (.aload_n 0, 1) := by decide +kernel
theorem d_Ra_gear_51 : decode m_Ra_gear.2.1 51 = .ok (.getfield 19, 3) := by decide +kernel
theorem d_Ra_gear_54 : decode m_Ra_gear.2.1 54 = .ok (.iload_n 2, 1) := by decide +kernel
theorem d_Ra_gear_55 : decode m_Ra_gear.2.1 55 = .ok (.putfield 216, 3) := by decide +kernel
theorem d_Ra_gear_58 : decode m_Ra_gear.2.1 58 = .ok (.iload_n 3, 1) := by decide +kernel
theorem d_Ra_gear_59 : decode m_Ra_gear.2.1 59 = .ok (.ireturn, 1) := by decide +kernel
theorem d_Ra_run_0 : decode m_Ra_run.2.1 0 = .ok (.iload_n 1, 1) := by decide +kernel
theorem d_Ra_run_1 : decode m_Ra_run.2.1 1 = .ok (.invokestatic 180, 3) := by decide +kernel
set_option maxRecDepth 100000 in
theorem s_Ra_run_1 {G : r_X} {n : Nat} {h : r_HI} {g : r_HR} {z : r_HL} {v0 : Value} : r_cl G m_Ra_run m_Ra_isKind 1 [v0] n h g z := r_clS d_Ra_run_1 w_Ra_isKind (r_in 408 rfl rfl) a_Ra_isKind n_Ra (by decide +kernel : r_mh m_Ra_isKind.1 1)
theorem d_Ra_run_4 : decode m_Ra_run.2.1 4 = .ok (.ifCond .eq 12, 3) := by decide +kernel
theorem d_Ra_run_7 : decode m_Ra_run.2.1 7 = .ok (.iload_n 2, 1) := by decide +kernel
theorem d_Ra_run_8 : decode m_Ra_run.2.1 8 = .ok (.ifCond .lt 8, 3) := by decide +kernel
theorem d_Ra_run_11 : decode m_Ra_run.2.1 11 = .ok (.iload_n 2, 1) := by decide +kernel
theorem d_Ra_run_12 : decode m_Ra_run.2.1 12 = .ok (.iconst 1, 1) := by decide +kernel
theorem d_Ra_run_13 : decode m_Ra_run.2.1 13 = .ok (.if_icmp .le 6, 3) := by decide +kernel
theorem d_Ra_run_16 : decode m_Ra_run.2.1 16 = .ok (.bipush (-102), 2) := by decide +kernel
theorem d_Ra_run_18 : decode m_Ra_run.2.1 18 = .ok (.ireturn, 1) := by decide +kernel
theorem d_Ra_run_19 : decode m_Ra_run.2.1 19 = .ok (.aload_n 0, 1) := by decide +kernel
theorem d_Ra_run_20 : decode m_Ra_run.2.1 20 = .ok (.invokevirtual 183, 3) := by decide +kernel
set_option maxRecDepth 100000 in
theorem s_Ra_run_20 {G : r_X} {n : Nat} {h : r_HI} {g : r_HR} {z : r_HL} {k : Nat} (hp : r_pk k = (0, 11)) (hk : k < n) : r_cl G m_Ra_run m_Ra_hasPlate 20 (.ref (G.2.1 + k) :: []) n h g z := r_clV d_Ra_run_20 w_Ra_hasPlate (r_in 411 rfl rfl) a_Ra_hasPlate (r_inP 1 rfl rfl) n_Ra (by decide +kernel : r_mh m_Ra_hasPlate.1 0) hp hk (by decide)
theorem d_Ra_run_23 : decode m_Ra_run.2.1 23 = .ok (.ifCond .ne 6, 3) := by decide +kernel
theorem d_Ra_run_26 : decode m_Ra_run.2.1 26 = .ok (.bipush (-103), 2) := by decide +kernel
theorem d_Ra_run_28 : decode m_Ra_run.2.1 28 = .ok (.ireturn, 1) := by decide +kernel
theorem d_Ra_run_29 : decode m_Ra_run.2.1 29 = .ok (.aload_n 0, 1) := by decide +kernel
theorem d_Ra_run_30 : decode m_Ra_run.2.1 30 = .ok (.getfield 88, 3) := by decide +kernel
theorem d_Ra_run_33 : decode m_Ra_run.2.1 33 = .ok (.aload_n 0, 1) := by decide +kernel
theorem d_Ra_run_34 : decode m_Ra_run.2.1 34 = .ok (.getfield 28, 3) := by decide +kernel
theorem d_Ra_run_37 : decode m_Ra_run.2.1 37 = .ok (.invokevirtual 222, 3) := by decide +kernel
set_option maxRecDepth 100000 in
theorem s_Ra_run_37 {G : r_X} {n : Nat} {h : r_HI} {g : r_HR} {z : r_HL} {k : Nat} {v0 : Value} (hp : r_pk k = (0, 0)) (hk : k < n) : r_cl G m_Ra_run m_Dk_copyFrom 37 (.ref (G.2.1 + k) :: [v0]) n h g z := r_clV d_Ra_run_37 w_Dk_copyFrom (r_in 539 rfl rfl) a_Dk_copyFrom (r_in 541 rfl rfl) n_Dk (by decide +kernel : r_mh m_Dk_copyFrom.1 1) hp hk (by decide)
theorem d_Ra_run_40 : decode m_Ra_run.2.1 40 = .ok (.aload_n 0, 1) := by decide +kernel
theorem d_Ra_run_41 : decode m_Ra_run.2.1 41 = .ok (.getfield 88, 3) := by decide +kernel
theorem d_Ra_run_44 : decode m_Ra_run.2.1 44 = .ok (.aload_n 0, 1) := by decide +kernel
theorem d_Ra_run_45 : decode m_Ra_run.2.1 45 = .ok (.iload_n 1, 1) := by decide +kernel
theorem d_Ra_run_46 : decode m_Ra_run.2.1 46 = .ok (.invokevirtual 126, 3) := by decide +kernel
set_option maxRecDepth 100000 in
theorem s_Ra_run_46 {G : r_X} {n : Nat} {h : r_HI} {g : r_HR} {z : r_HL} {k : Nat} {v0 : Value} (hp : r_pk k = (0, 11)) (hk : k < n) : r_cl G m_Ra_run m_Ra_policyOf 46 (.ref (G.2.1 + k) :: [v0]) n h g z := r_clV d_Ra_run_46 w_Ra_policyOf (r_in 338 rfl rfl) a_Ra_policyOf (r_inP 0 rfl rfl) n_Ra (by decide +kernel : r_mh m_Ra_policyOf.1 1) hp hk (by decide)
theorem d_Ra_run_49 : decode m_Ra_run.2.1 49 = .ok (.invokevirtual 226, 3) := by decide +kernel
set_option maxRecDepth 100000 in
theorem s_Ra_run_49 {G : r_X} {n : Nat} {h : r_HI} {g : r_HR} {z : r_HL} {k : Nat} {v0 : Value} (hp : r_pk k = (0, 0)) (hk : k < n) : r_cl G m_Ra_run m_Dk_followAll 49 (.ref (G.2.1 + k) :: [v0]) n h g z := r_clV d_Ra_run_49 w_Dk_followAll (r_in 546 rfl rfl) a_Dk_followAll (r_in 548 rfl rfl) n_Dk (by decide +kernel : r_mh m_Dk_followAll.1 1) hp hk (by decide)
theorem d_Ra_run_52 : decode m_Ra_run.2.1 52 = .ok (.iload_n 2, 1) := by decide +kernel
theorem d_Ra_run_53 : decode m_Ra_run.2.1 53 = .ok (.ifCond .ne 13, 3) := by decide +kernel
theorem d_Ra_run_56 : decode m_Ra_run.2.1 56 = .ok (.aload_n 0, 1) := by decide +kernel
theorem d_Ra_run_57 : decode m_Ra_run.2.1 57 = .ok (.getfield 88, 3) := by decide +kernel
theorem d_Ra_run_60 : decode m_Ra_run.2.1 60 = .ok (.getfield 205, 3) := by decide +kernel
theorem d_Ra_run_63 : decode m_Ra_run.2.1 63 = .ok (.goto 10, 3) := by decide +kernel
theorem d_Ra_run_66 : decode m_Ra_run.2.1 66 = .ok (.aload_n 0, 1) := by decide +kernel
theorem d_Ra_run_67 : decode m_Ra_run.2.1 67 = .ok (.getfield 88, 3) := by decide +kernel
theorem d_Ra_run_70 : decode m_Ra_run.2.1 70 = .ok (.getfield 230, 3) := by decide +kernel
theorem d_Ra_run_73 : decode m_Ra_run.2.1 73 = .ok (.ireturn, 1) := by decide +kernel
theorem d_Ra_least_0 : decode m_Ra_least.2.1 0 = .ok (.iload_n 1, 1) := by decide +kernel
theorem d_Ra_least_1 : decode m_Ra_least.2.1 1 = .ok (.ifCond .eq 18, 3) := by decide +kernel
theorem d_Ra_least_4 : decode m_Ra_least.2.1 4 = .ok (.iload_n 1, 1) := by decide +kernel
theorem d_Ra_least_5 : decode m_Ra_least.2.1 5 = .ok (.bipush 10, 2) := by decide +kernel
theorem d_Ra_least_7 : decode m_Ra_least.2.1 7 = .ok (.if_icmp .lt 9, 3) := by decide +kernel
theorem d_Ra_least_10 : decode m_Ra_least.2.1 10 = .ok (.iload_n 1, 1) := by decide +kernel
theorem d_Ra_least_11 : decode m_Ra_least.2.1 11 = .ok (.bipush 17, 2) := by decide +kernel
theorem d_Ra_least_13 : decode m_Ra_least.2.1 13 = .ok (.if_icmp .lt 6, 3) := by decide +kernel
theorem d_Ra_least_16 : decode m_Ra_least.2.1 16 = .ok (.bipush (-102), 2) := by decide +kernel
theorem d_Ra_least_18 : decode m_Ra_least.2.1 18 = .ok (.ireturn, 1) := by decide +kernel
theorem d_Ra_least_19 : decode m_Ra_least.2.1 19 = .ok (.aload_n 0, 1) := by decide +kernel
theorem d_Ra_least_20 : decode m_Ra_least.2.1 20 = .ok (.invokevirtual 183, 3) := by decide +kernel
set_option maxRecDepth 100000 in
theorem s_Ra_least_20 {G : r_X} {n : Nat} {h : r_HI} {g : r_HR} {z : r_HL} {k : Nat} (hp : r_pk k = (0, 11)) (hk : k < n) : r_cl G m_Ra_least m_Ra_hasPlate 20 (.ref (G.2.1 + k) :: []) n h g z := r_clV d_Ra_least_20 w_Ra_hasPlate (r_in 411 rfl rfl) a_Ra_hasPlate (r_inP 1 rfl rfl) n_Ra (by decide +kernel : r_mh m_Ra_hasPlate.1 0) hp hk (by decide)
theorem d_Ra_least_23 : decode m_Ra_least.2.1 23 = .ok (.ifCond .eq 12, 3) := by decide +kernel
theorem d_Ra_least_26 : decode m_Ra_least.2.1 26 = .ok (.aload_n 0, 1) := by decide +kernel
theorem d_Ra_least_27 : decode m_Ra_least.2.1 27 = .ok (.getfield 102, 3) := by decide +kernel
theorem d_Ra_least_30 : decode m_Ra_least.2.1 30 = .ok (.bipush 16, 2) := by decide +kernel
theorem d_Ra_least_32 : decode m_Ra_least.2.1 32 = .ok (.if_icmp .lt 6, 3) := by decide +kernel
theorem d_Ra_least_35 : decode m_Ra_least.2.1 35 = .ok (.bipush (-103), 2) := by decide +kernel
theorem d_Ra_least_37 : decode m_Ra_least.2.1 37 = .ok (.ireturn, 1) := by decide +kernel
theorem d_Ra_least_38 : decode m_Ra_least.2.1 38 = .ok (.aload_n 0, 1) := by decide +kernel
theorem d_Ra_least_39 : decode m_Ra_least.2.1 39 = .ok (.dup, 1) := by decide +kernel
theorem d_Ra_least_40 : decode m_Ra_least.2.1 40 = .ok (.getfield 102, 3) := by decide +kernel
theorem d_Ra_least_43 : decode m_Ra_least.2.1 43 = .ok (.iconst 1, 1) := by decide +kernel
theorem d_Ra_least_44 : decode m_Ra_least.2.1 44 = .ok (.iadd, 1) := by decide +kernel
theorem d_Ra_least_45 : decode m_Ra_least.2.1 45 = .ok (.putfield 102, 3) := by decide +kernel
theorem d_Ra_least_48 : decode m_Ra_least.2.1 48 = .ok (.aload_n 0, 1) := by decide +kernel
theorem d_Ra_least_49 : decode m_Ra_least.2.1 49 = .ok (.getfield 94, 3) := by decide +kernel
theorem d_Ra_least_52 : decode m_Ra_least.2.1 52 = .ok (.aload_n 0, 1) := by decide +kernel
theorem d_Ra_least_53 : decode m_Ra_least.2.1 53 = .ok (.getfield 28, 3) := by decide +kernel
theorem d_Ra_least_56 : decode m_Ra_least.2.1 56 = .ok (.invokevirtual 233, 3) := by decide +kernel
set_option maxRecDepth 100000 in
theorem s_Ra_least_56 {G : r_X} {n : Nat} {h : r_HI} {g : r_HR} {z : r_HL} {k : Nat} {v0 : Value} (hp : r_pk k = (0, 4)) (hk : k < n) : r_cl G m_Ra_least m_Or_solve 56 (.ref (G.2.1 + k) :: [v0]) n h g z := r_clV d_Ra_least_56 w_Or_solve (r_in 556 rfl rfl) a_Or_solve (r_in 558 rfl rfl) n_Or (by decide +kernel : r_mh m_Or_solve.1 1) hp hk (by decide)
theorem d_Ra_least_59 : decode m_Ra_least.2.1 59 = .ok (.iload_n 1, 1) := by decide +kernel
theorem d_Ra_least_60 : decode m_Ra_least.2.1 60 = .ok (.ifCond .ne 11, 3) := by decide +kernel
theorem d_Ra_least_63 : decode m_Ra_least.2.1 63 = .ok (.aload_n 0, 1) := by decide +kernel
theorem d_Ra_least_64 : decode m_Ra_least.2.1 64 = .ok (.getfield 94, 3) := by decide +kernel
theorem d_Ra_least_67 : decode m_Ra_least.2.1 67 = .ok (.getfield 236, 3) := by decide +kernel
theorem d_Ra_least_70 : decode m_Ra_least.2.1 70 = .ok (.ireturn, 1) := by decide +kernel
theorem d_Ra_least_71 : decode m_Ra_least.2.1 71 = .ok (.iload_n 1, 1) := by decide +kernel
theorem d_Ra_least_72 : decode m_Ra_least.2.1 72 = .ok (.bipush 10, 2) := by decide +kernel
theorem d_Ra_least_74 : decode m_Ra_least.2.1 74 = .ok (.isub, 1) := by decide +kernel
theorem d_Ra_least_75 : decode m_Ra_least.2.1 75 = .ok (.aload_n 0, 1) := by decide +kernel
theorem d_Ra_least_76 : decode m_Ra_least.2.1 76 = .ok (.getfield 94, 3) := by decide +kernel
theorem d_Ra_least_79 : decode m_Ra_least.2.1 79 = .ok (.getfield 239, 3) := by decide +kernel
theorem d_Ra_least_82 : decode m_Ra_least.2.1 82 = .ok (.if_icmp .ge 20, 3) := by decide +kernel
theorem d_Ra_least_85 : decode m_Ra_least.2.1 85 = .ok (.aload_n 0, 1) := by decide +kernel
theorem d_Ra_least_86 : decode m_Ra_least.2.1 86 = .ok (.getfield 94, 3) := by decide +kernel
theorem d_Ra_least_89 : decode m_Ra_least.2.1 89 = .ok (.getfield 240, 3) := by decide +kernel
theorem d_Ra_least_92 : decode m_Ra_least.2.1 92 = .ok (.iload_n 1, 1) := by decide +kernel
theorem d_Ra_least_93 : decode m_Ra_least.2.1 93 = .ok (.bipush 10, 2) := by decide +kernel
theorem d_Ra_least_95 : decode m_Ra_least.2.1 95 = .ok (.isub, 1) := by decide +kernel
theorem d_Ra_least_96 : decode m_Ra_least.2.1 96 = .ok (.invokestatic 149, 3) := by decide +kernel
set_option maxRecDepth 100000 in
theorem s_Ra_least_96 {G : r_X} {n : Nat} {h : r_HI} {g : r_HR} {z : r_HL} {v0 v1 : Value} : r_cl G m_Ra_least m_Ra_at 96 [v0, v1] n h g z := r_clS d_Ra_least_96 w_Ra_at (r_in 374 rfl rfl) a_Ra_at n_Ra (by decide +kernel : r_mh m_Ra_at.1 2)
theorem d_Ra_least_99 : decode m_Ra_least.2.1 99 = .ok (.goto 4, 3) := by decide +kernel
theorem d_Ra_least_102 : decode m_Ra_least.2.1 102 = .ok (.iconst (-1), 1) := by decide +kernel
theorem d_Ra_least_103 : decode m_Ra_least.2.1 103 = .ok (.ireturn, 1) := by decide +kernel
theorem d_Ra_weigh_0 : decode m_Ra_weigh.2.1 0 = .ok (.iload_n 1, 1) := by decide +kernel
theorem d_Ra_weigh_1 : decode m_Ra_weigh.2.1 1 = .ok (.ifCond .lt 20, 3) := by decide +kernel
theorem d_Ra_weigh_4 : decode m_Ra_weigh.2.1 4 = .ok (.iload_n 1, 1) := by decide +kernel
theorem d_Ra_weigh_5 : decode m_Ra_weigh.2.1 5 = .ok (.bipush 6, 2) := by decide +kernel
theorem d_Ra_weigh_7 : decode m_Ra_weigh.2.1 7 = .ok (.if_icmp .ge 14, 3) := by decide +kernel
theorem d_Ra_weigh_10 : decode m_Ra_weigh.2.1 10 = .ok (.aload_n 0, 1) := by decide +kernel
theorem d_Ra_weigh_11 : decode m_Ra_weigh.2.1 11 = .ok (.getfield 19, 3) := by decide +kernel
theorem d_Ra_weigh_14 : decode m_Ra_weigh.2.1 14 = .ok (.iload_n 1, 1) := by decide +kernel
theorem d_Ra_weigh_15 : decode m_Ra_weigh.2.1 15 = .ok (.invokevirtual 141, 3) := by decide +kernel
set_option maxRecDepth 100000 in
theorem s_Ra_weigh_15 {G : r_X} {n : Nat} {h : r_HI} {g : r_HR} {z : r_HL} {k : Nat} {v0 : Value} (hp : r_pk k = (0, 1)) (hk : k < n) : r_cl G m_Ra_weigh m_Di_has 15 (.ref (G.2.1 + k) :: [v0]) n h g z := r_clV d_Ra_weigh_15 w_Di_has (r_in 370 rfl rfl) a_Di_has (r_in 372 rfl rfl) n_Di (by decide +kernel : r_mh m_Di_has.1 1) hp hk (by decide)
theorem d_Ra_weigh_18 : decode m_Ra_weigh.2.1 18 = .ok (.ifCond .ne 6, 3) := by decide +kernel
theorem d_Ra_weigh_21 : decode m_Ra_weigh.2.1 21 = .ok (.bipush (-101), 2) := by decide +kernel
theorem d_Ra_weigh_23 : decode m_Ra_weigh.2.1 23 = .ok (.ireturn, 1) := by decide +kernel
theorem d_Ra_weigh_24 : decode m_Ra_weigh.2.1 24 = .ok (.iload_n 2, 1) := by decide +kernel
theorem d_Ra_weigh_25 : decode m_Ra_weigh.2.1 25 = .ok (.ifCond .lt 9, 3) := by decide +kernel
theorem d_Ra_weigh_28 : decode m_Ra_weigh.2.1 28 = .ok (.iload_n 2, 1) := by decide +kernel
theorem d_Ra_weigh_29 : decode m_Ra_weigh.2.1 29 = .ok (.bipush 9, 2) := by decide +kernel
theorem d_Ra_weigh_31 : decode m_Ra_weigh.2.1 31 = .ok (.if_icmp .le 6, 3) := by decide +kernel
theorem d_Ra_weigh_34 : decode m_Ra_weigh.2.1 34 = .ok (.bipush (-102), 2) := by decide +kernel
theorem d_Ra_weigh_36 : decode m_Ra_weigh.2.1 36 = .ok (.ireturn, 1) := by decide +kernel
theorem d_Ra_weigh_37 : decode m_Ra_weigh.2.1 37 = .ok (.aload_n 0, 1) := by decide +kernel
theorem d_Ra_weigh_38 : decode m_Ra_weigh.2.1 38 = .ok (.getfield 35, 3) := by decide +kernel
theorem d_Ra_weigh_41 : decode m_Ra_weigh.2.1 41 = .ok (.getfield 243, 3) := by decide +kernel
theorem d_Ra_weigh_44 : decode m_Ra_weigh.2.1 44 = .ok (.iload_n 1, 1) := by decide +kernel
theorem d_Ra_weigh_45 : decode m_Ra_weigh.2.1 45 = .ok (.invokestatic 149, 3) := by decide +kernel
set_option maxRecDepth 100000 in
theorem s_Ra_weigh_45 {G : r_X} {n : Nat} {h : r_HI} {g : r_HR} {z : r_HL} {v0 v1 : Value} : r_cl G m_Ra_weigh m_Ra_at 45 [v0, v1] n h g z := r_clS d_Ra_weigh_45 w_Ra_at (r_in 374 rfl rfl) a_Ra_at n_Ra (by decide +kernel : r_mh m_Ra_at.1 2)
theorem d_Ra_weigh_48 : decode m_Ra_weigh.2.1 48 = .ok (.istore_n 3, 1) := by decide +kernel
theorem d_Ra_weigh_49 : decode m_Ra_weigh.2.1 49 = .ok (.aload_n 0, 1) := by decide +kernel
theorem d_Ra_weigh_50 : decode m_Ra_weigh.2.1 50 = .ok (.getfield 35, 3) := by decide +kernel
theorem d_Ra_weigh_53 : decode m_Ra_weigh.2.1 53 = .ok (.getfield 243, 3) := by decide +kernel
theorem d_Ra_weigh_56 : decode m_Ra_weigh.2.1 56 = .ok (.iload_n 1, 1) := by decide +kernel
theorem d_Ra_weigh_57 : decode m_Ra_weigh.2.1 57 = .ok (.iload_n 2, 1) := by decide +kernel
theorem d_Ra_weigh_58 : decode m_Ra_weigh.2.1 58 = .ok (.invokestatic 212, 3) := by decide +kernel
set_option maxRecDepth 100000 in
theorem s_Ra_weigh_58 {G : r_X} {n : Nat} {h : r_HI} {g : r_HR} {z : r_HL} {v0 v1 v2 : Value} : r_cl G m_Ra_weigh m_Ra_put 58 [v0, v1, v2] n h g z := r_clS d_Ra_weigh_58 w_Ra_put (r_in 530 rfl rfl) a_Ra_put n_Ra (by decide +kernel : r_mh m_Ra_put.1 3)
theorem d_Ra_weigh_61 : decode m_Ra_weigh.2.1 61 = .ok (.iload_n 3, 1) := by decide +kernel
theorem d_Ra_weigh_62 : decode m_Ra_weigh.2.1 62 = .ok (.ireturn, 1) := by decide +kernel
theorem d_Ra_lay_0 : decode m_Ra_lay.2.1 0 = .ok (.iload_n 1, 1) := by decide +kernel
theorem d_Ra_lay_1 : decode m_Ra_lay.2.1 1 = .ok (.ifCond .eq 18, 3) := by decide +kernel
theorem d_Ra_lay_4 : decode m_Ra_lay.2.1 4 = .ok (.iload_n 1, 1) := by decide +kernel
theorem d_Ra_lay_5 : decode m_Ra_lay.2.1 5 = .ok (.bipush 10, 2) := by decide +kernel
theorem d_Ra_lay_7 : decode m_Ra_lay.2.1 7 = .ok (.if_icmp .lt 9, 3) := by decide +kernel
theorem d_Ra_lay_10 : decode m_Ra_lay.2.1 10 = .ok (.iload_n 1, 1) := by decide +kernel
theorem d_Ra_lay_11 : decode m_Ra_lay.2.1 11 = .ok (.bipush 16, 2) := by decide +kernel
theorem d_Ra_lay_13 : decode m_Ra_lay.2.1 13 = .ok (.if_icmp .lt 6, 3) := by decide +kernel
theorem d_Ra_lay_16 : decode m_Ra_lay.2.1 16 = .ok (.bipush (-102), 2) := by decide +kernel
theorem d_Ra_lay_18 : decode m_Ra_lay.2.1 18 = .ok (.ireturn, 1) := by decide +kernel
theorem d_Ra_lay_19 : decode m_Ra_lay.2.1 19 = .ok (.aload_n 0, 1) := by decide +kernel
theorem d_Ra_lay_20 : decode m_Ra_lay.2.1 20 = .ok (.invokevirtual 183, 3) := by decide +kernel
set_option maxRecDepth 100000 in
theorem s_Ra_lay_20 {G : r_X} {n : Nat} {h : r_HI} {g : r_HR} {z : r_HL} {k : Nat} (hp : r_pk k = (0, 11)) (hk : k < n) : r_cl G m_Ra_lay m_Ra_hasPlate 20 (.ref (G.2.1 + k) :: []) n h g z := r_clV d_Ra_lay_20 w_Ra_hasPlate (r_in 411 rfl rfl) a_Ra_hasPlate (r_inP 1 rfl rfl) n_Ra (by decide +kernel : r_mh m_Ra_hasPlate.1 0) hp hk (by decide)
theorem d_Ra_lay_23 : decode m_Ra_lay.2.1 23 = .ok (.ifCond .ne 6, 3) := by decide +kernel
theorem d_Ra_lay_26 : decode m_Ra_lay.2.1 26 = .ok (.bipush (-103), 2) := by decide +kernel
theorem d_Ra_lay_28 : decode m_Ra_lay.2.1 28 = .ok (.ireturn, 1) := by decide +kernel
theorem d_Ra_lay_29 : decode m_Ra_lay.2.1 29 = .ok (.aload_n 0, 1) := by decide +kernel
theorem d_Ra_lay_30 : decode m_Ra_lay.2.1 30 = .ok (.getfield 35, 3) := by decide +kernel
theorem d_Ra_lay_33 : decode m_Ra_lay.2.1 33 = .ok (.invokevirtual 246, 3) := by decide +kernel
set_option maxRecDepth 100000 in
theorem s_Ra_lay_33 {G : r_X} {n : Nat} {h : r_HI} {g : r_HR} {z : r_HL} {k : Nat} (hp : r_pk k = (0, 10)) (hk : k < n) : r_cl G m_Ra_lay m_Th_solve 33 (.ref (G.2.1 + k) :: []) n h g z := r_clV d_Ra_lay_33 w_Th_solve (r_in 580 rfl rfl) a_Th_solve (r_in 582 rfl rfl) n_Th (by decide +kernel : r_mh m_Th_solve.1 0) hp hk (by decide)
theorem d_Ra_lay_36 : decode m_Ra_lay.2.1 36 = .ok (.aload_n 0, 1) := by decide +kernel
theorem d_Ra_lay_37 : decode m_Ra_lay.2.1 37 = .ok (.getfield 35, 3) := by decide +kernel
theorem d_Ra_lay_40 : decode m_Ra_lay.2.1 40 = .ok (.iload_n 1, 1) := by decide +kernel
theorem d_Ra_lay_41 : decode m_Ra_lay.2.1 41 = .ok (.invokevirtual 248, 3) := by decide +kernel
set_option maxRecDepth 100000 in
theorem s_Ra_lay_41 {G : r_X} {n : Nat} {h : r_HI} {g : r_HR} {z : r_HL} {k : Nat} {v0 : Value} (hp : r_pk k = (0, 10)) (hk : k < n) : r_cl G m_Ra_lay m_Th_told 41 (.ref (G.2.1 + k) :: [v0]) n h g z := r_clV d_Ra_lay_41 w_Th_told (r_in 600 rfl rfl) a_Th_told (r_in 602 rfl rfl) n_Th (by decide +kernel : r_mh m_Th_told.1 1) hp hk (by decide)
theorem d_Ra_lay_44 : decode m_Ra_lay.2.1 44 = .ok (.ireturn, 1) := by decide +kernel
theorem d_Ra_behind_0 : decode m_Ra_behind.2.1 0 = .ok (.aload_n 0, 1) := by decide +kernel
theorem d_Ra_behind_1 : decode m_Ra_behind.2.1 1 = .ok (.getfield 19, 3) := by decide +kernel
theorem d_Ra_behind_4 : decode m_Ra_behind.2.1 4 = .ok (.iload_n 1, 1) := by decide +kernel
theorem d_Ra_behind_5 : decode m_Ra_behind.2.1 5 = .ok (.invokevirtual 141, 3) := by decide +kernel
set_option maxRecDepth 100000 in
theorem s_Ra_behind_5 {G : r_X} {n : Nat} {h : r_HI} {g : r_HR} {z : r_HL} {k : Nat} {v0 : Value} (hp : r_pk k = (0, 1)) (hk : k < n) : r_cl G m_Ra_behind m_Di_has 5 (.ref (G.2.1 + k) :: [v0]) n h g z := r_clV d_Ra_behind_5 w_Di_has (r_in 370 rfl rfl) a_Di_has (r_in 372 rfl rfl) n_Di (by decide +kernel : r_mh m_Di_has.1 1) hp hk (by decide)
theorem d_Ra_behind_8 : decode m_Ra_behind.2.1 8 = .ok (.ifCond .eq 19, 3) := by decide +kernel
theorem d_Ra_behind_11 : decode m_Ra_behind.2.1 11 = .ok (.aload_n 0, 1) := by decide +kernel
theorem d_Ra_behind_12 : decode m_Ra_behind.2.1 12 = .ok (.getfield 19, 3) := by decide +kernel
theorem d_Ra_behind_15 : decode m_Ra_behind.2.1 15 = .ok (.iload_n 2, 1) := by decide +kernel
theorem d_Ra_behind_16 : decode m_Ra_behind.2.1 16 = .ok (.invokevirtual 141, 3) := by decide +kernel
set_option maxRecDepth 100000 in
theorem s_Ra_behind_16 {G : r_X} {n : Nat} {h : r_HI} {g : r_HR} {z : r_HL} {k : Nat} {v0 : Value} (hp : r_pk k = (0, 1)) (hk : k < n) : r_cl G m_Ra_behind m_Di_has 16 (.ref (G.2.1 + k) :: [v0]) n h g z := r_clV d_Ra_behind_16 w_Di_has (r_in 370 rfl rfl) a_Di_has (r_in 372 rfl rfl) n_Di (by decide +kernel : r_mh m_Di_has.1 1) hp hk (by decide)
theorem d_Ra_behind_19 : decode m_Ra_behind.2.1 19 = .ok (.ifCond .eq 8, 3) := by decide +kernel
theorem d_Ra_behind_22 : decode m_Ra_behind.2.1 22 = .ok (.iload_n 1, 1) := by decide +kernel
theorem d_Ra_behind_23 : decode m_Ra_behind.2.1 23 = .ok (.iload_n 2, 1) := by decide +kernel
theorem d_Ra_behind_24 : decode m_Ra_behind.2.1 24 = .ok (.if_icmp .ne 6, 3) := by decide +kernel
theorem d_Ra_behind_27 : decode m_Ra_behind.2.1 27 = .ok (.bipush (-101), 2) := by decide +kernel
theorem d_Ra_behind_29 : decode m_Ra_behind.2.1 29 = .ok (.ireturn, 1) := by decide +kernel
theorem d_Ra_behind_30 : decode m_Ra_behind.2.1 30 = .ok (.aload_n 0, 1) := by decide +kernel
theorem d_Ra_behind_31 : decode m_Ra_behind.2.1 31 = .ok (.getfield 19, 3) := by decide +kernel
theorem d_Ra_behind_34 : decode m_Ra_behind.2.1 34 = .ok (.getfield 153, 3) := by decide +kernel
theorem d_Ra_behind_37 : decode m_Ra_behind.2.1 37 = .ok (.iload_n 1, 1) := by decide +kernel
theorem d_Ra_behind_38 : decode m_Ra_behind.2.1 38 = .ok (.invokestatic 149, 3) := by decide +kernel
set_option maxRecDepth 100000 in
theorem s_Ra_behind_38 {G : r_X} {n : Nat} {h : r_HI} {g : r_HR} {z : r_HL} {v0 v1 : Value} : r_cl G m_Ra_behind m_Ra_at 38 [v0, v1] n h g z := r_clS d_Ra_behind_38 w_Ra_at (r_in 374 rfl rfl) a_Ra_at n_Ra (by decide +kernel : r_mh m_Ra_at.1 2)
theorem d_Ra_behind_41 : decode m_Ra_behind.2.1 41 = .ok (.bipush 24, 2) := by decide +kernel
theorem d_Ra_behind_43 : decode m_Ra_behind.2.1 43 = .ok (.iadd, 1) := by decide +kernel
theorem d_Ra_behind_44 : decode m_Ra_behind.2.1 44 = .ok (.aload_n 0, 1) := by decide +kernel
theorem d_Ra_behind_45 : decode m_Ra_behind.2.1 45 = .ok (.getfield 19, 3) := by decide +kernel
theorem d_Ra_behind_48 : decode m_Ra_behind.2.1 48 = .ok (.iload_n 1, 1) := by decide +kernel
theorem d_Ra_behind_49 : decode m_Ra_behind.2.1 49 = .ok (.iload_n 2, 1) := by decide +kernel
theorem d_Ra_behind_50 : decode m_Ra_behind.2.1 50 = .ok (.invokevirtual 165, 3) := by decide +kernel
set_option maxRecDepth 100000 in
theorem s_Ra_behind_50 {G : r_X} {n : Nat} {h : r_HI} {g : r_HR} {z : r_HL} {k : Nat} {v0 v1 : Value} (hp : r_pk k = (0, 1)) (hk : k < n) : r_cl G m_Ra_behind m_Di_travel 50 (.ref (G.2.1 + k) :: [v0, v1]) n h g z := r_clV d_Ra_behind_50 w_Di_travel (r_in 380 rfl rfl) a_Di_travel (r_in 382 rfl rfl) n_Di (by decide +kernel : r_mh m_Di_travel.1 2) hp hk (by decide)
theorem d_Ra_behind_53 : decode m_Ra_behind.2.1 53 = .ok (.iadd, 1) := by decide +kernel
theorem d_Ra_behind_54 : decode m_Ra_behind.2.1 54 = .ok (.istore 4, 2) := by decide +kernel
theorem d_Ra_behind_56 : decode m_Ra_behind.2.1 56 = .ok (.iload 4, 2) := by decide +kernel
theorem d_Ra_behind_58 : decode m_Ra_behind.2.1 58 = .ok (.bipush 24, 2) := by decide +kernel
theorem d_Ra_behind_60 : decode m_Ra_behind.2.1 60 = .ok (.invokestatic 251, 3) := by decide +kernel
set_option maxRecDepth 100000 in
theorem s_Ra_behind_60 {G : r_X} {n : Nat} {h : r_HI} {g : r_HR} {z : r_HL} {v0 v1 : Value} : r_cl G m_Ra_behind m_Jm_floorMod 60 [v0, v1] n h g z := r_clS d_Ra_behind_60 w_Jm_floorMod (r_in 608 rfl rfl) a_Jm_floorMod n_Jm (by decide +kernel : r_mh m_Jm_floorMod.1 2)
theorem d_Ra_behind_63 : decode m_Ra_behind.2.1 63 = .ok (.istore 5, 2) := by decide +kernel
theorem d_Ra_behind_65 : decode m_Ra_behind.2.1 65 = .ok (.bipush 48, 2) := by decide +kernel
theorem d_Ra_behind_67 : decode m_Ra_behind.2.1 67 = .ok (.aload_n 0, 1) := by decide +kernel
theorem d_Ra_behind_68 : decode m_Ra_behind.2.1 68 = .ok (.getfield 19, 3) := by decide +kernel
theorem d_Ra_behind_71 : decode m_Ra_behind.2.1 71 = .ok (.iload_n 1, 1) := by decide +kernel
theorem d_Ra_behind_72 : decode m_Ra_behind.2.1 72 = .ok (.iload_n 2, 1) := by decide +kernel
theorem d_Ra_behind_73 : decode m_Ra_behind.2.1 73 = .ok (.invokevirtual 165, 3) := by decide +kernel
set_option maxRecDepth 100000 in
theorem s_Ra_behind_73 {G : r_X} {n : Nat} {h : r_HI} {g : r_HR} {z : r_HL} {k : Nat} {v0 v1 : Value} (hp : r_pk k = (0, 1)) (hk : k < n) : r_cl G m_Ra_behind m_Di_travel 73 (.ref (G.2.1 + k) :: [v0, v1]) n h g z := r_clV d_Ra_behind_73 w_Di_travel (r_in 380 rfl rfl) a_Di_travel (r_in 382 rfl rfl) n_Di (by decide +kernel : r_mh m_Di_travel.1 2) hp hk (by decide)
theorem d_Ra_behind_76 : decode m_Ra_behind.2.1 76 = .ok (.iadd, 1) := by decide +kernel
theorem d_Ra_behind_77 : decode m_Ra_behind.2.1 77 = .ok (.istore 6, 2) := by decide +kernel
theorem d_Ra_behind_79 : decode m_Ra_behind.2.1 79 = .ok (.iload_n 3, 1) := by decide +kernel
theorem d_Ra_behind_80 : decode m_Ra_behind.2.1 80 = .ok (.tableswitch 57 0 2 #[28, 51, 54], 28) := by decide +kernel
theorem d_Ra_behind_108 : decode m_Ra_behind.2.1 108 = .ok (.iload 6, 2) := by decide +kernel
theorem d_Ra_behind_110 : decode m_Ra_behind.2.1 110 = .ok (.aload_n 0, 1) := by decide +kernel
theorem d_Ra_behind_111 : decode m_Ra_behind.2.1 111 = .ok (.getfield 19, 3) := by decide +kernel
theorem d_Ra_behind_114 : decode m_Ra_behind.2.1 114 = .ok (.getfield 153, 3) := by decide +kernel
theorem d_Ra_behind_117 : decode m_Ra_behind.2.1 117 = .ok (.iload_n 2, 1) := by decide +kernel
theorem d_Ra_behind_118 : decode m_Ra_behind.2.1 118 = .ok (.invokestatic 149, 3) := by decide +kernel
set_option maxRecDepth 100000 in
theorem s_Ra_behind_118 {G : r_X} {n : Nat} {h : r_HI} {g : r_HR} {z : r_HL} {v0 v1 : Value} : r_cl G m_Ra_behind m_Ra_at 118 [v0, v1] n h g z := r_clS d_Ra_behind_118 w_Ra_at (r_in 374 rfl rfl) a_Ra_at n_Ra (by decide +kernel : r_mh m_Ra_at.1 2)
theorem d_Ra_behind_121 : decode m_Ra_behind.2.1 121 = .ok (.iload 4, 2) := by decide +kernel
theorem d_Ra_behind_123 : decode m_Ra_behind.2.1 123 = .ok (.isub, 1) := by decide +kernel
theorem d_Ra_behind_124 : decode m_Ra_behind.2.1 124 = .ok (.bipush 24, 2) := by decide +kernel
theorem d_Ra_behind_126 : decode m_Ra_behind.2.1 126 = .ok (.invokestatic 251, 3) := by decide +kernel
set_option maxRecDepth 100000 in
theorem s_Ra_behind_126 {G : r_X} {n : Nat} {h : r_HI} {g : r_HR} {z : r_HL} {v0 v1 : Value} : r_cl G m_Ra_behind m_Jm_floorMod 126 [v0, v1] n h g z := r_clS d_Ra_behind_126 w_Jm_floorMod (r_in 608 rfl rfl) a_Jm_floorMod n_Jm (by decide +kernel : r_mh m_Jm_floorMod.1 2)
theorem d_Ra_behind_129 : decode m_Ra_behind.2.1 129 = .ok (.iadd, 1) := by decide +kernel
theorem d_Ra_behind_130 : decode m_Ra_behind.2.1 130 = .ok (.ireturn, 1) := by decide +kernel
theorem d_Ra_behind_131 : decode m_Ra_behind.2.1 131 = .ok (.iload 5, 2) := by decide +kernel
theorem d_Ra_behind_133 : decode m_Ra_behind.2.1 133 = .ok (.ireturn, 1) := by decide +kernel
theorem d_Ra_behind_134 : decode m_Ra_behind.2.1 134 = .ok (.iload 6, 2) := by decide +kernel
theorem d_Ra_behind_136 : decode m_Ra_behind.2.1 136 = .ok (.ireturn, 1) := by decide +kernel
theorem d_Ra_behind_137 : decode m_Ra_behind.2.1 137 = .ok (.bipush (-102), 2) := by decide +kernel
theorem d_Ra_behind_139 : decode m_Ra_behind.2.1 139 = .ok (.ireturn, 1) := by decide +kernel
theorem d_Ra_apart_0 : decode m_Ra_apart.2.1 0 = .ok (.aload_n 0, 1) := by decide +kernel
theorem d_Ra_apart_1 : decode m_Ra_apart.2.1 1 = .ok (.getfield 19, 3) := by decide +kernel
theorem d_Ra_apart_4 : decode m_Ra_apart.2.1 4 = .ok (.iload_n 1, 1) := by decide +kernel
theorem d_Ra_apart_5 : decode m_Ra_apart.2.1 5 = .ok (.invokevirtual 141, 3) := by decide +kernel
set_option maxRecDepth 100000 in
theorem s_Ra_apart_5 {G : r_X} {n : Nat} {h : r_HI} {g : r_HR} {z : r_HL} {k : Nat} {v0 : Value} (hp : r_pk k = (0, 1)) (hk : k < n) : r_cl G m_Ra_apart m_Di_has 5 (.ref (G.2.1 + k) :: [v0]) n h g z := r_clV d_Ra_apart_5 w_Di_has (r_in 370 rfl rfl) a_Di_has (r_in 372 rfl rfl) n_Di (by decide +kernel : r_mh m_Di_has.1 1) hp hk (by decide)
theorem d_Ra_apart_8 : decode m_Ra_apart.2.1 8 = .ok (.ifCond .ne 6, 3) := by decide +kernel
theorem d_Ra_apart_11 : decode m_Ra_apart.2.1 11 = .ok (.bipush (-101), 2) := by decide +kernel
theorem d_Ra_apart_13 : decode m_Ra_apart.2.1 13 = .ok (.ireturn, 1) := by decide +kernel
theorem d_Ra_apart_14 : decode m_Ra_apart.2.1 14 = .ok (.iload_n 2, 1) := by decide +kernel
theorem d_Ra_apart_15 : decode m_Ra_apart.2.1 15 = .ok (.ifCond .lt 18, 3) := by decide +kernel
theorem d_Ra_apart_18 : decode m_Ra_apart.2.1 18 = .ok (.iload_n 2, 1) := by decide +kernel
theorem d_Ra_apart_19 : decode m_Ra_apart.2.1 19 = .ok (.bipush 24, 2) := by decide +kernel
theorem d_Ra_apart_21 : decode m_Ra_apart.2.1 21 = .ok (.if_icmp .ge 12, 3) := by decide +kernel
theorem d_Ra_apart_24 : decode m_Ra_apart.2.1 24 = .ok (.iload_n 3, 1) := by decide +kernel
theorem d_Ra_apart_25 : decode m_Ra_apart.2.1 25 = .ok (.ifCond .lt 8, 3) := by decide +kernel
theorem d_Ra_apart_28 : decode m_Ra_apart.2.1 28 = .ok (.iload_n 3, 1) := by decide +kernel
theorem d_Ra_apart_29 : decode m_Ra_apart.2.1 29 = .ok (.iconst 1, 1) := by decide +kernel
theorem d_Ra_apart_30 : decode m_Ra_apart.2.1 30 = .ok (.if_icmp .le 6, 3) := by decide +kernel
theorem d_Ra_apart_33 : decode m_Ra_apart.2.1 33 = .ok (.bipush (-102), 2) := by decide +kernel
theorem d_Ra_apart_35 : decode m_Ra_apart.2.1 35 = .ok (.ireturn, 1) := by decide +kernel
theorem d_Ra_apart_36 : decode m_Ra_apart.2.1 36 = .ok (.aload_n 0, 1) := by decide +kernel
theorem d_Ra_apart_37 : decode m_Ra_apart.2.1 37 = .ok (.getfield 19, 3) := by decide +kernel
theorem d_Ra_apart_40 : decode m_Ra_apart.2.1 40 = .ok (.iload_n 1, 1) := by decide +kernel
theorem d_Ra_apart_41 : decode m_Ra_apart.2.1 41 = .ok (.iload_n 2, 1) := by decide +kernel
theorem d_Ra_apart_42 : decode m_Ra_apart.2.1 42 = .ok (.invokevirtual 256, 3) := by decide +kernel
set_option maxRecDepth 100000 in
theorem s_Ra_apart_42 {G : r_X} {n : Nat} {h : r_HI} {g : r_HR} {z : r_HL} {k : Nat} {v0 v1 : Value} (hp : r_pk k = (0, 1)) (hk : k < n) : r_cl G m_Ra_apart m_Di_bestGap 42 (.ref (G.2.1 + k) :: [v0, v1]) n h g z := r_clV d_Ra_apart_42 w_Di_bestGap (r_in 613 rfl rfl) a_Di_bestGap (r_in 615 rfl rfl) n_Di (by decide +kernel : r_mh m_Di_bestGap.1 2) hp hk (by decide)
theorem d_Ra_apart_45 : decode m_Ra_apart.2.1 45 = .ok (.istore 4, 2) := by decide +kernel
theorem d_Ra_apart_47 : decode m_Ra_apart.2.1 47 = .ok (.iload_n 3, 1) := by decide +kernel
theorem d_Ra_apart_48 : decode m_Ra_apart.2.1 48 = .ok (.ifCond .ne 8, 3) := by decide +kernel
theorem d_Ra_apart_51 : decode m_Ra_apart.2.1 51 = .ok (.iload 4, 2) := by decide +kernel
theorem d_Ra_apart_53 : decode m_Ra_apart.2.1 53 = .ok (.goto 14, 3) := by decide +kernel
theorem d_Ra_apart_56 : decode m_Ra_apart.2.1 56 = .ok (.aload_n 0, 1) := by decide +kernel
theorem d_Ra_apart_57 : decode m_Ra_apart.2.1 57 = .ok (.getfield 19, 3) := by decide +kernel
theorem d_Ra_apart_60 : decode m_Ra_apart.2.1 60 = .ok (.iload_n 1, 1) := by decide +kernel
theorem d_Ra_apart_61 : decode m_Ra_apart.2.1 61 = .ok (.iload_n 2, 1) := by decide +kernel
theorem d_Ra_apart_62 : decode m_Ra_apart.2.1 62 = .ok (.iload 4, 2) := by decide +kernel
theorem d_Ra_apart_64 : decode m_Ra_apart.2.1 64 = .ok (.invokevirtual 259, 3) := by decide +kernel
set_option maxRecDepth 100000 in
theorem s_Ra_apart_64 {G : r_X} {n : Nat} {h : r_HI} {g : r_HR} {z : r_HL} {k : Nat} {v0 v1 v2 : Value} (hp : r_pk k = (0, 1)) (hk : k < n) : r_cl G m_Ra_apart m_Di_gapTicks 64 (.ref (G.2.1 + k) :: [v0, v1, v2]) n h g z := r_clV d_Ra_apart_64 w_Di_gapTicks (r_in 624 rfl rfl) a_Di_gapTicks (r_in 622 rfl rfl) n_Di (by decide +kernel : r_mh m_Di_gapTicks.1 3) hp hk (by decide)
theorem d_Ra_apart_67 : decode m_Ra_apart.2.1 67 = .ok (.ireturn, 1) := by decide +kernel
theorem d_Ra_see_0 : decode m_Ra_see.2.1 0 = .ok (.iload_n 1, 1) := by decide +kernel
theorem d_Ra_see_1 : decode m_Ra_see.2.1 1 = .ok (.iconst 1, 1) := by decide +kernel
theorem d_Ra_see_2 : decode m_Ra_see.2.1 2 = .ok (.if_icmp .lt 19, 3) := by decide +kernel
theorem d_Ra_see_5 : decode m_Ra_see.2.1 5 = .ok (.iload_n 1, 1) := by decide +kernel
theorem d_Ra_see_6 : decode m_Ra_see.2.1 6 = .ok (.bipush 9, 2) := by decide +kernel
theorem d_Ra_see_8 : decode m_Ra_see.2.1 8 = .ok (.if_icmp .gt 13, 3) := by decide +kernel
theorem d_Ra_see_11 : decode m_Ra_see.2.1 11 = .ok (.iload_n 2, 1) := by decide +kernel
theorem d_Ra_see_12 : decode m_Ra_see.2.1 12 = .ok (.ifCond .lt 9, 3) := by decide +kernel
theorem d_Ra_see_15 : decode m_Ra_see.2.1 15 = .ok (.iload_n 2, 1) := by decide +kernel
theorem d_Ra_see_16 : decode m_Ra_see.2.1 16 = .ok (.bipush 99, 2) := by decide +kernel
theorem d_Ra_see_18 : decode m_Ra_see.2.1 18 = .ok (.if_icmp .le 6, 3) := by decide +kernel
theorem d_Ra_see_21 : decode m_Ra_see.2.1 21 = .ok (.bipush (-102), 2) := by decide +kernel
theorem d_Ra_see_23 : decode m_Ra_see.2.1 23 = .ok (.ireturn, 1) := by decide +kernel
theorem d_Ra_see_24 : decode m_Ra_see.2.1 24 = .ok (.aload_n 0, 1) := by decide +kernel
theorem d_Ra_see_25 : decode m_Ra_see.2.1 25 = .ok (.invokevirtual 183, 3) := by decide +kernel
set_option maxRecDepth 100000 in
theorem s_Ra_see_25 {G : r_X} {n : Nat} {h : r_HI} {g : r_HR} {z : r_HL} {k : Nat} (hp : r_pk k = (0, 11)) (hk : k < n) : r_cl G m_Ra_see m_Ra_hasPlate 25 (.ref (G.2.1 + k) :: []) n h g z := r_clV d_Ra_see_25 w_Ra_hasPlate (r_in 411 rfl rfl) a_Ra_hasPlate (r_inP 1 rfl rfl) n_Ra (by decide +kernel : r_mh m_Ra_hasPlate.1 0) hp hk (by decide)
theorem d_Ra_see_28 : decode m_Ra_see.2.1 28 = .ok (.ifCond .ne 6, 3) := by decide +kernel
theorem d_Ra_see_31 : decode m_Ra_see.2.1 31 = .ok (.bipush (-103), 2) := by decide +kernel
theorem d_Ra_see_33 : decode m_Ra_see.2.1 33 = .ok (.ireturn, 1) := by decide +kernel
theorem d_Ra_see_34 : decode m_Ra_see.2.1 34 = .ok (.aload_n 0, 1) := by decide +kernel
theorem d_Ra_see_35 : decode m_Ra_see.2.1 35 = .ok (.getfield 42, 3) := by decide +kernel
theorem d_Ra_see_38 : decode m_Ra_see.2.1 38 = .ok (.getfield 263, 3) := by decide +kernel
theorem d_Ra_see_41 : decode m_Ra_see.2.1 41 = .ok (.bipush 6, 2) := by decide +kernel
theorem d_Ra_see_43 : decode m_Ra_see.2.1 43 = .ok (.if_icmp .lt 6, 3) := by decide +kernel
theorem d_Ra_see_46 : decode m_Ra_see.2.1 46 = .ok (.bipush (-104), 2) := by decide +kernel
theorem d_Ra_see_48 : decode m_Ra_see.2.1 48 = .ok (.ireturn, 1) := by decide +kernel
theorem d_Ra_see_49 : decode m_Ra_see.2.1 49 = .ok (.aload_n 0, 1) := by decide +kernel
theorem d_Ra_see_50 : decode m_Ra_see.2.1 50 = .ok (.getfield 42, 3) := by decide +kernel
theorem d_Ra_see_53 : decode m_Ra_see.2.1 53 = .ok (.iload_n 1, 1) := by decide +kernel
theorem d_Ra_see_54 : decode m_Ra_see.2.1 54 = .ok (.iload_n 2, 1) := by decide +kernel
theorem d_Ra_see_55 : decode m_Ra_see.2.1 55 = .ok (.invokevirtual 264, 3) := by decide +kernel
set_option maxRecDepth 100000 in
theorem s_Ra_see_55 {G : r_X} {n : Nat} {h : r_HI} {g : r_HR} {z : r_HL} {k : Nat} {v0 v1 : Value} (hp : r_pk k = (0, 7)) (hk : k < n) : r_cl G m_Ra_see m_Si_append 55 (.ref (G.2.1 + k) :: [v0, v1]) n h g z := r_clV d_Ra_see_55 w_Si_append (r_in 629 rfl rfl) a_Si_append (r_in 631 rfl rfl) n_Si (by decide +kernel : r_mh m_Si_append.1 2) hp hk (by decide)
theorem d_Ra_see_58 : decode m_Ra_see.2.1 58 = .ok (.ireturn, 1) := by decide +kernel
theorem d_Ra_forget_0 : decode m_Ra_forget.2.1 0 = .ok (.aload_n 0, 1) := by decide +kernel
theorem d_Ra_forget_1 : decode m_Ra_forget.2.1 1 = .ok (.getfield 42, 3) := by decide +kernel
theorem d_Ra_forget_4 : decode m_Ra_forget.2.1 4 = .ok (.invokevirtual 139, 3) := by decide +kernel
set_option maxRecDepth 100000 in
theorem s_Ra_forget_4 {G : r_X} {n : Nat} {h : r_HI} {g : r_HR} {z : r_HL} {k : Nat} (hp : r_pk k = (0, 7)) (hk : k < n) : r_cl G m_Ra_forget m_Si_clear 4 (.ref (G.2.1 + k) :: []) n h g z := r_clV d_Ra_forget_4 w_Si_clear (r_in 362 rfl rfl) a_Si_clear (r_in 364 rfl rfl) n_Si (by decide +kernel : r_mh m_Si_clear.1 0) hp hk (by decide)
theorem d_Ra_forget_7 : decode m_Ra_forget.2.1 7 = .ok (.ireturn, 1) := by decide +kernel
theorem d_Ra_steps_0 : decode m_Ra_steps.2.1 0 = .ok (.aload_n 0, 1) := by decide +kernel
theorem d_Ra_steps_1 : decode m_Ra_steps.2.1 1 = .ok (.invokevirtual 183, 3) := by decide +kernel
set_option maxRecDepth 100000 in
theorem s_Ra_steps_1 {G : r_X} {n : Nat} {h : r_HI} {g : r_HR} {z : r_HL} {k : Nat} (hp : r_pk k = (0, 11)) (hk : k < n) : r_cl G m_Ra_steps m_Ra_hasPlate 1 (.ref (G.2.1 + k) :: []) n h g z := r_clV d_Ra_steps_1 w_Ra_hasPlate (r_in 411 rfl rfl) a_Ra_hasPlate (r_inP 1 rfl rfl) n_Ra (by decide +kernel : r_mh m_Ra_hasPlate.1 0) hp hk (by decide)
theorem d_Ra_steps_4 : decode m_Ra_steps.2.1 4 = .ok (.ifCond .ne 6, 3) := by decide +kernel
theorem d_Ra_steps_7 : decode m_Ra_steps.2.1 7 = .ok (.bipush (-103), 2) := by decide +kernel
theorem d_Ra_steps_9 : decode m_Ra_steps.2.1 9 = .ok (.ireturn, 1) := by decide +kernel
theorem d_Ra_steps_10 : decode m_Ra_steps.2.1 10 = .ok (.aload_n 0, 1) := by decide +kernel
theorem d_Ra_steps_11 : decode m_Ra_steps.2.1 11 = .ok (.getfield 42, 3) := by decide +kernel
theorem d_Ra_steps_14 : decode m_Ra_steps.2.1 14 = .ok (.aload_n 0, 1) := by decide +kernel
theorem d_Ra_steps_15 : decode m_Ra_steps.2.1 15 = .ok (.getfield 19, 3) := by decide +kernel
theorem d_Ra_steps_18 : decode m_Ra_steps.2.1 18 = .ok (.getfield 219, 3) := by decide +kernel
theorem d_Ra_steps_21 : decode m_Ra_steps.2.1 21 = .ok (.invokevirtual 265, 3) := by decide +kernel
set_option maxRecDepth 100000 in
theorem s_Ra_steps_21 {G : r_X} {n : Nat} {h : r_HI} {g : r_HR} {z : r_HL} {k : Nat} {v0 : Value} (hp : r_pk k = (0, 7)) (hk : k < n) : r_cl G m_Ra_steps m_Si_fitting 21 (.ref (G.2.1 + k) :: [v0]) n h g z := r_clV d_Ra_steps_21 w_Si_fitting (r_in 642 rfl rfl) a_Si_fitting (r_in 644 rfl rfl) n_Si (by decide +kernel : r_mh m_Si_fitting.1 1) hp hk (by decide)
theorem d_Ra_steps_24 : decode m_Ra_steps.2.1 24 = .ok (.ireturn, 1) := by decide +kernel
theorem d_Ra_trial_0 : decode m_Ra_trial.2.1 0 = .ok (.aload_n 0, 1) := by decide +kernel
theorem d_Ra_trial_1 : decode m_Ra_trial.2.1 1 = .ok (.invokevirtual 183, 3) := by decide +kernel
set_option maxRecDepth 100000 in
theorem s_Ra_trial_1 {G : r_X} {n : Nat} {h : r_HI} {g : r_HR} {z : r_HL} {k : Nat} (hp : r_pk k = (0, 11)) (hk : k < n) : r_cl G m_Ra_trial m_Ra_hasPlate 1 (.ref (G.2.1 + k) :: []) n h g z := r_clV d_Ra_trial_1 w_Ra_hasPlate (r_in 411 rfl rfl) a_Ra_hasPlate (r_inP 1 rfl rfl) n_Ra (by decide +kernel : r_mh m_Ra_hasPlate.1 0) hp hk (by decide)
theorem d_Ra_trial_4 : decode m_Ra_trial.2.1 4 = .ok (.ifCond .ne 6, 3) := by decide +kernel
theorem d_Ra_trial_7 : decode m_Ra_trial.2.1 7 = .ok (.bipush (-103), 2) := by decide +kernel
theorem d_Ra_trial_9 : decode m_Ra_trial.2.1 9 = .ok (.ireturn, 1) := by decide +kernel
theorem d_Ra_trial_10 : decode m_Ra_trial.2.1 10 = .ok (.aload_n 0, 1) := by decide +kernel
theorem d_Ra_trial_11 : decode m_Ra_trial.2.1 11 = .ok (.getfield 42, 3) := by decide +kernel
theorem d_Ra_trial_14 : decode m_Ra_trial.2.1 14 = .ok (.aload_n 0, 1) := by decide +kernel
theorem d_Ra_trial_15 : decode m_Ra_trial.2.1 15 = .ok (.getfield 19, 3) := by decide +kernel
theorem d_Ra_trial_18 : decode m_Ra_trial.2.1 18 = .ok (.getfield 219, 3) := by decide +kernel
theorem d_Ra_trial_21 : decode m_Ra_trial.2.1 21 = .ok (.invokevirtual 265, 3) := by decide +kernel
set_option maxRecDepth 100000 in
theorem s_Ra_trial_21 {G : r_X} {n : Nat} {h : r_HI} {g : r_HR} {z : r_HL} {k : Nat} {v0 : Value} (hp : r_pk k = (0, 7)) (hk : k < n) : r_cl G m_Ra_trial m_Si_fitting 21 (.ref (G.2.1 + k) :: [v0]) n h g z := r_clV d_Ra_trial_21 w_Si_fitting (r_in 642 rfl rfl) a_Si_fitting (r_in 644 rfl rfl) n_Si (by decide +kernel : r_mh m_Si_fitting.1 1) hp hk (by decide)
theorem d_Ra_trial_24 : decode m_Ra_trial.2.1 24 = .ok (.invokestatic 268, 3) := by decide +kernel
set_option maxRecDepth 100000 in
theorem s_Ra_trial_24 {G : r_X} {n : Nat} {h : r_HI} {g : r_HR} {z : r_HL} {v0 : Value} : r_cl G m_Ra_trial m_Ra_bestTry 24 [v0] n h g z := r_clS d_Ra_trial_24 w_Ra_bestTry (r_in 656 rfl rfl) a_Ra_bestTry n_Ra (by decide +kernel : r_mh m_Ra_bestTry.1 1)
theorem d_Ra_trial_27 : decode m_Ra_trial.2.1 27 = .ok (.ireturn, 1) := by decide +kernel
theorem d_Ra_days_0 : decode m_Ra_days.2.1 0 = .ok (.iload_n 1, 1) := by decide +kernel
theorem d_Ra_days_1 : decode m_Ra_days.2.1 1 = .ok (.iconst 1, 1) := by decide +kernel
theorem d_Ra_days_2 : decode m_Ra_days.2.1 2 = .ok (.if_icmp .lt 22, 3) := by decide +kernel
theorem d_Ra_days_5 : decode m_Ra_days.2.1 5 = .ok (.iload_n 1, 1) := by decide +kernel
theorem d_Ra_days_6 : decode m_Ra_days.2.1 6 = .ok (.bipush 60, 2) := by decide +kernel
theorem d_Ra_days_8 : decode m_Ra_days.2.1 8 = .ok (.if_icmp .gt 16, 3) := by decide +kernel
theorem d_Ra_days_11 : decode m_Ra_days.2.1 11 = .ok (.iload_n 2, 1) := by decide +kernel
theorem d_Ra_days_12 : decode m_Ra_days.2.1 12 = .ok (.ifCond .lt 12, 3) := by decide +kernel
theorem d_Ra_days_15 : decode m_Ra_days.2.1 15 = .ok (.iload_n 3, 1) := by decide +kernel
theorem d_Ra_days_16 : decode m_Ra_days.2.1 16 = .ok (.ifCond .lt 8, 3) := by decide +kernel
theorem d_Ra_days_19 : decode m_Ra_days.2.1 19 = .ok (.iload_n 3, 1) := by decide +kernel
theorem d_Ra_days_20 : decode m_Ra_days.2.1 20 = .ok (.iconst 2, 1) := by decide +kernel
theorem d_Ra_days_21 : decode m_Ra_days.2.1 21 = .ok (.if_icmp .le 6, 3) := by decide +kernel
theorem d_Ra_days_24 : decode m_Ra_days.2.1 24 = .ok (.bipush (-102), 2) := by decide +kernel
theorem d_Ra_days_26 : decode m_Ra_days.2.1 26 = .ok (.ireturn, 1) := by decide +kernel
theorem d_Ra_days_27 : decode m_Ra_days.2.1 27 = .ok (.aload_n 0, 1) := by decide +kernel
theorem d_Ra_days_28 : decode m_Ra_days.2.1 28 = .ok (.invokevirtual 183, 3) := by decide +kernel
set_option maxRecDepth 100000 in
theorem s_Ra_days_28 {G : r_X} {n : Nat} {h : r_HI} {g : r_HR} {z : r_HL} {k : Nat} (hp : r_pk k = (0, 11)) (hk : k < n) : r_cl G m_Ra_days m_Ra_hasPlate 28 (.ref (G.2.1 + k) :: []) n h g z := r_clV d_Ra_days_28 w_Ra_hasPlate (r_in 411 rfl rfl) a_Ra_hasPlate (r_inP 1 rfl rfl) n_Ra (by decide +kernel : r_mh m_Ra_hasPlate.1 0) hp hk (by decide)
theorem d_Ra_days_31 : decode m_Ra_days.2.1 31 = .ok (.ifCond .ne 6, 3) := by decide +kernel
theorem d_Ra_days_34 : decode m_Ra_days.2.1 34 = .ok (.bipush (-103), 2) := by decide +kernel
theorem d_Ra_days_36 : decode m_Ra_days.2.1 36 = .ok (.ireturn, 1) := by decide +kernel
theorem d_Ra_days_37 : decode m_Ra_days.2.1 37 = .ok (.aload_n 0, 1) := by decide +kernel
theorem d_Ra_days_38 : decode m_Ra_days.2.1 38 = .ok (.iload_n 1, 1) := by decide +kernel
theorem d_Ra_days_39 : decode m_Ra_days.2.1 39 = .ok (.iload_n 2, 1) := by decide +kernel
theorem d_Ra_days_40 : decode m_Ra_days.2.1 40 = .ok (.invokevirtual 271, 3) := by decide +kernel
set_option maxRecDepth 100000 in
theorem s_Ra_days_40 {G : r_X} {n : Nat} {h : r_HI} {g : r_HR} {z : r_HL} {k : Nat} {v0 v1 : Value} (hp : r_pk k = (0, 11)) (hk : k < n) : r_cl G m_Ra_days m_Ra_playDays 40 (.ref (G.2.1 + k) :: [v0, v1]) n h g z := r_clV d_Ra_days_40 w_Ra_playDays (r_in 671 rfl rfl) a_Ra_playDays (r_inP 4 rfl rfl) n_Ra (by decide +kernel : r_mh m_Ra_playDays.1 2) hp hk (by decide)
theorem d_Ra_days_43 : decode m_Ra_days.2.1 43 = .ok (.istore 4, 2) := by decide +kernel
theorem d_Ra_days_45 : decode m_Ra_days.2.1 45 = .ok (.iload_n 3, 1) := by decide +kernel
theorem d_Ra_days_46 : decode m_Ra_days.2.1 46 = .ok (.lookupswitch 42 #[(0, 26), (1, 34)], 26) := by decide +kernel
theorem d_Ra_days_72 : decode m_Ra_days.2.1 72 = .ok (.aload_n 0, 1) := by decide +kernel
theorem d_Ra_days_73 : decode m_Ra_days.2.1 73 = .ok (.getfield 88, 3) := by decide +kernel
theorem d_Ra_days_76 : decode m_Ra_days.2.1 76 = .ok (.getfield 205, 3) := by decide +kernel
theorem d_Ra_days_79 : decode m_Ra_days.2.1 79 = .ok (.ireturn, 1) := by decide +kernel
theorem d_Ra_days_80 : decode m_Ra_days.2.1 80 = .ok (.aload_n 0, 1) := by decide +kernel
theorem d_Ra_days_81 : decode m_Ra_days.2.1 81 = .ok (.getfield 88, 3) := by decide +kernel
theorem d_Ra_days_84 : decode m_Ra_days.2.1 84 = .ok (.getfield 230, 3) := by decide +kernel
theorem d_Ra_days_87 : decode m_Ra_days.2.1 87 = .ok (.ireturn, 1) := by decide +kernel
theorem d_Ra_days_88 : decode m_Ra_days.2.1 88 = .ok (.iload 4, 2) := by decide +kernel
theorem d_Ra_days_90 : decode m_Ra_days.2.1 90 = .ok (.ireturn, 1) := by decide +kernel
