theorem d_Dk_init_0 : decode m_Dk_init.2.1 0 = .ok (.aload_n 0, 1) := by decide +kernel
theorem d_Dk_init_1 : decode m_Dk_init.2.1 1 = .ok (.invokespecial 3, 3) := by decide +kernel
set_option maxRecDepth 100000 in
theorem s_Dk_init_1 : Cond.methodLink m_Dk_init.1.cls 3 Lib.objectInit ∈ r_wg := r_in 76 rfl rfl
theorem d_Dk_init_4 : decode m_Dk_init.2.1 4 = .ok (.aload_n 0, 1) := by decide +kernel
theorem d_Dk_init_5 : decode m_Dk_init.2.1 5 = .ok (.bipush 7, 2) := by decide +kernel
theorem d_Dk_init_7 : decode m_Dk_init.2.1 7 = .ok (.newarray .int, 2) := by decide +kernel
theorem d_Dk_init_9 : decode m_Dk_init.2.1 9 = .ok (.putfield 9, 3) := by decide +kernel
theorem d_Dk_init_12 : decode m_Dk_init.2.1 12 = .ok (.aload_n 0, 1) := by decide +kernel
theorem d_Dk_init_13 : decode m_Dk_init.2.1 13 = .ok (.bipush 7, 2) := by decide +kernel
theorem d_Dk_init_15 : decode m_Dk_init.2.1 15 = .ok (.newarray .int, 2) := by decide +kernel
theorem d_Dk_init_17 : decode m_Dk_init.2.1 17 = .ok (.putfield 15, 3) := by decide +kernel
theorem d_Dk_init_20 : decode m_Dk_init.2.1 20 = .ok (.aload_n 0, 1) := by decide +kernel
theorem d_Dk_init_21 : decode m_Dk_init.2.1 21 = .ok (.bipush 7, 2) := by decide +kernel
theorem d_Dk_init_23 : decode m_Dk_init.2.1 23 = .ok (.newarray .int, 2) := by decide +kernel
theorem d_Dk_init_25 : decode m_Dk_init.2.1 25 = .ok (.putfield 18, 3) := by decide +kernel
theorem d_Dk_init_28 : decode m_Dk_init.2.1 28 = .ok (.aload_n 0, 1) := by decide +kernel
theorem d_Dk_init_29 : decode m_Dk_init.2.1 29 = .ok (.iconst 0, 1) := by decide +kernel
theorem d_Dk_init_30 : decode m_Dk_init.2.1 30 = .ok (.putfield 21, 3) := by decide +kernel
theorem d_Dk_init_33 : decode m_Dk_init.2.1 33 = .ok (.aload_n 0, 1) := by decide +kernel
theorem d_Dk_init_34 : decode m_Dk_init.2.1 34 = .ok (.iconst 0, 1) := by decide +kernel
theorem d_Dk_init_35 : decode m_Dk_init.2.1 35 = .ok (.putfield 25, 3) := by decide +kernel
theorem d_Dk_init_38 : decode m_Dk_init.2.1 38 = .ok (.aload_n 0, 1) := by decide +kernel
theorem d_Dk_init_39 : decode m_Dk_init.2.1 39 = .ok (.iconst 0, 1) := by decide +kernel
theorem d_Dk_init_40 : decode m_Dk_init.2.1 40 = .ok (.putfield 28, 3) := by decide +kernel
theorem d_Dk_init_43 : decode m_Dk_init.2.1 43 = .ok (.aload_n 0, 1) := by decide +kernel
theorem d_Dk_init_44 : decode m_Dk_init.2.1 44 = .ok (.iconst 1, 1) := by decide +kernel
theorem d_Dk_init_45 : decode m_Dk_init.2.1 45 = .ok (.putfield 31, 3) := by decide +kernel
theorem d_Dk_init_48 : decode m_Dk_init.2.1 48 = .ok (.aload_n 0, 1) := by decide +kernel
theorem d_Dk_init_49 : decode m_Dk_init.2.1 49 = .ok (.iconst 0, 1) := by decide +kernel
theorem d_Dk_init_50 : decode m_Dk_init.2.1 50 = .ok (.putfield 35, 3) := by decide +kernel
theorem d_Dk_init_53 : decode m_Dk_init.2.1 53 = .ok (.aload_n 0, 1) := by decide +kernel
theorem d_Dk_init_54 : decode m_Dk_init.2.1 54 = .ok (.aload_n 1, 1) := by decide +kernel
theorem d_Dk_init_55 : decode m_Dk_init.2.1 55 = .ok (.putfield 38, 3) := by decide +kernel
theorem d_Dk_init_58 : decode m_Dk_init.2.1 58 = .ok (.return_, 1) := by decide +kernel
theorem d_Dk_restart_0 : decode m_Dk_restart.2.1 0 = .ok (.aload_n 0, 1) := by decide +kernel
theorem d_Dk_restart_1 : decode m_Dk_restart.2.1 1 = .ok (.iconst 0, 1) := by decide +kernel
theorem d_Dk_restart_2 : decode m_Dk_restart.2.1 2 = .ok (.putfield 21, 3) := by decide +kernel
theorem d_Dk_restart_5 : decode m_Dk_restart.2.1 5 = .ok (.aload_n 0, 1) := by decide +kernel
theorem d_Dk_restart_6 : decode m_Dk_restart.2.1 6 = .ok (.iconst 0, 1) := by decide +kernel
theorem d_Dk_restart_7 : decode m_Dk_restart.2.1 7 = .ok (.putfield 25, 3) := by decide +kernel
theorem d_Dk_restart_10 : decode m_Dk_restart.2.1 10 = .ok (.aload_n 0, 1) := by decide +kernel
theorem d_Dk_restart_11 : decode m_Dk_restart.2.1 11 = .ok (.iconst 0, 1) := by decide +kernel
theorem d_Dk_restart_12 : decode m_Dk_restart.2.1 12 = .ok (.putfield 28, 3) := by decide +kernel
theorem d_Dk_restart_15 : decode m_Dk_restart.2.1 15 = .ok (.aload_n 0, 1) := by decide +kernel
theorem d_Dk_restart_16 : decode m_Dk_restart.2.1 16 = .ok (.iconst 1, 1) := by decide +kernel
theorem d_Dk_restart_17 : decode m_Dk_restart.2.1 17 = .ok (.putfield 31, 3) := by decide +kernel
theorem d_Dk_restart_20 : decode m_Dk_restart.2.1 20 = .ok (.aload_n 0, 1) := by decide +kernel
theorem d_Dk_restart_21 : decode m_Dk_restart.2.1 21 = .ok (.iconst 0, 1) := by decide +kernel
theorem d_Dk_restart_22 : decode m_Dk_restart.2.1 22 = .ok (.putfield 35, 3) := by decide +kernel
theorem d_Dk_restart_25 : decode m_Dk_restart.2.1 25 = .ok (.return_, 1) := by decide +kernel
theorem d_Dk_copyFrom_0 : decode m_Dk_copyFrom.2.1 0 = .ok (.aload_n 1, 1) := by decide +kernel
theorem d_Dk_copyFrom_1 : decode m_Dk_copyFrom.2.1 1 = .ok (.getfield 9, 3) := by decide +kernel
theorem d_Dk_copyFrom_4 : decode m_Dk_copyFrom.2.1 4 = .ok (.aload_n 0, 1) := by decide +kernel
theorem d_Dk_copyFrom_5 : decode m_Dk_copyFrom.2.1 5 = .ok (.getfield 9, 3) := by decide +kernel
theorem d_Dk_copyFrom_8 : decode m_Dk_copyFrom.2.1 8 = .ok (.invokestatic 42, 3) := by decide +kernel
set_option maxRecDepth 100000 in
theorem s_Dk_copyFrom_8 {G : r_X} {n : Nat} {h : r_HI} {g : r_HR} {z : r_HL} {v0 v1 : Value} : r_cl G m_Dk_copyFrom m_Ra_copyRow 8 [v0, v1] n h g z := r_clSN d_Dk_copyFrom_8 w_Ra_copyRow (List.mem_of_getElem? (i := 25) rfl) a_Ra_copyRow n_Ra (by decide +kernel : r_mh m_Ra_copyRow.1 2)
theorem d_Dk_copyFrom_11 : decode m_Dk_copyFrom.2.1 11 = .ok (.aload_n 1, 1) := by decide +kernel
theorem d_Dk_copyFrom_12 : decode m_Dk_copyFrom.2.1 12 = .ok (.getfield 15, 3) := by decide +kernel
theorem d_Dk_copyFrom_15 : decode m_Dk_copyFrom.2.1 15 = .ok (.aload_n 0, 1) := by decide +kernel
theorem d_Dk_copyFrom_16 : decode m_Dk_copyFrom.2.1 16 = .ok (.getfield 15, 3) := by decide +kernel
theorem d_Dk_copyFrom_19 : decode m_Dk_copyFrom.2.1 19 = .ok (.invokestatic 42, 3) := by decide +kernel
set_option maxRecDepth 100000 in
theorem s_Dk_copyFrom_19 {G : r_X} {n : Nat} {h : r_HI} {g : r_HR} {z : r_HL} {v0 v1 : Value} : r_cl G m_Dk_copyFrom m_Ra_copyRow 19 [v0, v1] n h g z := r_clSN d_Dk_copyFrom_19 w_Ra_copyRow (List.mem_of_getElem? (i := 25) rfl) a_Ra_copyRow n_Ra (by decide +kernel : r_mh m_Ra_copyRow.1 2)
theorem d_Dk_copyFrom_22 : decode m_Dk_copyFrom.2.1 22 = .ok (.aload_n 1, 1) := by decide +kernel
theorem d_Dk_copyFrom_23 : decode m_Dk_copyFrom.2.1 23 = .ok (.getfield 18, 3) := by decide +kernel
theorem d_Dk_copyFrom_26 : decode m_Dk_copyFrom.2.1 26 = .ok (.aload_n 0, 1) := by decide +kernel
theorem d_Dk_copyFrom_27 : decode m_Dk_copyFrom.2.1 27 = .ok (.getfield 18, 3) := by decide +kernel
theorem d_Dk_copyFrom_30 : decode m_Dk_copyFrom.2.1 30 = .ok (.invokestatic 42, 3) := by decide +kernel
set_option maxRecDepth 100000 in
theorem s_Dk_copyFrom_30 {G : r_X} {n : Nat} {h : r_HI} {g : r_HR} {z : r_HL} {v0 v1 : Value} : r_cl G m_Dk_copyFrom m_Ra_copyRow 30 [v0, v1] n h g z := r_clSN d_Dk_copyFrom_30 w_Ra_copyRow (List.mem_of_getElem? (i := 25) rfl) a_Ra_copyRow n_Ra (by decide +kernel : r_mh m_Ra_copyRow.1 2)
theorem d_Dk_copyFrom_33 : decode m_Dk_copyFrom.2.1 33 = .ok (.aload_n 0, 1) := by decide +kernel
theorem d_Dk_copyFrom_34 : decode m_Dk_copyFrom.2.1 34 = .ok (.aload_n 1, 1) := by decide +kernel
theorem d_Dk_copyFrom_35 : decode m_Dk_copyFrom.2.1 35 = .ok (.getfield 21, 3) := by decide +kernel
theorem d_Dk_copyFrom_38 : decode m_Dk_copyFrom.2.1 38 = .ok (.putfield 21, 3) := by decide +kernel
theorem d_Dk_copyFrom_41 : decode m_Dk_copyFrom.2.1 41 = .ok (.aload_n 0, 1) := by decide +kernel
theorem d_Dk_copyFrom_42 : decode m_Dk_copyFrom.2.1 42 = .ok (.aload_n 1, 1) := by decide +kernel
theorem d_Dk_copyFrom_43 : decode m_Dk_copyFrom.2.1 43 = .ok (.getfield 25, 3) := by decide +kernel
theorem d_Dk_copyFrom_46 : decode m_Dk_copyFrom.2.1 46 = .ok (.putfield 25, 3) := by decide +kernel
theorem d_Dk_copyFrom_49 : decode m_Dk_copyFrom.2.1 49 = .ok (.aload_n 0, 1) := by decide +kernel
theorem d_Dk_copyFrom_50 : decode m_Dk_copyFrom.2.1 50 = .ok (.aload_n 1, 1) := by decide +kernel
theorem d_Dk_copyFrom_51 : decode m_Dk_copyFrom.2.1 51 = .ok (.getfield 28, 3) := by decide +kernel
theorem d_Dk_copyFrom_54 : decode m_Dk_copyFrom.2.1 54 = .ok (.putfield 28, 3) := by decide +kernel
theorem d_Dk_copyFrom_57 : decode m_Dk_copyFrom.2.1 57 = .ok (.aload_n 0, 1) := by decide +kernel
theorem d_Dk_copyFrom_58 : decode m_Dk_copyFrom.2.1 58 = .ok (.aload_n 1, 1) := by decide +kernel
theorem d_Dk_copyFrom_59 : decode m_Dk_copyFrom.2.1 59 = .ok (.getfield 31, 3) := by decide +kernel
theorem d_Dk_copyFrom_62 : decode m_Dk_copyFrom.2.1 62 = .ok (.putfield 31, 3) := by decide +kernel
theorem d_Dk_copyFrom_65 : decode m_Dk_copyFrom.2.1 65 = .ok (.aload_n 0, 1) := by decide +kernel
theorem d_Dk_copyFrom_66 : decode m_Dk_copyFrom.2.1 66 = .ok (.iconst 0, 1) := by decide +kernel
theorem d_Dk_copyFrom_67 : decode m_Dk_copyFrom.2.1 67 = .ok (.putfield 35, 3) := by decide +kernel
theorem d_Dk_copyFrom_70 : decode m_Dk_copyFrom.2.1 70 = .ok (.return_, 1) := by decide +kernel
theorem d_Dk_has_0 : decode m_Dk_has.2.1 0 = .ok (.iload_n 1, 1) := by decide +kernel
theorem d_Dk_has_1 : decode m_Dk_has.2.1 1 = .ok (.ifCond .lt 15, 3) := by decide +kernel
theorem d_Dk_has_4 : decode m_Dk_has.2.1 4 = .ok (.iload_n 1, 1) := by decide +kernel
theorem d_Dk_has_5 : decode m_Dk_has.2.1 5 = .ok (.aload_n 0, 1) := by decide +kernel
theorem d_Dk_has_6 : decode m_Dk_has.2.1 6 = .ok (.getfield 21, 3) := by decide +kernel
theorem d_Dk_has_9 : decode m_Dk_has.2.1 9 = .ok (.if_icmp .ge 7, 3) := by decide +kernel
theorem d_Dk_has_12 : decode m_Dk_has.2.1 12 = .ok (.iconst 1, 1) := by decide +kernel
theorem d_Dk_has_13 : decode m_Dk_has.2.1 13 = .ok (.goto 4, 3) := by decide +kernel
theorem d_Dk_has_16 : decode m_Dk_has.2.1 16 = .ok (.iconst 0, 1) := by decide +kernel
theorem d_Dk_has_17 : decode m_Dk_has.2.1 17 = .ok (.ireturn, 1) := by decide +kernel
theorem d_Dk_bitsOn_0 : decode m_Dk_bitsOn.2.1 0 = .ok (.iconst 0, 1) := by decide +kernel
theorem d_Dk_bitsOn_1 : decode m_Dk_bitsOn.2.1 1 = .ok (.istore_n 2, 1) := by decide +kernel
theorem d_Dk_bitsOn_2 : decode m_Dk_bitsOn.2.1 2 = .ok (.iconst 0, 1) := by decide +kernel
theorem d_Dk_bitsOn_3 : decode m_Dk_bitsOn.2.1 3 = .ok (.istore_n 3, 1) := by decide +kernel
theorem d_Dk_bitsOn_4 : decode m_Dk_bitsOn.2.1 4 = .ok (.iload_n 3, 1) := by decide +kernel
theorem d_Dk_bitsOn_5 : decode m_Dk_bitsOn.2.1 5 = .ok (.aload_n 0, 1) := by decide +kernel
theorem d_Dk_bitsOn_6 : decode m_Dk_bitsOn.2.1 6 = .ok (.getfield 21, 3) := by decide +kernel
theorem d_Dk_bitsOn_9 : decode m_Dk_bitsOn.2.1 9 = .ok (.if_icmp .ge 33, 3) := by decide +kernel
theorem d_Dk_bitsOn_12 : decode m_Dk_bitsOn.2.1 12 = .ok (.iload_n 3, 1) := by decide +kernel
theorem d_Dk_bitsOn_13 : decode m_Dk_bitsOn.2.1 13 = .ok (.bipush 7, 2) := by decide +kernel
theorem d_Dk_bitsOn_15 : decode m_Dk_bitsOn.2.1 15 = .ok (.if_icmp .ge 27, 3) := by decide +kernel
theorem d_Dk_bitsOn_18 : decode m_Dk_bitsOn.2.1 18 = .ok (.aload_n 0, 1) := by decide +kernel
theorem d_Dk_bitsOn_19 : decode m_Dk_bitsOn.2.1 19 = .ok (.getfield 9, 3) := by decide +kernel
theorem d_Dk_bitsOn_22 : decode m_Dk_bitsOn.2.1 22 = .ok (.iload_n 3, 1) := by decide +kernel
theorem d_Dk_bitsOn_23 : decode m_Dk_bitsOn.2.1 23 = .ok (.invokestatic 46, 3) := by decide +kernel
set_option maxRecDepth 100000 in
theorem s_Dk_bitsOn_23 {G : r_X} {n : Nat} {h : r_HI} {g : r_HR} {z : r_HL} {v0 v1 : Value} : r_cl G m_Dk_bitsOn m_Ra_at 23 [v0, v1] n h g z := r_clSN d_Dk_bitsOn_23 w_Ra_at (List.mem_of_getElem? (i := 19) rfl) a_Ra_at n_Ra (by decide +kernel : r_mh m_Ra_at.1 2)
theorem d_Dk_bitsOn_26 : decode m_Dk_bitsOn.2.1 26 = .ok (.iload_n 1, 1) := by decide +kernel
theorem d_Dk_bitsOn_27 : decode m_Dk_bitsOn.2.1 27 = .ok (.if_icmp .ne 9, 3) := by decide +kernel
theorem d_Dk_bitsOn_30 : decode m_Dk_bitsOn.2.1 30 = .ok (.iload_n 2, 1) := by decide +kernel
theorem d_Dk_bitsOn_31 : decode m_Dk_bitsOn.2.1 31 = .ok (.iconst 1, 1) := by decide +kernel
theorem d_Dk_bitsOn_32 : decode m_Dk_bitsOn.2.1 32 = .ok (.iload_n 3, 1) := by decide +kernel
theorem d_Dk_bitsOn_33 : decode m_Dk_bitsOn.2.1 33 = .ok (.ishl, 1) := by decide +kernel
theorem d_Dk_bitsOn_34 : decode m_Dk_bitsOn.2.1 34 = .ok (.ior, 1) := by decide +kernel
theorem d_Dk_bitsOn_35 : decode m_Dk_bitsOn.2.1 35 = .ok (.istore_n 2, 1) := by decide +kernel
theorem d_Dk_bitsOn_36 : decode m_Dk_bitsOn.2.1 36 = .ok (.iinc 3 1, 3) := by decide +kernel
theorem d_Dk_bitsOn_39 : decode m_Dk_bitsOn.2.1 39 = .ok (.goto (-35), 3) := by decide +kernel
theorem d_Dk_bitsOn_42 : decode m_Dk_bitsOn.2.1 42 = .ok (.iload_n 2, 1) := by decide +kernel
theorem d_Dk_bitsOn_43 : decode m_Dk_bitsOn.2.1 43 = .ok (.ireturn, 1) := by decide +kernel
theorem d_Dk_doneAt_0 : decode m_Dk_doneAt.2.1 0 = .ok (.aload_n 0, 1) := by decide +kernel
theorem d_Dk_doneAt_1 : decode m_Dk_doneAt.2.1 1 = .ok (.getfield 38, 3) := by decide +kernel
theorem d_Dk_doneAt_4 : decode m_Dk_doneAt.2.1 4 = .ok (.aload_n 0, 1) := by decide +kernel
theorem d_Dk_doneAt_5 : decode m_Dk_doneAt.2.1 5 = .ok (.getfield 25, 3) := by decide +kernel
theorem d_Dk_doneAt_8 : decode m_Dk_doneAt.2.1 8 = .ok (.aload_n 0, 1) := by decide +kernel
theorem d_Dk_doneAt_9 : decode m_Dk_doneAt.2.1 9 = .ok (.getfield 28, 3) := by decide +kernel
theorem d_Dk_doneAt_12 : decode m_Dk_doneAt.2.1 12 = .ok (.aload_n 0, 1) := by decide +kernel
theorem d_Dk_doneAt_13 : decode m_Dk_doneAt.2.1 13 = .ok (.getfield 9, 3) := by decide +kernel
theorem d_Dk_doneAt_16 : decode m_Dk_doneAt.2.1 16 = .ok (.iload_n 1, 1) := by decide +kernel
theorem d_Dk_doneAt_17 : decode m_Dk_doneAt.2.1 17 = .ok (.invokestatic 46, 3) := by decide +kernel
set_option maxRecDepth 100000 in
theorem s_Dk_doneAt_17 {G : r_X} {n : Nat} {h : r_HI} {g : r_HR} {z : r_HL} {v0 v1 : Value} : r_cl G m_Dk_doneAt m_Ra_at 17 [v0, v1] n h g z := r_clSN d_Dk_doneAt_17 w_Ra_at (List.mem_of_getElem? (i := 19) rfl) a_Ra_at n_Ra (by decide +kernel : r_mh m_Ra_at.1 2)
theorem d_Dk_doneAt_20 : decode m_Dk_doneAt.2.1 20 = .ok (.aload_n 0, 1) := by decide +kernel
theorem d_Dk_doneAt_21 : decode m_Dk_doneAt.2.1 21 = .ok (.getfield 15, 3) := by decide +kernel
theorem d_Dk_doneAt_24 : decode m_Dk_doneAt.2.1 24 = .ok (.iload_n 1, 1) := by decide +kernel
theorem d_Dk_doneAt_25 : decode m_Dk_doneAt.2.1 25 = .ok (.invokestatic 46, 3) := by decide +kernel
set_option maxRecDepth 100000 in
theorem s_Dk_doneAt_25 {G : r_X} {n : Nat} {h : r_HI} {g : r_HR} {z : r_HL} {v0 v1 : Value} : r_cl G m_Dk_doneAt m_Ra_at 25 [v0, v1] n h g z := r_clSN d_Dk_doneAt_25 w_Ra_at (List.mem_of_getElem? (i := 19) rfl) a_Ra_at n_Ra (by decide +kernel : r_mh m_Ra_at.1 2)
theorem d_Dk_doneAt_28 : decode m_Dk_doneAt.2.1 28 = .ok (.invokevirtual 50, 3) := by decide +kernel
set_option maxRecDepth 100000 in
theorem s_Dk_doneAt_28 {G : r_X} {n : Nat} {h : r_HI} {g : r_HR} {z : r_HL} {k : Nat} {v0 v1 v2 v3 : Value} (hp : r_pk k = (0, 1)) (hk : k < n) : r_cl G m_Dk_doneAt m_Di_doneAt 28 (.ref (G.2.1 + k) :: [v0, v1, v2, v3]) n h g z := r_clV d_Dk_doneAt_28 w_Di_doneAt (r_in 396 rfl rfl) a_Di_doneAt (r_in 398 rfl rfl) n_Di (by decide +kernel : r_mh m_Di_doneAt.1 4) hp hk (by decide)
theorem d_Dk_doneAt_31 : decode m_Dk_doneAt.2.1 31 = .ok (.ireturn, 1) := by decide +kernel
theorem d_Dk_append_0 : decode m_Dk_append.2.1 0 = .ok (.aload_n 0, 1) := by decide +kernel
theorem d_Dk_append_1 : decode m_Dk_append.2.1 1 = .ok (.getfield 21, 3) := by decide +kernel
theorem d_Dk_append_4 : decode m_Dk_append.2.1 4 = .ok (.bipush 7, 2) := by decide +kernel
theorem d_Dk_append_6 : decode m_Dk_append.2.1 6 = .ok (.if_icmp .ge 52, 3) := by decide +kernel
theorem d_Dk_append_9 : decode m_Dk_append.2.1 9 = .ok (.aload_n 0, 1) := by decide +kernel
theorem d_Dk_append_10 : decode m_Dk_append.2.1 10 = .ok (.getfield 9, 3) := by decide +kernel
theorem d_Dk_append_13 : decode m_Dk_append.2.1 13 = .ok (.aload_n 0, 1) := by decide +kernel
theorem d_Dk_append_14 : decode m_Dk_append.2.1 14 = .ok (.getfield 21, 3) := by decide +kernel
theorem d_Dk_append_17 : decode m_Dk_append.2.1 17 = .ok (.iload_n 1, 1) := by decide +kernel
theorem d_Dk_append_18 : decode m_Dk_append.2.1 18 = .ok (.invokestatic 56, 3) := by decide +kernel
set_option maxRecDepth 100000 in
theorem s_Dk_append_18 {G : r_X} {n : Nat} {h : r_HI} {g : r_HR} {z : r_HL} {v0 v1 v2 : Value} : r_cl G m_Dk_append m_Ra_put 18 [v0, v1, v2] n h g z := r_clSN d_Dk_append_18 w_Ra_put (List.mem_of_getElem? (i := 24) rfl) a_Ra_put n_Ra (by decide +kernel : r_mh m_Ra_put.1 3)
theorem d_Dk_append_21 : decode m_Dk_append.2.1 21 = .ok (.aload_n 0, 1) := by decide +kernel
theorem d_Dk_append_22 : decode m_Dk_append.2.1 22 = .ok (.getfield 15, 3) := by decide +kernel
theorem d_Dk_append_25 : decode m_Dk_append.2.1 25 = .ok (.aload_n 0, 1) := by decide +kernel
theorem d_Dk_append_26 : decode m_Dk_append.2.1 26 = .ok (.getfield 21, 3) := by decide +kernel
theorem d_Dk_append_29 : decode m_Dk_append.2.1 29 = .ok (.iload_n 2, 1) := by decide +kernel
theorem d_Dk_append_30 : decode m_Dk_append.2.1 30 = .ok (.invokestatic 56, 3) := by decide +kernel
set_option maxRecDepth 100000 in
theorem s_Dk_append_30 {G : r_X} {n : Nat} {h : r_HI} {g : r_HR} {z : r_HL} {v0 v1 v2 : Value} : r_cl G m_Dk_append m_Ra_put 30 [v0, v1, v2] n h g z := r_clSN d_Dk_append_30 w_Ra_put (List.mem_of_getElem? (i := 24) rfl) a_Ra_put n_Ra (by decide +kernel : r_mh m_Ra_put.1 3)
theorem d_Dk_append_33 : decode m_Dk_append.2.1 33 = .ok (.aload_n 0, 1) := by decide +kernel
theorem d_Dk_append_34 : decode m_Dk_append.2.1 34 = .ok (.getfield 18, 3) := by decide +kernel
theorem d_Dk_append_37 : decode m_Dk_append.2.1 37 = .ok (.aload_n 0, 1) := by decide +kernel
theorem d_Dk_append_38 : decode m_Dk_append.2.1 38 = .ok (.getfield 21, 3) := by decide +kernel
theorem d_Dk_append_41 : decode m_Dk_append.2.1 41 = .ok (.aload_n 0, 1) := by decide +kernel
theorem d_Dk_append_42 : decode m_Dk_append.2.1 42 = .ok (.getfield 25, 3) := by decide +kernel
theorem d_Dk_append_45 : decode m_Dk_append.2.1 45 = .ok (.invokestatic 56, 3) := by decide +kernel
set_option maxRecDepth 100000 in
theorem s_Dk_append_45 {G : r_X} {n : Nat} {h : r_HI} {g : r_HR} {z : r_HL} {v0 v1 v2 : Value} : r_cl G m_Dk_append m_Ra_put 45 [v0, v1, v2] n h g z := r_clSN d_Dk_append_45 w_Ra_put (List.mem_of_getElem? (i := 24) rfl) a_Ra_put n_Ra (by decide +kernel : r_mh m_Ra_put.1 3)
theorem d_Dk_append_48 : decode m_Dk_append.2.1 48 = .ok (.aload_n 0, 1) := by decide +kernel
theorem d_Dk_append_49 : decode m_Dk_append.2.1 49 = .ok (.dup, 1) := by decide +kernel
theorem d_Dk_append_50 : decode m_Dk_append.2.1 50 = .ok (.getfield 21, 3) := by decide +kernel
theorem d_Dk_append_53 : decode m_Dk_append.2.1 53 = .ok (.iconst 1, 1) := by decide +kernel
theorem d_Dk_append_54 : decode m_Dk_append.2.1 54 = .ok (.iadd, 1) := by decide +kernel
theorem d_Dk_append_55 : decode m_Dk_append.2.1 55 = .ok (.putfield 21, 3) := by decide +kernel
theorem d_Dk_append_58 : decode m_Dk_append.2.1 58 = .ok (.aload_n 0, 1) := by decide +kernel
theorem d_Dk_append_59 : decode m_Dk_append.2.1 59 = .ok (.getfield 21, 3) := by decide +kernel
theorem d_Dk_append_62 : decode m_Dk_append.2.1 62 = .ok (.ireturn, 1) := by decide +kernel
theorem d_Dk_follow_0 : decode m_Dk_follow.2.1 0 = .ok (.aload_n 1, 1) := by decide +kernel
theorem d_Dk_follow_1 : decode m_Dk_follow.2.1 1 = .ok (.aload_n 0, 1) := by decide +kernel
theorem d_Dk_follow_2 : decode m_Dk_follow.2.1 2 = .ok (.iload_n 2, 1) := by decide +kernel
theorem d_Dk_follow_3 : decode m_Dk_follow.2.1 3 = .ok (.invokevirtual 60, 3) := by decide +kernel
set_option maxRecDepth 100000 in
theorem s_Dk_follow_3_Fi {G : r_X} {n : Nat} {h : r_HI} {g : r_HR} {z : r_HL} {k : Nat} {v0 v1 : Value} (hp : r_pk k = (0, 2)) (hk : k < n) : r_cl G m_Dk_follow m_Fi_turns 3 (.ref (G.2.1 + k) :: [v0, v1]) n h g z := r_clU (x := m_Fi_turns.1) (owner := "RingArm$First") (M0 := m_Fi_turns) d_Dk_follow_3 w_Fi_turns (r_in 495 rfl rfl) (r_in 498 rfl rfl) a_Fi_turns w_Fi_turns rfl a_Fi_turns (r_in 497 rfl rfl) n_Fi ⟨by decide, by decide⟩ (by decide +kernel : r_mh m_Fi_turns.1 2) hp hk (by decide)
set_option maxRecDepth 100000 in
theorem s_Dk_follow_3_Ne {G : r_X} {n : Nat} {h : r_HI} {g : r_HR} {z : r_HL} {k : Nat} {v0 v1 : Value} (hp : r_pk k = (0, 3)) (hk : k < n) : r_cl G m_Dk_follow m_Fi_turns 3 (.ref (G.2.1 + k) :: [v0, v1]) n h g z := r_clU (x := m_Fi_turns.1) (owner := "RingArm$First") (M0 := m_Fi_turns) d_Dk_follow_3 w_Fi_turns (r_in 495 rfl rfl) (r_in 498 rfl rfl) a_Fi_turns w_Fi_turns rfl a_Fi_turns (r_in 499 rfl rfl) n_Fi ⟨by decide, by decide⟩ (by decide +kernel : r_mh m_Fi_turns.1 2) hp hk (by decide)
set_option maxRecDepth 100000 in
theorem s_Dk_follow_3_Sw {G : r_X} {n : Nat} {h : r_HI} {g : r_HR} {z : r_HL} {k : Nat} {v0 v1 : Value} (hp : r_pk k = (0, 9)) (hk : k < n) : r_cl G m_Dk_follow m_Sw_turns 3 (.ref (G.2.1 + k) :: [v0, v1]) n h g z := r_clU (x := m_Fi_turns.1) (owner := "RingArm$First") (M0 := m_Fi_turns) d_Dk_follow_3 w_Sw_turns (r_in 495 rfl rfl) (r_in 498 rfl rfl) a_Fi_turns w_Fi_turns rfl a_Sw_turns (r_in 504 rfl rfl) n_Sw ⟨by decide, by decide⟩ (by decide +kernel : r_mh m_Fi_turns.1 2) hp hk (by decide)
set_option maxRecDepth 100000 in
theorem s_Dk_follow_3_Ro {G : r_X} {n : Nat} {h : r_HI} {g : r_HR} {z : r_HL} {k : Nat} {v0 v1 : Value} (hp : r_pk k = (0, 6)) (hk : k < n) : r_cl G m_Dk_follow m_Ro_turns 3 (.ref (G.2.1 + k) :: [v0, v1]) n h g z := r_clU (x := m_Fi_turns.1) (owner := "RingArm$First") (M0 := m_Fi_turns) d_Dk_follow_3 w_Ro_turns (r_in 495 rfl rfl) (r_in 498 rfl rfl) a_Fi_turns w_Fi_turns rfl a_Ro_turns (r_in 500 rfl rfl) n_Ro ⟨by decide, by decide⟩ (by decide +kernel : r_mh m_Fi_turns.1 2) hp hk (by decide)
set_option maxRecDepth 100000 in
theorem s_Dk_follow_3_So {G : r_X} {n : Nat} {h : r_HI} {g : r_HR} {z : r_HL} {k : Nat} {v0 v1 : Value} (hp : r_pk k = (0, 8)) (hk : k < n) : r_cl G m_Dk_follow m_Fi_turns 3 (.ref (G.2.1 + k) :: [v0, v1]) n h g z := r_clU (x := m_Fi_turns.1) (owner := "RingArm$First") (M0 := m_Fi_turns) d_Dk_follow_3 w_Fi_turns (r_in 495 rfl rfl) (r_in 498 rfl rfl) a_Fi_turns w_Fi_turns rfl a_Fi_turns (r_in 503 rfl rfl) n_Fi ⟨by decide, by decide⟩ (by decide +kernel : r_mh m_Fi_turns.1 2) hp hk (by decide)
theorem d_Dk_follow_6 : decode m_Dk_follow.2.1 6 = .ok (.ifCond .eq 19, 3) := by decide +kernel
theorem d_Dk_follow_9 : decode m_Dk_follow.2.1 9 = .ok (.aload_n 0, 1) := by decide +kernel
theorem d_Dk_follow_10 : decode m_Dk_follow.2.1 10 = .ok (.aload_n 0, 1) := by decide +kernel
theorem d_Dk_follow_11 : decode m_Dk_follow.2.1 11 = .ok (.getfield 31, 3) := by decide +kernel
theorem d_Dk_follow_14 : decode m_Dk_follow.2.1 14 = .ok (.ifCond .ne 7, 3) := by decide +kernel
theorem d_Dk_follow_17 : decode m_Dk_follow.2.1 17 = .ok (.iconst 1, 1) := by decide +kernel
theorem d_Dk_follow_18 : decode m_Dk_follow.2.1 18 = .ok (.goto 4, 3) := by decide +kernel
theorem d_Dk_follow_21 : decode m_Dk_follow.2.1 21 = .ok (.iconst 0, 1) := by decide +kernel
theorem d_Dk_follow_22 : decode m_Dk_follow.2.1 22 = .ok (.putfield 31, 3) := by decide +kernel
theorem d_Dk_follow_25 : decode m_Dk_follow.2.1 25 = .ok (.aload_n 0, 1) := by decide +kernel
theorem d_Dk_follow_26 : decode m_Dk_follow.2.1 26 = .ok (.iload_n 2, 1) := by decide +kernel
theorem d_Dk_follow_27 : decode m_Dk_follow.2.1 27 = .ok (.invokevirtual 66, 3) := by decide +kernel
set_option maxRecDepth 100000 in
theorem s_Dk_follow_27 {G : r_X} {n : Nat} {h : r_HI} {g : r_HR} {z : r_HL} {k : Nat} {v0 : Value} (hp : r_pk k = (0, 0)) (hk : k < n) : r_cl G m_Dk_follow m_Dk_finish 27 (.ref (G.2.1 + k) :: [v0]) n h g z := r_clV d_Dk_follow_27 w_Dk_finish (r_in 508 rfl rfl) a_Dk_finish (r_in 510 rfl rfl) n_Dk (by decide +kernel : r_mh m_Dk_finish.1 1) hp hk (by decide)
theorem d_Dk_follow_30 : decode m_Dk_follow.2.1 30 = .ok (.return_, 1) := by decide +kernel
theorem d_Dk_followAll_0 : decode m_Dk_followAll.2.1 0 = .ok (.iconst 0, 1) := by decide +kernel
theorem d_Dk_followAll_1 : decode m_Dk_followAll.2.1 1 = .ok (.istore_n 2, 1) := by decide +kernel
theorem d_Dk_followAll_2 : decode m_Dk_followAll.2.1 2 = .ok (.iload_n 2, 1) := by decide +kernel
theorem d_Dk_followAll_3 : decode m_Dk_followAll.2.1 3 = .ok (.bipush 7, 2) := by decide +kernel
theorem d_Dk_followAll_5 : decode m_Dk_followAll.2.1 5 = .ok (.if_icmp .ge 26, 3) := by decide +kernel
theorem d_Dk_followAll_8 : decode m_Dk_followAll.2.1 8 = .ok (.aload_n 0, 1) := by decide +kernel
theorem d_Dk_followAll_9 : decode m_Dk_followAll.2.1 9 = .ok (.getfield 21, 3) := by decide +kernel
theorem d_Dk_followAll_12 : decode m_Dk_followAll.2.1 12 = .ok (.ifCond .le 19, 3) := by decide +kernel
theorem d_Dk_followAll_15 : decode m_Dk_followAll.2.1 15 = .ok (.aload_n 0, 1) := by decide +kernel
theorem d_Dk_followAll_16 : decode m_Dk_followAll.2.1 16 = .ok (.aload_n 1, 1) := by decide +kernel
theorem d_Dk_followAll_17 : decode m_Dk_followAll.2.1 17 = .ok (.aload_n 1, 1) := by decide +kernel
theorem d_Dk_followAll_18 : decode m_Dk_followAll.2.1 18 = .ok (.aload_n 0, 1) := by decide +kernel
theorem d_Dk_followAll_19 : decode m_Dk_followAll.2.1 19 = .ok (.invokevirtual 70, 3) := by decide +kernel
set_option maxRecDepth 100000 in
theorem s_Dk_followAll_19_Fi {G : r_X} {n : Nat} {h : r_HI} {g : r_HR} {z : r_HL} {k : Nat} {v0 : Value} (hp : r_pk k = (0, 2)) (hk : k < n) : r_cl G m_Dk_followAll m_Fi_pick 19 (.ref (G.2.1 + k) :: [v0]) n h g z := r_clU (x := m_Fi_pick.1) (owner := "RingArm$First") (M0 := m_Fi_pick) d_Dk_followAll_19 w_Fi_pick (r_in 550 rfl rfl) (r_in 442 rfl rfl) a_Fi_pick w_Fi_pick rfl a_Fi_pick (r_in 441 rfl rfl) n_Fi ⟨by decide, by decide⟩ (by decide +kernel : r_mh m_Fi_pick.1 1) hp hk (by decide)
set_option maxRecDepth 100000 in
theorem s_Dk_followAll_19_Ne {G : r_X} {n : Nat} {h : r_HI} {g : r_HR} {z : r_HL} {k : Nat} {v0 : Value} (hp : r_pk k = (0, 3)) (hk : k < n) : r_cl G m_Dk_followAll m_Fi_pick 19 (.ref (G.2.1 + k) :: [v0]) n h g z := r_clU (x := m_Fi_pick.1) (owner := "RingArm$First") (M0 := m_Fi_pick) d_Dk_followAll_19 w_Fi_pick (r_in 550 rfl rfl) (r_in 442 rfl rfl) a_Fi_pick w_Fi_pick rfl a_Fi_pick (r_in 443 rfl rfl) n_Fi ⟨by decide, by decide⟩ (by decide +kernel : r_mh m_Fi_pick.1 1) hp hk (by decide)
set_option maxRecDepth 100000 in
theorem s_Dk_followAll_19_Sw {G : r_X} {n : Nat} {h : r_HI} {g : r_HR} {z : r_HL} {k : Nat} {v0 : Value} (hp : r_pk k = (0, 9)) (hk : k < n) : r_cl G m_Dk_followAll m_Fi_pick 19 (.ref (G.2.1 + k) :: [v0]) n h g z := r_clU (x := m_Fi_pick.1) (owner := "RingArm$First") (M0 := m_Fi_pick) d_Dk_followAll_19 w_Fi_pick (r_in 550 rfl rfl) (r_in 442 rfl rfl) a_Fi_pick w_Fi_pick rfl a_Fi_pick (r_in 446 rfl rfl) n_Fi ⟨by decide, by decide⟩ (by decide +kernel : r_mh m_Fi_pick.1 1) hp hk (by decide)
set_option maxRecDepth 100000 in
theorem s_Dk_followAll_19_Ro {G : r_X} {n : Nat} {h : r_HI} {g : r_HR} {z : r_HL} {k : Nat} {v0 : Value} (hp : r_pk k = (0, 6)) (hk : k < n) : r_cl G m_Dk_followAll m_Fi_pick 19 (.ref (G.2.1 + k) :: [v0]) n h g z := r_clU (x := m_Fi_pick.1) (owner := "RingArm$First") (M0 := m_Fi_pick) d_Dk_followAll_19 w_Fi_pick (r_in 550 rfl rfl) (r_in 442 rfl rfl) a_Fi_pick w_Fi_pick rfl a_Fi_pick (r_in 444 rfl rfl) n_Fi ⟨by decide, by decide⟩ (by decide +kernel : r_mh m_Fi_pick.1 1) hp hk (by decide)
set_option maxRecDepth 100000 in
theorem s_Dk_followAll_19_So {G : r_X} {n : Nat} {h : r_HI} {g : r_HR} {z : r_HL} {k : Nat} {v0 : Value} (hp : r_pk k = (0, 8)) (hk : k < n) : r_cl G m_Dk_followAll m_Fi_pick 19 (.ref (G.2.1 + k) :: [v0]) n h g z := r_clU (x := m_Fi_pick.1) (owner := "RingArm$First") (M0 := m_Fi_pick) d_Dk_followAll_19 w_Fi_pick (r_in 550 rfl rfl) (r_in 442 rfl rfl) a_Fi_pick w_Fi_pick rfl a_Fi_pick (r_in 445 rfl rfl) n_Fi ⟨by decide, by decide⟩ (by decide +kernel : r_mh m_Fi_pick.1 1) hp hk (by decide)
theorem d_Dk_followAll_22 : decode m_Dk_followAll.2.1 22 = .ok (.invokevirtual 74, 3) := by decide +kernel
set_option maxRecDepth 100000 in
theorem s_Dk_followAll_22 {G : r_X} {n : Nat} {h : r_HI} {g : r_HR} {z : r_HL} {k : Nat} {v0 v1 : Value} (hp : r_pk k = (0, 0)) (hk : k < n) : r_cl G m_Dk_followAll m_Dk_follow 22 (.ref (G.2.1 + k) :: [v0, v1]) n h g z := r_clV d_Dk_followAll_22 w_Dk_follow (r_in 551 rfl rfl) a_Dk_follow (r_in 493 rfl rfl) n_Dk (by decide +kernel : r_mh m_Dk_follow.1 2) hp hk (by decide)
theorem d_Dk_followAll_25 : decode m_Dk_followAll.2.1 25 = .ok (.iinc 2 1, 3) := by decide +kernel
theorem d_Dk_followAll_28 : decode m_Dk_followAll.2.1 28 = .ok (.goto (-26), 3) := by decide +kernel
theorem d_Dk_followAll_31 : decode m_Dk_followAll.2.1 31 = .ok (.return_, 1) := by decide +kernel
theorem d_Dk_finish_0 : decode m_Dk_finish.2.1 0 = .ok (.aload_n 0, 1) := by decide +kernel
theorem d_Dk_finish_1 : decode m_Dk_finish.2.1 1 = .ok (.iload_n 1, 1) := by decide +kernel
theorem d_Dk_finish_2 : decode m_Dk_finish.2.1 2 = .ok (.invokevirtual 78, 3) := by decide +kernel
set_option maxRecDepth 100000 in
theorem s_Dk_finish_2 {G : r_X} {n : Nat} {h : r_HI} {g : r_HR} {z : r_HL} {k : Nat} {v0 : Value} (hp : r_pk k = (0, 0)) (hk : k < n) : r_cl G m_Dk_finish m_Dk_has 2 (.ref (G.2.1 + k) :: [v0]) n h g z := r_clV d_Dk_finish_2 w_Dk_has (r_in 512 rfl rfl) a_Dk_has (r_in 390 rfl rfl) n_Dk (by decide +kernel : r_mh m_Dk_has.1 1) hp hk (by decide)
theorem d_Dk_finish_5 : decode m_Dk_finish.2.1 5 = .ok (.ifCond .ne 4, 3) := by decide +kernel
theorem d_Dk_finish_8 : decode m_Dk_finish.2.1 8 = .ok (.return_, 1) := by decide +kernel
theorem d_Dk_finish_9 : decode m_Dk_finish.2.1 9 = .ok (.aload_n 0, 1) := by decide +kernel
theorem d_Dk_finish_10 : decode m_Dk_finish.2.1 10 = .ok (.getfield 9, 3) := by decide +kernel
theorem d_Dk_finish_13 : decode m_Dk_finish.2.1 13 = .ok (.iload_n 1, 1) := by decide +kernel
theorem d_Dk_finish_14 : decode m_Dk_finish.2.1 14 = .ok (.invokestatic 46, 3) := by decide +kernel
set_option maxRecDepth 100000 in
theorem s_Dk_finish_14 {G : r_X} {n : Nat} {h : r_HI} {g : r_HR} {z : r_HL} {v0 v1 : Value} : r_cl G m_Dk_finish m_Ra_at 14 [v0, v1] n h g z := r_clSN d_Dk_finish_14 w_Ra_at (List.mem_of_getElem? (i := 19) rfl) a_Ra_at n_Ra (by decide +kernel : r_mh m_Ra_at.1 2)
theorem d_Dk_finish_17 : decode m_Dk_finish.2.1 17 = .ok (.istore_n 2, 1) := by decide +kernel
theorem d_Dk_finish_18 : decode m_Dk_finish.2.1 18 = .ok (.aload_n 0, 1) := by decide +kernel
theorem d_Dk_finish_19 : decode m_Dk_finish.2.1 19 = .ok (.aload_n 0, 1) := by decide +kernel
theorem d_Dk_finish_20 : decode m_Dk_finish.2.1 20 = .ok (.getfield 38, 3) := by decide +kernel
theorem d_Dk_finish_23 : decode m_Dk_finish.2.1 23 = .ok (.aload_n 0, 1) := by decide +kernel
theorem d_Dk_finish_24 : decode m_Dk_finish.2.1 24 = .ok (.getfield 25, 3) := by decide +kernel
theorem d_Dk_finish_27 : decode m_Dk_finish.2.1 27 = .ok (.aload_n 0, 1) := by decide +kernel
theorem d_Dk_finish_28 : decode m_Dk_finish.2.1 28 = .ok (.getfield 28, 3) := by decide +kernel
theorem d_Dk_finish_31 : decode m_Dk_finish.2.1 31 = .ok (.iload_n 2, 1) := by decide +kernel
theorem d_Dk_finish_32 : decode m_Dk_finish.2.1 32 = .ok (.aload_n 0, 1) := by decide +kernel
theorem d_Dk_finish_33 : decode m_Dk_finish.2.1 33 = .ok (.getfield 15, 3) := by decide +kernel
theorem d_Dk_finish_36 : decode m_Dk_finish.2.1 36 = .ok (.iload_n 1, 1) := by decide +kernel
theorem d_Dk_finish_37 : decode m_Dk_finish.2.1 37 = .ok (.invokestatic 46, 3) := by decide +kernel
set_option maxRecDepth 100000 in
theorem s_Dk_finish_37 {G : r_X} {n : Nat} {h : r_HI} {g : r_HR} {z : r_HL} {v0 v1 : Value} : r_cl G m_Dk_finish m_Ra_at 37 [v0, v1] n h g z := r_clSN d_Dk_finish_37 w_Ra_at (List.mem_of_getElem? (i := 19) rfl) a_Ra_at n_Ra (by decide +kernel : r_mh m_Ra_at.1 2)
theorem d_Dk_finish_40 : decode m_Dk_finish.2.1 40 = .ok (.invokevirtual 50, 3) := by decide +kernel
set_option maxRecDepth 100000 in
theorem s_Dk_finish_40 {G : r_X} {n : Nat} {h : r_HI} {g : r_HR} {z : r_HL} {k : Nat} {v0 v1 v2 v3 : Value} (hp : r_pk k = (0, 1)) (hk : k < n) : r_cl G m_Dk_finish m_Di_doneAt 40 (.ref (G.2.1 + k) :: [v0, v1, v2, v3]) n h g z := r_clV d_Dk_finish_40 w_Di_doneAt (r_in 396 rfl rfl) a_Di_doneAt (r_in 398 rfl rfl) n_Di (by decide +kernel : r_mh m_Di_doneAt.1 4) hp hk (by decide)
theorem d_Dk_finish_43 : decode m_Dk_finish.2.1 43 = .ok (.putfield 25, 3) := by decide +kernel
theorem d_Dk_finish_46 : decode m_Dk_finish.2.1 46 = .ok (.aload_n 0, 1) := by decide +kernel
theorem d_Dk_finish_47 : decode m_Dk_finish.2.1 47 = .ok (.iload_n 2, 1) := by decide +kernel
theorem d_Dk_finish_48 : decode m_Dk_finish.2.1 48 = .ok (.putfield 28, 3) := by decide +kernel
theorem d_Dk_finish_51 : decode m_Dk_finish.2.1 51 = .ok (.aload_n 0, 1) := by decide +kernel
theorem d_Dk_finish_52 : decode m_Dk_finish.2.1 52 = .ok (.dup, 1) := by decide +kernel
theorem d_Dk_finish_53 : decode m_Dk_finish.2.1 53 = .ok (.getfield 35, 3) := by decide +kernel
theorem d_Dk_finish_56 : decode m_Dk_finish.2.1 56 = .ok (.aload_n 0, 1) := by decide +kernel
theorem d_Dk_finish_57 : decode m_Dk_finish.2.1 57 = .ok (.getfield 25, 3) := by decide +kernel
theorem d_Dk_finish_60 : decode m_Dk_finish.2.1 60 = .ok (.aload_n 0, 1) := by decide +kernel
theorem d_Dk_finish_61 : decode m_Dk_finish.2.1 61 = .ok (.getfield 18, 3) := by decide +kernel
theorem d_Dk_finish_64 : decode m_Dk_finish.2.1 64 = .ok (.iload_n 1, 1) := by decide +kernel
theorem d_Dk_finish_65 : decode m_Dk_finish.2.1 65 = .ok (.invokestatic 46, 3) := by decide +kernel
set_option maxRecDepth 100000 in
theorem s_Dk_finish_65 {G : r_X} {n : Nat} {h : r_HI} {g : r_HR} {z : r_HL} {v0 v1 : Value} : r_cl G m_Dk_finish m_Ra_at 65 [v0, v1] n h g z := r_clSN d_Dk_finish_65 w_Ra_at (List.mem_of_getElem? (i := 19) rfl) a_Ra_at n_Ra (by decide +kernel : r_mh m_Ra_at.1 2)
theorem d_Dk_finish_68 : decode m_Dk_finish.2.1 68 = .ok (.isub, 1) := by decide +kernel
theorem d_Dk_finish_69 : decode m_Dk_finish.2.1 69 = .ok (.iadd, 1) := by decide +kernel
theorem d_Dk_finish_70 : decode m_Dk_finish.2.1 70 = .ok (.putfield 35, 3) := by decide +kernel
theorem d_Dk_finish_73 : decode m_Dk_finish.2.1 73 = .ok (.aload_n 0, 1) := by decide +kernel
theorem d_Dk_finish_74 : decode m_Dk_finish.2.1 74 = .ok (.dup, 1) := by decide +kernel
theorem d_Dk_finish_75 : decode m_Dk_finish.2.1 75 = .ok (.getfield 21, 3) := by decide +kernel
theorem d_Dk_finish_78 : decode m_Dk_finish.2.1 78 = .ok (.iconst 1, 1) := by decide +kernel
theorem d_Dk_finish_79 : decode m_Dk_finish.2.1 79 = .ok (.isub, 1) := by decide +kernel
theorem d_Dk_finish_80 : decode m_Dk_finish.2.1 80 = .ok (.putfield 21, 3) := by decide +kernel
theorem d_Dk_finish_83 : decode m_Dk_finish.2.1 83 = .ok (.iload_n 1, 1) := by decide +kernel
theorem d_Dk_finish_84 : decode m_Dk_finish.2.1 84 = .ok (.istore_n 3, 1) := by decide +kernel
theorem d_Dk_finish_85 : decode m_Dk_finish.2.1 85 = .ok (.iload_n 3, 1) := by decide +kernel
theorem d_Dk_finish_86 : decode m_Dk_finish.2.1 86 = .ok (.aload_n 0, 1) := by decide +kernel
theorem d_Dk_finish_87 : decode m_Dk_finish.2.1 87 = .ok (.getfield 21, 3) := by decide +kernel
theorem d_Dk_finish_90 : decode m_Dk_finish.2.1 90 = .ok (.if_icmp .ge 69, 3) := by decide +kernel
theorem d_Dk_finish_93 : decode m_Dk_finish.2.1 93 = .ok (.iload_n 3, 1) := by decide +kernel
theorem d_Dk_finish_94 : decode m_Dk_finish.2.1 94 = .ok (.bipush 7, 2) := by decide +kernel
theorem d_Dk_finish_96 : decode m_Dk_finish.2.1 96 = .ok (.if_icmp .ge 63, 3) := by decide +kernel
theorem d_Dk_finish_99 : decode m_Dk_finish.2.1 99 = .ok (.aload_n 0, 1) := by decide +kernel
theorem d_Dk_finish_100 : decode m_Dk_finish.2.1 100 = .ok (.getfield 9, 3) := by decide +kernel
theorem d_Dk_finish_103 : decode m_Dk_finish.2.1 103 = .ok (.iload_n 3, 1) := by decide +kernel
theorem d_Dk_finish_104 : decode m_Dk_finish.2.1 104 = .ok (.aload_n 0, 1) := by decide +kernel
theorem d_Dk_finish_105 : decode m_Dk_finish.2.1 105 = .ok (.getfield 9, 3) := by decide +kernel
theorem d_Dk_finish_108 : decode m_Dk_finish.2.1 108 = .ok (.iload_n 3, 1) := by decide +kernel
theorem d_Dk_finish_109 : decode m_Dk_finish.2.1 109 = .ok (.iconst 1, 1) := by decide +kernel
theorem d_Dk_finish_110 : decode m_Dk_finish.2.1 110 = .ok (.iadd, 1) := by decide +kernel
theorem d_Dk_finish_111 : decode m_Dk_finish.2.1 111 = .ok (.invokestatic 46, 3) := by decide +kernel
set_option maxRecDepth 100000 in
theorem s_Dk_finish_111 {G : r_X} {n : Nat} {h : r_HI} {g : r_HR} {z : r_HL} {v0 v1 : Value} : r_cl G m_Dk_finish m_Ra_at 111 [v0, v1] n h g z := r_clSN d_Dk_finish_111 w_Ra_at (List.mem_of_getElem? (i := 19) rfl) a_Ra_at n_Ra (by decide +kernel : r_mh m_Ra_at.1 2)
theorem d_Dk_finish_114 : decode m_Dk_finish.2.1 114 = .ok (.invokestatic 56, 3) := by decide +kernel
set_option maxRecDepth 100000 in
theorem s_Dk_finish_114 {G : r_X} {n : Nat} {h : r_HI} {g : r_HR} {z : r_HL} {v0 v1 v2 : Value} : r_cl G m_Dk_finish m_Ra_put 114 [v0, v1, v2] n h g z := r_clSN d_Dk_finish_114 w_Ra_put (List.mem_of_getElem? (i := 24) rfl) a_Ra_put n_Ra (by decide +kernel : r_mh m_Ra_put.1 3)
theorem d_Dk_finish_117 : decode m_Dk_finish.2.1 117 = .ok (.aload_n 0, 1) := by decide +kernel
theorem d_Dk_finish_118 : decode m_Dk_finish.2.1 118 = .ok (.getfield 15, 3) := by decide +kernel
theorem d_Dk_finish_121 : decode m_Dk_finish.2.1 121 = .ok (.iload_n 3, 1) := by decide +kernel
theorem d_Dk_finish_122 : decode m_Dk_finish.2.1 122 = .ok (.aload_n 0, 1) := by decide +kernel
theorem d_Dk_finish_123 : decode m_Dk_finish.2.1 123 = .ok (.getfield 15, 3) := by decide +kernel
theorem d_Dk_finish_126 : decode m_Dk_finish.2.1 126 = .ok (.iload_n 3, 1) := by decide +kernel
theorem d_Dk_finish_127 : decode m_Dk_finish.2.1 127 = .ok (.iconst 1, 1) := by decide +kernel
theorem d_Dk_finish_128 : decode m_Dk_finish.2.1 128 = .ok (.iadd, 1) := by decide +kernel
theorem d_Dk_finish_129 : decode m_Dk_finish.2.1 129 = .ok (.invokestatic 46, 3) := by decide +kernel
set_option maxRecDepth 100000 in
theorem s_Dk_finish_129 {G : r_X} {n : Nat} {h : r_HI} {g : r_HR} {z : r_HL} {v0 v1 : Value} : r_cl G m_Dk_finish m_Ra_at 129 [v0, v1] n h g z := r_clSN d_Dk_finish_129 w_Ra_at (List.mem_of_getElem? (i := 19) rfl) a_Ra_at n_Ra (by decide +kernel : r_mh m_Ra_at.1 2)
theorem d_Dk_finish_132 : decode m_Dk_finish.2.1 132 = .ok (.invokestatic 56, 3) := by decide +kernel
set_option maxRecDepth 100000 in
theorem s_Dk_finish_132 {G : r_X} {n : Nat} {h : r_HI} {g : r_HR} {z : r_HL} {v0 v1 v2 : Value} : r_cl G m_Dk_finish m_Ra_put 132 [v0, v1, v2] n h g z := r_clSN d_Dk_finish_132 w_Ra_put (List.mem_of_getElem? (i := 24) rfl) a_Ra_put n_Ra (by decide +kernel : r_mh m_Ra_put.1 3)
theorem d_Dk_finish_135 : decode m_Dk_finish.2.1 135 = .ok (.aload_n 0, 1) := by decide +kernel
theorem d_Dk_finish_136 : decode m_Dk_finish.2.1 136 = .ok (.getfield 18, 3) := by decide +kernel
theorem d_Dk_finish_139 : decode m_Dk_finish.2.1 139 = .ok (.iload_n 3, 1) := by decide +kernel
theorem d_Dk_finish_140 : decode m_Dk_finish.2.1 140 = .ok (.aload_n 0, 1) := by decide +kernel
theorem d_Dk_finish_141 : decode m_Dk_finish.2.1 141 = .ok (.getfield 18, 3) := by decide +kernel
theorem d_Dk_finish_144 : decode m_Dk_finish.2.1 144 = .ok (.iload_n 3, 1) := by decide +kernel
theorem d_Dk_finish_145 : decode m_Dk_finish.2.1 145 = .ok (.iconst 1, 1) := by decide +kernel
theorem d_Dk_finish_146 : decode m_Dk_finish.2.1 146 = .ok (.iadd, 1) := by decide +kernel
theorem d_Dk_finish_147 : decode m_Dk_finish.2.1 147 = .ok (.invokestatic 46, 3) := by decide +kernel
set_option maxRecDepth 100000 in
theorem s_Dk_finish_147 {G : r_X} {n : Nat} {h : r_HI} {g : r_HR} {z : r_HL} {v0 v1 : Value} : r_cl G m_Dk_finish m_Ra_at 147 [v0, v1] n h g z := r_clSN d_Dk_finish_147 w_Ra_at (List.mem_of_getElem? (i := 19) rfl) a_Ra_at n_Ra (by decide +kernel : r_mh m_Ra_at.1 2)
theorem d_Dk_finish_150 : decode m_Dk_finish.2.1 150 = .ok (.invokestatic 56, 3) := by decide +kernel
set_option maxRecDepth 100000 in
theorem s_Dk_finish_150 {G : r_X} {n : Nat} {h : r_HI} {g : r_HR} {z : r_HL} {v0 v1 v2 : Value} : r_cl G m_Dk_finish m_Ra_put 150 [v0, v1, v2] n h g z := r_clSN d_Dk_finish_150 w_Ra_put (List.mem_of_getElem? (i := 24) rfl) a_Ra_put n_Ra (by decide +kernel : r_mh m_Ra_put.1 3)
theorem d_Dk_finish_153 : decode m_Dk_finish.2.1 153 = .ok (.iinc 3 1, 3) := by decide +kernel
theorem d_Dk_finish_156 : decode m_Dk_finish.2.1 156 = .ok (.goto (-71), 3) := by decide +kernel
theorem d_Dk_finish_159 : decode m_Dk_finish.2.1 159 = .ok (.return_, 1) := by decide +kernel
theorem d_Di_init_0 : decode m_Di_init.2.1 0 = .ok (.aload_n 0, 1) := by decide +kernel
theorem d_Di_init_1 : decode m_Di_init.2.1 1 = .ok (.invokespecial 3, 3) := by decide +kernel
set_option maxRecDepth 100000 in
theorem s_Di_init_1 : Cond.methodLink m_Di_init.1.cls 3 Lib.objectInit ∈ r_wg := r_in 45 rfl rfl
theorem d_Di_init_4 : decode m_Di_init.2.1 4 = .ok (.aload_n 0, 1) := by decide +kernel
theorem d_Di_init_5 : decode m_Di_init.2.1 5 = .ok (.bipush 10, 2) := by decide +kernel
theorem d_Di_init_7 : decode m_Di_init.2.1 7 = .ok (.newarray .int, 2) := by decide +kernel
theorem d_Di_init_9 : decode m_Di_init.2.1 9 = .ok (.putfield 9, 3) := by decide +kernel
theorem d_Di_init_12 : decode m_Di_init.2.1 12 = .ok (.aload_n 0, 1) := by decide +kernel
theorem d_Di_init_13 : decode m_Di_init.2.1 13 = .ok (.bipush 10, 2) := by decide +kernel
theorem d_Di_init_15 : decode m_Di_init.2.1 15 = .ok (.newarray .int, 2) := by decide +kernel
theorem d_Di_init_17 : decode m_Di_init.2.1 17 = .ok (.putfield 15, 3) := by decide +kernel
theorem d_Di_init_20 : decode m_Di_init.2.1 20 = .ok (.aload_n 0, 1) := by decide +kernel
theorem d_Di_init_21 : decode m_Di_init.2.1 21 = .ok (.bipush 10, 2) := by decide +kernel
theorem d_Di_init_23 : decode m_Di_init.2.1 23 = .ok (.newarray .int, 2) := by decide +kernel
theorem d_Di_init_25 : decode m_Di_init.2.1 25 = .ok (.putfield 18, 3) := by decide +kernel
theorem d_Di_init_28 : decode m_Di_init.2.1 28 = .ok (.aload_n 0, 1) := by decide +kernel
theorem d_Di_init_29 : decode m_Di_init.2.1 29 = .ok (.iconst 0, 1) := by decide +kernel
theorem d_Di_init_30 : decode m_Di_init.2.1 30 = .ok (.putfield 21, 3) := by decide +kernel
theorem d_Di_init_33 : decode m_Di_init.2.1 33 = .ok (.aload_n 0, 1) := by decide +kernel
theorem d_Di_init_34 : decode m_Di_init.2.1 34 = .ok (.iconst 0, 1) := by decide +kernel
theorem d_Di_init_35 : decode m_Di_init.2.1 35 = .ok (.putfield 25, 3) := by decide +kernel
theorem d_Di_init_38 : decode m_Di_init.2.1 38 = .ok (.aload_n 0, 1) := by decide +kernel
theorem d_Di_init_39 : decode m_Di_init.2.1 39 = .ok (.iconst 0, 1) := by decide +kernel
theorem d_Di_init_40 : decode m_Di_init.2.1 40 = .ok (.putfield 28, 3) := by decide +kernel
theorem d_Di_init_43 : decode m_Di_init.2.1 43 = .ok (.return_, 1) := by decide +kernel
theorem d_Di_readFrom_0 : decode m_Di_readFrom.2.1 0 = .ok (.aload_n 1, 1) := by decide +kernel
theorem d_Di_readFrom_1 : decode m_Di_readFrom.2.1 1 = .ok (.invokevirtual 31, 3) := by decide +kernel
set_option maxRecDepth 100000 in
theorem s_Di_readFrom_1 {G : r_X} {n : Nat} {h : r_HI} {g : r_HR} {z : r_HL} {k : Nat} (hp : r_pk k = (0, 5)) (hk : k < n) : r_cl G m_Di_readFrom m_Pa_ringsEnd 1 (.ref (G.2.1 + k) :: []) n h g z := r_clV d_Di_readFrom_1 w_Pa_ringsEnd (r_in 346 rfl rfl) a_Pa_ringsEnd (r_in 332 rfl rfl) n_Pa (by decide +kernel : r_mh m_Pa_ringsEnd.1 0) hp hk (by decide)
theorem d_Di_readFrom_4 : decode m_Di_readFrom.2.1 4 = .ok (.istore_n 2, 1) := by decide +kernel
theorem d_Di_readFrom_5 : decode m_Di_readFrom.2.1 5 = .ok (.aload_n 0, 1) := by decide +kernel
theorem d_Di_readFrom_6 : decode m_Di_readFrom.2.1 6 = .ok (.iload_n 2, 1) := by decide +kernel
theorem d_Di_readFrom_7 : decode m_Di_readFrom.2.1 7 = .ok (.iconst 2, 1) := by decide +kernel
theorem d_Di_readFrom_8 : decode m_Di_readFrom.2.1 8 = .ok (.idiv, 1) := by decide +kernel
theorem d_Di_readFrom_9 : decode m_Di_readFrom.2.1 9 = .ok (.bipush 10, 2) := by decide +kernel
theorem d_Di_readFrom_11 : decode m_Di_readFrom.2.1 11 = .ok (.invokestatic 37, 3) := by decide +kernel
set_option maxRecDepth 100000 in
theorem s_Di_readFrom_11 {G : r_X} {n : Nat} {h : r_HI} {g : r_HR} {z : r_HL} {v0 v1 : Value} : r_cl G m_Di_readFrom m_Jm_min 11 [v0, v1] n h g z := r_clS d_Di_readFrom_11 w_Jm_min (r_in 347 rfl rfl) a_Jm_min n_Jm (by decide +kernel : r_mh m_Jm_min.1 2)
theorem d_Di_readFrom_14 : decode m_Di_readFrom.2.1 14 = .ok (.putfield 21, 3) := by decide +kernel
theorem d_Di_readFrom_17 : decode m_Di_readFrom.2.1 17 = .ok (.iconst 0, 1) := by decide +kernel
theorem d_Di_readFrom_18 : decode m_Di_readFrom.2.1 18 = .ok (.istore_n 3, 1) := by decide +kernel
theorem d_Di_readFrom_19 : decode m_Di_readFrom.2.1 19 = .ok (.iload_n 3, 1) := by decide +kernel
theorem d_Di_readFrom_20 : decode m_Di_readFrom.2.1 20 = .ok (.aload_n 0, 1) := by decide +kernel
theorem d_Di_readFrom_21 : decode m_Di_readFrom.2.1 21 = .ok (.getfield 21, 3) := by decide +kernel
theorem d_Di_readFrom_24 : decode m_Di_readFrom.2.1 24 = .ok (.if_icmp .ge 86, 3) := by decide +kernel
theorem d_Di_readFrom_27 : decode m_Di_readFrom.2.1 27 = .ok (.iload_n 3, 1) := by decide +kernel
theorem d_Di_readFrom_28 : decode m_Di_readFrom.2.1 28 = .ok (.bipush 10, 2) := by decide +kernel
theorem d_Di_readFrom_30 : decode m_Di_readFrom.2.1 30 = .ok (.if_icmp .ge 80, 3) := by decide +kernel
theorem d_Di_readFrom_33 : decode m_Di_readFrom.2.1 33 = .ok (.aload_n 1, 1) := by decide +kernel
theorem d_Di_readFrom_34 : decode m_Di_readFrom.2.1 34 = .ok (.getfield 43, 3) := by decide +kernel
theorem d_Di_readFrom_37 : decode m_Di_readFrom.2.1 37 = .ok (.iconst 2, 1) := by decide +kernel
theorem d_Di_readFrom_38 : decode m_Di_readFrom.2.1 38 = .ok (.iload_n 3, 1) := by decide +kernel
theorem d_Di_readFrom_39 : decode m_Di_readFrom.2.1 39 = .ok (.imul, 1) := by decide +kernel
theorem d_Di_readFrom_40 : decode m_Di_readFrom.2.1 40 = .ok (.invokestatic 46, 3) := by decide +kernel
set_option maxRecDepth 100000 in
theorem s_Di_readFrom_40 {G : r_X} {n : Nat} {h : r_HI} {g : r_HR} {z : r_HL} {v0 v1 : Value} : r_cl G m_Di_readFrom m_Ra_at 40 [v0, v1] n h g z := r_clSN d_Di_readFrom_40 w_Ra_at (List.mem_of_getElem? (i := 16) rfl) a_Ra_at n_Ra (by decide +kernel : r_mh m_Ra_at.1 2)
theorem d_Di_readFrom_43 : decode m_Di_readFrom.2.1 43 = .ok (.invokestatic 50, 3) := by decide +kernel
set_option maxRecDepth 100000 in
theorem s_Di_readFrom_43 {G : r_X} {n : Nat} {h : r_HI} {g : r_HR} {z : r_HL} {v0 : Value} : r_cl G m_Di_readFrom m_Pa_placesOf 43 [v0] n h g z := r_clS d_Di_readFrom_43 w_Pa_placesOf (r_in 351 rfl rfl) a_Pa_placesOf n_Pa (by decide +kernel : r_mh m_Pa_placesOf.1 1)
theorem d_Di_readFrom_46 : decode m_Di_readFrom.2.1 46 = .ok (.istore 4, 2) := by decide +kernel
theorem d_Di_readFrom_48 : decode m_Di_readFrom.2.1 48 = .ok (.aload_n 0, 1) := by decide +kernel
theorem d_Di_readFrom_49 : decode m_Di_readFrom.2.1 49 = .ok (.getfield 9, 3) := by decide +kernel
theorem d_Di_readFrom_52 : decode m_Di_readFrom.2.1 52 = .ok (.iload_n 3, 1) := by decide +kernel
theorem d_Di_readFrom_53 : decode m_Di_readFrom.2.1 53 = .ok (.iload 4, 2) := by decide +kernel
theorem d_Di_readFrom_55 : decode m_Di_readFrom.2.1 55 = .ok (.invokestatic 54, 3) := by decide +kernel
set_option maxRecDepth 100000 in
theorem s_Di_readFrom_55 {G : r_X} {n : Nat} {h : r_HI} {g : r_HR} {z : r_HL} {v0 v1 v2 : Value} : r_cl G m_Di_readFrom m_Ra_put 55 [v0, v1, v2] n h g z := r_clSN d_Di_readFrom_55 w_Ra_put (List.mem_of_getElem? (i := 17) rfl) a_Ra_put n_Ra (by decide +kernel : r_mh m_Ra_put.1 3)
theorem d_Di_readFrom_58 : decode m_Di_readFrom.2.1 58 = .ok (.aload_n 0, 1) := by decide +kernel
theorem d_Di_readFrom_59 : decode m_Di_readFrom.2.1 59 = .ok (.getfield 18, 3) := by decide +kernel
theorem d_Di_readFrom_62 : decode m_Di_readFrom.2.1 62 = .ok (.iload_n 3, 1) := by decide +kernel
theorem d_Di_readFrom_63 : decode m_Di_readFrom.2.1 63 = .ok (.iload 4, 2) := by decide +kernel
theorem d_Di_readFrom_65 : decode m_Di_readFrom.2.1 65 = .ok (.ifCond .le 11, 3) := by decide +kernel
theorem d_Di_readFrom_68 : decode m_Di_readFrom.2.1 68 = .ok (.bipush 24, 2) := by decide +kernel
theorem d_Di_readFrom_70 : decode m_Di_readFrom.2.1 70 = .ok (.iload 4, 2) := by decide +kernel
theorem d_Di_readFrom_72 : decode m_Di_readFrom.2.1 72 = .ok (.idiv, 1) := by decide +kernel
theorem d_Di_readFrom_73 : decode m_Di_readFrom.2.1 73 = .ok (.goto 5, 3) := by decide +kernel
theorem d_Di_readFrom_76 : decode m_Di_readFrom.2.1 76 = .ok (.bipush 24, 2) := by decide +kernel
theorem d_Di_readFrom_78 : decode m_Di_readFrom.2.1 78 = .ok (.invokestatic 54, 3) := by decide +kernel
set_option maxRecDepth 100000 in
theorem s_Di_readFrom_78 {G : r_X} {n : Nat} {h : r_HI} {g : r_HR} {z : r_HL} {v0 v1 v2 : Value} : r_cl G m_Di_readFrom m_Ra_put 78 [v0, v1, v2] n h g z := r_clSN d_Di_readFrom_78 w_Ra_put (List.mem_of_getElem? (i := 17) rfl) a_Ra_put n_Ra (by decide +kernel : r_mh m_Ra_put.1 3)
theorem d_Di_readFrom_81 : decode m_Di_readFrom.2.1 81 = .ok (.aload_n 0, 1) := by decide +kernel
theorem d_Di_readFrom_82 : decode m_Di_readFrom.2.1 82 = .ok (.getfield 15, 3) := by decide +kernel
theorem d_Di_readFrom_85 : decode m_Di_readFrom.2.1 85 = .ok (.iload_n 3, 1) := by decide +kernel
theorem d_Di_readFrom_86 : decode m_Di_readFrom.2.1 86 = .ok (.aload_n 1, 1) := by decide +kernel
theorem d_Di_readFrom_87 : decode m_Di_readFrom.2.1 87 = .ok (.getfield 43, 3) := by decide +kernel
theorem d_Di_readFrom_90 : decode m_Di_readFrom.2.1 90 = .ok (.iconst 2, 1) := by decide +kernel
theorem d_Di_readFrom_91 : decode m_Di_readFrom.2.1 91 = .ok (.iload_n 3, 1) := by decide +kernel
theorem d_Di_readFrom_92 : decode m_Di_readFrom.2.1 92 = .ok (.imul, 1) := by decide +kernel
theorem d_Di_readFrom_93 : decode m_Di_readFrom.2.1 93 = .ok (.iconst 1, 1) := by decide +kernel
theorem d_Di_readFrom_94 : decode m_Di_readFrom.2.1 94 = .ok (.iadd, 1) := by decide +kernel
theorem d_Di_readFrom_95 : decode m_Di_readFrom.2.1 95 = .ok (.invokestatic 46, 3) := by decide +kernel
set_option maxRecDepth 100000 in
theorem s_Di_readFrom_95 {G : r_X} {n : Nat} {h : r_HI} {g : r_HR} {z : r_HL} {v0 v1 : Value} : r_cl G m_Di_readFrom m_Ra_at 95 [v0, v1] n h g z := r_clSN d_Di_readFrom_95 w_Ra_at (List.mem_of_getElem? (i := 16) rfl) a_Ra_at n_Ra (by decide +kernel : r_mh m_Ra_at.1 2)
theorem d_Di_readFrom_98 : decode m_Di_readFrom.2.1 98 = .ok (.bipush 97, 2) := by decide +kernel
theorem d_Di_readFrom_100 : decode m_Di_readFrom.2.1 100 = .ok (.isub, 1) := by decide +kernel
theorem d_Di_readFrom_101 : decode m_Di_readFrom.2.1 101 = .ok (.invokestatic 54, 3) := by decide +kernel
set_option maxRecDepth 100000 in
theorem s_Di_readFrom_101 {G : r_X} {n : Nat} {h : r_HI} {g : r_HR} {z : r_HL} {v0 v1 v2 : Value} : r_cl G m_Di_readFrom m_Ra_put 101 [v0, v1, v2] n h g z := r_clSN d_Di_readFrom_101 w_Ra_put (List.mem_of_getElem? (i := 17) rfl) a_Ra_put n_Ra (by decide +kernel : r_mh m_Ra_put.1 3)
theorem d_Di_readFrom_104 : decode m_Di_readFrom.2.1 104 = .ok (.iinc 3 1, 3) := by decide +kernel
theorem d_Di_readFrom_107 : decode m_Di_readFrom.2.1 107 = .ok (.goto (-88), 3) := by decide +kernel
theorem d_Di_readFrom_110 : decode m_Di_readFrom.2.1 110 = .ok (.aload_n 0, 1) := by decide +kernel
theorem d_Di_readFrom_111 : decode m_Di_readFrom.2.1 111 = .ok (.aload_n 1, 1) := by decide +kernel
theorem d_Di_readFrom_112 : decode m_Di_readFrom.2.1 112 = .ok (.getfield 43, 3) := by decide +kernel
theorem d_Di_readFrom_115 : decode m_Di_readFrom.2.1 115 = .ok (.iload_n 2, 1) := by decide +kernel
theorem d_Di_readFrom_116 : decode m_Di_readFrom.2.1 116 = .ok (.iconst 1, 1) := by decide +kernel
theorem d_Di_readFrom_117 : decode m_Di_readFrom.2.1 117 = .ok (.iadd, 1) := by decide +kernel
theorem d_Di_readFrom_118 : decode m_Di_readFrom.2.1 118 = .ok (.invokestatic 46, 3) := by decide +kernel
set_option maxRecDepth 100000 in
theorem s_Di_readFrom_118 {G : r_X} {n : Nat} {h : r_HI} {g : r_HR} {z : r_HL} {v0 v1 : Value} : r_cl G m_Di_readFrom m_Ra_at 118 [v0, v1] n h g z := r_clSN d_Di_readFrom_118 w_Ra_at (List.mem_of_getElem? (i := 16) rfl) a_Ra_at n_Ra (by decide +kernel : r_mh m_Ra_at.1 2)
theorem d_Di_readFrom_121 : decode m_Di_readFrom.2.1 121 = .ok (.bipush 48, 2) := by decide +kernel
theorem d_Di_readFrom_123 : decode m_Di_readFrom.2.1 123 = .ok (.isub, 1) := by decide +kernel
theorem d_Di_readFrom_124 : decode m_Di_readFrom.2.1 124 = .ok (.putfield 25, 3) := by decide +kernel
theorem d_Di_readFrom_127 : decode m_Di_readFrom.2.1 127 = .ok (.aload_n 0, 1) := by decide +kernel
theorem d_Di_readFrom_128 : decode m_Di_readFrom.2.1 128 = .ok (.aload_n 1, 1) := by decide +kernel
theorem d_Di_readFrom_129 : decode m_Di_readFrom.2.1 129 = .ok (.getfield 43, 3) := by decide +kernel
theorem d_Di_readFrom_132 : decode m_Di_readFrom.2.1 132 = .ok (.iload_n 2, 1) := by decide +kernel
theorem d_Di_readFrom_133 : decode m_Di_readFrom.2.1 133 = .ok (.iconst 2, 1) := by decide +kernel
theorem d_Di_readFrom_134 : decode m_Di_readFrom.2.1 134 = .ok (.iadd, 1) := by decide +kernel
theorem d_Di_readFrom_135 : decode m_Di_readFrom.2.1 135 = .ok (.invokestatic 46, 3) := by decide +kernel
set_option maxRecDepth 100000 in
theorem s_Di_readFrom_135 {G : r_X} {n : Nat} {h : r_HI} {g : r_HR} {z : r_HL} {v0 v1 : Value} : r_cl G m_Di_readFrom m_Ra_at 135 [v0, v1] n h g z := r_clSN d_Di_readFrom_135 w_Ra_at (List.mem_of_getElem? (i := 16) rfl) a_Ra_at n_Ra (by decide +kernel : r_mh m_Ra_at.1 2)
theorem d_Di_readFrom_138 : decode m_Di_readFrom.2.1 138 = .ok (.bipush 48, 2) := by decide +kernel
theorem d_Di_readFrom_140 : decode m_Di_readFrom.2.1 140 = .ok (.isub, 1) := by decide +kernel
theorem d_Di_readFrom_141 : decode m_Di_readFrom.2.1 141 = .ok (.putfield 28, 3) := by decide +kernel
theorem d_Di_readFrom_144 : decode m_Di_readFrom.2.1 144 = .ok (.return_, 1) := by decide +kernel
theorem d_Di_copyFrom_0 : decode m_Di_copyFrom.2.1 0 = .ok (.aload_n 1, 1) := by decide +kernel
theorem d_Di_copyFrom_1 : decode m_Di_copyFrom.2.1 1 = .ok (.getfield 9, 3) := by decide +kernel
theorem d_Di_copyFrom_4 : decode m_Di_copyFrom.2.1 4 = .ok (.aload_n 0, 1) := by decide +kernel
theorem d_Di_copyFrom_5 : decode m_Di_copyFrom.2.1 5 = .ok (.getfield 9, 3) := by decide +kernel
theorem d_Di_copyFrom_8 : decode m_Di_copyFrom.2.1 8 = .ok (.invokestatic 58, 3) := by decide +kernel
set_option maxRecDepth 100000 in
theorem s_Di_copyFrom_8 {G : r_X} {n : Nat} {h : r_HI} {g : r_HR} {z : r_HL} {v0 v1 : Value} : r_cl G m_Di_copyFrom m_Ra_copyRow 8 [v0, v1] n h g z := r_clSN d_Di_copyFrom_8 w_Ra_copyRow (List.mem_of_getElem? (i := 35) rfl) a_Ra_copyRow n_Ra (by decide +kernel : r_mh m_Ra_copyRow.1 2)
theorem d_Di_copyFrom_11 : decode m_Di_copyFrom.2.1 11 = .ok (.aload_n 1, 1) := by decide +kernel
theorem d_Di_copyFrom_12 : decode m_Di_copyFrom.2.1 12 = .ok (.getfield 15, 3) := by decide +kernel
theorem d_Di_copyFrom_15 : decode m_Di_copyFrom.2.1 15 = .ok (.aload_n 0, 1) := by decide +kernel
theorem d_Di_copyFrom_16 : decode m_Di_copyFrom.2.1 16 = .ok (.getfield 15, 3) := by decide +kernel
theorem d_Di_copyFrom_19 : decode m_Di_copyFrom.2.1 19 = .ok (.invokestatic 58, 3) := by decide +kernel
set_option maxRecDepth 100000 in
theorem s_Di_copyFrom_19 {G : r_X} {n : Nat} {h : r_HI} {g : r_HR} {z : r_HL} {v0 v1 : Value} : r_cl G m_Di_copyFrom m_Ra_copyRow 19 [v0, v1] n h g z := r_clSN d_Di_copyFrom_19 w_Ra_copyRow (List.mem_of_getElem? (i := 35) rfl) a_Ra_copyRow n_Ra (by decide +kernel : r_mh m_Ra_copyRow.1 2)
theorem d_Di_copyFrom_22 : decode m_Di_copyFrom.2.1 22 = .ok (.aload_n 1, 1) := by decide +kernel
theorem d_Di_copyFrom_23 : decode m_Di_copyFrom.2.1 23 = .ok (.getfield 18, 3) := by decide +kernel
theorem d_Di_copyFrom_26 : decode m_Di_copyFrom.2.1 26 = .ok (.aload_n 0, 1) := by decide +kernel
theorem d_Di_copyFrom_27 : decode m_Di_copyFrom.2.1 27 = .ok (.getfield 18, 3) := by decide +kernel
theorem d_Di_copyFrom_30 : decode m_Di_copyFrom.2.1 30 = .ok (.invokestatic 58, 3) := by decide +kernel
set_option maxRecDepth 100000 in
theorem s_Di_copyFrom_30 {G : r_X} {n : Nat} {h : r_HI} {g : r_HR} {z : r_HL} {v0 v1 : Value} : r_cl G m_Di_copyFrom m_Ra_copyRow 30 [v0, v1] n h g z := r_clSN d_Di_copyFrom_30 w_Ra_copyRow (List.mem_of_getElem? (i := 35) rfl) a_Ra_copyRow n_Ra (by decide +kernel : r_mh m_Ra_copyRow.1 2)
theorem d_Di_copyFrom_33 : decode m_Di_copyFrom.2.1 33 = .ok (.aload_n 0, 1) := by decide +kernel
theorem d_Di_copyFrom_34 : decode m_Di_copyFrom.2.1 34 = .ok (.aload_n 1, 1) := by decide +kernel
theorem d_Di_copyFrom_35 : decode m_Di_copyFrom.2.1 35 = .ok (.getfield 21, 3) := by decide +kernel
theorem d_Di_copyFrom_38 : decode m_Di_copyFrom.2.1 38 = .ok (.putfield 21, 3) := by decide +kernel
theorem d_Di_copyFrom_41 : decode m_Di_copyFrom.2.1 41 = .ok (.aload_n 0, 1) := by decide +kernel
theorem d_Di_copyFrom_42 : decode m_Di_copyFrom.2.1 42 = .ok (.aload_n 1, 1) := by decide +kernel
theorem d_Di_copyFrom_43 : decode m_Di_copyFrom.2.1 43 = .ok (.getfield 25, 3) := by decide +kernel
theorem d_Di_copyFrom_46 : decode m_Di_copyFrom.2.1 46 = .ok (.putfield 25, 3) := by decide +kernel
theorem d_Di_copyFrom_49 : decode m_Di_copyFrom.2.1 49 = .ok (.aload_n 0, 1) := by decide +kernel
theorem d_Di_copyFrom_50 : decode m_Di_copyFrom.2.1 50 = .ok (.aload_n 1, 1) := by decide +kernel
theorem d_Di_copyFrom_51 : decode m_Di_copyFrom.2.1 51 = .ok (.getfield 28, 3) := by decide +kernel
theorem d_Di_copyFrom_54 : decode m_Di_copyFrom.2.1 54 = .ok (.putfield 28, 3) := by decide +kernel
theorem d_Di_copyFrom_57 : decode m_Di_copyFrom.2.1 57 = .ok (.return_, 1) := by decide +kernel
theorem d_Di_has_0 : decode m_Di_has.2.1 0 = .ok (.iload_n 1, 1) := by decide +kernel
theorem d_Di_has_1 : decode m_Di_has.2.1 1 = .ok (.ifCond .lt 15, 3) := by decide +kernel
theorem d_Di_has_4 : decode m_Di_has.2.1 4 = .ok (.iload_n 1, 1) := by decide +kernel
theorem d_Di_has_5 : decode m_Di_has.2.1 5 = .ok (.aload_n 0, 1) := by decide +kernel
theorem d_Di_has_6 : decode m_Di_has.2.1 6 = .ok (.getfield 21, 3) := by decide +kernel
theorem d_Di_has_9 : decode m_Di_has.2.1 9 = .ok (.if_icmp .ge 7, 3) := by decide +kernel
theorem d_Di_has_12 : decode m_Di_has.2.1 12 = .ok (.iconst 1, 1) := by decide +kernel
theorem d_Di_has_13 : decode m_Di_has.2.1 13 = .ok (.goto 4, 3) := by decide +kernel
theorem d_Di_has_16 : decode m_Di_has.2.1 16 = .ok (.iconst 0, 1) := by decide +kernel
theorem d_Di_has_17 : decode m_Di_has.2.1 17 = .ok (.ireturn, 1) := by decide +kernel
theorem d_Di_allPlaces_0 : decode m_Di_allPlaces.2.1 0 = .ok (.iconst 0, 1) := by decide +kernel
theorem d_Di_allPlaces_1 : decode m_Di_allPlaces.2.1 1 = .ok (.istore_n 1, 1) := by decide +kernel
theorem d_Di_allPlaces_2 : decode m_Di_allPlaces.2.1 2 = .ok (.iconst 0, 1) := by decide +kernel
theorem d_Di_allPlaces_3 : decode m_Di_allPlaces.2.1 3 = .ok (.istore_n 2, 1) := by decide +kernel
theorem d_Di_allPlaces_4 : decode m_Di_allPlaces.2.1 4 = .ok (.iload_n 2, 1) := by decide +kernel
theorem d_Di_allPlaces_5 : decode m_Di_allPlaces.2.1 5 = .ok (.aload_n 0, 1) := by decide +kernel
theorem d_Di_allPlaces_6 : decode m_Di_allPlaces.2.1 6 = .ok (.getfield 21, 3) := by decide +kernel
theorem d_Di_allPlaces_9 : decode m_Di_allPlaces.2.1 9 = .ok (.if_icmp .ge 26, 3) := by decide +kernel
theorem d_Di_allPlaces_12 : decode m_Di_allPlaces.2.1 12 = .ok (.iload_n 2, 1) := by decide +kernel
theorem d_Di_allPlaces_13 : decode m_Di_allPlaces.2.1 13 = .ok (.bipush 10, 2) := by decide +kernel
theorem d_Di_allPlaces_15 : decode m_Di_allPlaces.2.1 15 = .ok (.if_icmp .ge 20, 3) := by decide +kernel
theorem d_Di_allPlaces_18 : decode m_Di_allPlaces.2.1 18 = .ok (.iload_n 1, 1) := by decide +kernel
theorem d_Di_allPlaces_19 : decode m_Di_allPlaces.2.1 19 = .ok (.aload_n 0, 1) := by decide +kernel
theorem d_Di_allPlaces_20 : decode m_Di_allPlaces.2.1 20 = .ok (.getfield 9, 3) := by decide +kernel
theorem d_Di_allPlaces_23 : decode m_Di_allPlaces.2.1 23 = .ok (.iload_n 2, 1) := by decide +kernel
theorem d_Di_allPlaces_24 : decode m_Di_allPlaces.2.1 24 = .ok (.invokestatic 46, 3) := by decide +kernel
set_option maxRecDepth 100000 in
theorem s_Di_allPlaces_24 {G : r_X} {n : Nat} {h : r_HI} {g : r_HR} {z : r_HL} {v0 v1 : Value} : r_cl G m_Di_allPlaces m_Ra_at 24 [v0, v1] n h g z := r_clSN d_Di_allPlaces_24 w_Ra_at (List.mem_of_getElem? (i := 16) rfl) a_Ra_at n_Ra (by decide +kernel : r_mh m_Ra_at.1 2)
theorem d_Di_allPlaces_27 : decode m_Di_allPlaces.2.1 27 = .ok (.iadd, 1) := by decide +kernel
theorem d_Di_allPlaces_28 : decode m_Di_allPlaces.2.1 28 = .ok (.istore_n 1, 1) := by decide +kernel
theorem d_Di_allPlaces_29 : decode m_Di_allPlaces.2.1 29 = .ok (.iinc 2 1, 3) := by decide +kernel
theorem d_Di_allPlaces_32 : decode m_Di_allPlaces.2.1 32 = .ok (.goto (-28), 3) := by decide +kernel
theorem d_Di_allPlaces_35 : decode m_Di_allPlaces.2.1 35 = .ok (.iload_n 1, 1) := by decide +kernel
theorem d_Di_allPlaces_36 : decode m_Di_allPlaces.2.1 36 = .ok (.ireturn, 1) := by decide +kernel
theorem d_Di_travel_0 : decode m_Di_travel.2.1 0 = .ok (.iload_n 1, 1) := by decide +kernel
theorem d_Di_travel_1 : decode m_Di_travel.2.1 1 = .ok (.iload_n 2, 1) := by decide +kernel
theorem d_Di_travel_2 : decode m_Di_travel.2.1 2 = .ok (.if_icmp .ne 5, 3) := by decide +kernel
theorem d_Di_travel_5 : decode m_Di_travel.2.1 5 = .ok (.iconst 0, 1) := by decide +kernel
theorem d_Di_travel_6 : decode m_Di_travel.2.1 6 = .ok (.ireturn, 1) := by decide +kernel
theorem d_Di_travel_7 : decode m_Di_travel.2.1 7 = .ok (.aload_n 0, 1) := by decide +kernel
theorem d_Di_travel_8 : decode m_Di_travel.2.1 8 = .ok (.getfield 25, 3) := by decide +kernel
theorem d_Di_travel_11 : decode m_Di_travel.2.1 11 = .ok (.aload_n 0, 1) := by decide +kernel
theorem d_Di_travel_12 : decode m_Di_travel.2.1 12 = .ok (.getfield 28, 3) := by decide +kernel
theorem d_Di_travel_15 : decode m_Di_travel.2.1 15 = .ok (.iload_n 1, 1) := by decide +kernel
theorem d_Di_travel_16 : decode m_Di_travel.2.1 16 = .ok (.iload_n 2, 1) := by decide +kernel
theorem d_Di_travel_17 : decode m_Di_travel.2.1 17 = .ok (.if_icmp .ge 9, 3) := by decide +kernel
theorem d_Di_travel_20 : decode m_Di_travel.2.1 20 = .ok (.iload_n 2, 1) := by decide +kernel
theorem d_Di_travel_21 : decode m_Di_travel.2.1 21 = .ok (.iload_n 1, 1) := by decide +kernel
theorem d_Di_travel_22 : decode m_Di_travel.2.1 22 = .ok (.isub, 1) := by decide +kernel
theorem d_Di_travel_23 : decode m_Di_travel.2.1 23 = .ok (.goto 6, 3) := by decide +kernel
theorem d_Di_travel_26 : decode m_Di_travel.2.1 26 = .ok (.iload_n 1, 1) := by decide +kernel
theorem d_Di_travel_27 : decode m_Di_travel.2.1 27 = .ok (.iload_n 2, 1) := by decide +kernel
theorem d_Di_travel_28 : decode m_Di_travel.2.1 28 = .ok (.isub, 1) := by decide +kernel
theorem d_Di_travel_29 : decode m_Di_travel.2.1 29 = .ok (.imul, 1) := by decide +kernel
theorem d_Di_travel_30 : decode m_Di_travel.2.1 30 = .ok (.iadd, 1) := by decide +kernel
theorem d_Di_travel_31 : decode m_Di_travel.2.1 31 = .ok (.ireturn, 1) := by decide +kernel
theorem d_Di_doneAt_0 : decode m_Di_doneAt.2.1 0 = .ok (.aload_n 0, 1) := by decide +kernel
theorem d_Di_doneAt_1 : decode m_Di_doneAt.2.1 1 = .ok (.getfield 18, 3) := by decide +kernel
theorem d_Di_doneAt_4 : decode m_Di_doneAt.2.1 4 = .ok (.iload_n 3, 1) := by decide +kernel
theorem d_Di_doneAt_5 : decode m_Di_doneAt.2.1 5 = .ok (.invokestatic 46, 3) := by decide +kernel
set_option maxRecDepth 100000 in
theorem s_Di_doneAt_5 {G : r_X} {n : Nat} {h : r_HI} {g : r_HR} {z : r_HL} {v0 v1 : Value} : r_cl G m_Di_doneAt m_Ra_at 5 [v0, v1] n h g z := r_clSN d_Di_doneAt_5 w_Ra_at (List.mem_of_getElem? (i := 16) rfl) a_Ra_at n_Ra (by decide +kernel : r_mh m_Ra_at.1 2)
theorem d_Di_doneAt_8 : decode m_Di_doneAt.2.1 8 = .ok (.istore 5, 2) := by decide +kernel
theorem d_Di_doneAt_10 : decode m_Di_doneAt.2.1 10 = .ok (.iload_n 1, 1) := by decide +kernel
theorem d_Di_doneAt_11 : decode m_Di_doneAt.2.1 11 = .ok (.aload_n 0, 1) := by decide +kernel
theorem d_Di_doneAt_12 : decode m_Di_doneAt.2.1 12 = .ok (.iload_n 2, 1) := by decide +kernel
theorem d_Di_doneAt_13 : decode m_Di_doneAt.2.1 13 = .ok (.iload_n 3, 1) := by decide +kernel
theorem d_Di_doneAt_14 : decode m_Di_doneAt.2.1 14 = .ok (.invokevirtual 62, 3) := by decide +kernel
set_option maxRecDepth 100000 in
theorem s_Di_doneAt_14 {G : r_X} {n : Nat} {h : r_HI} {g : r_HR} {z : r_HL} {k : Nat} {v0 v1 : Value} (hp : r_pk k = (0, 1)) (hk : k < n) : r_cl G m_Di_doneAt m_Di_travel 14 (.ref (G.2.1 + k) :: [v0, v1]) n h g z := r_clV d_Di_doneAt_14 w_Di_travel (r_in 400 rfl rfl) a_Di_travel (r_in 382 rfl rfl) n_Di (by decide +kernel : r_mh m_Di_travel.1 2) hp hk (by decide)
theorem d_Di_doneAt_17 : decode m_Di_doneAt.2.1 17 = .ok (.iadd, 1) := by decide +kernel
theorem d_Di_doneAt_18 : decode m_Di_doneAt.2.1 18 = .ok (.istore 6, 2) := by decide +kernel
theorem d_Di_doneAt_20 : decode m_Di_doneAt.2.1 20 = .ok (.aload_n 0, 1) := by decide +kernel
theorem d_Di_doneAt_21 : decode m_Di_doneAt.2.1 21 = .ok (.getfield 15, 3) := by decide +kernel
theorem d_Di_doneAt_24 : decode m_Di_doneAt.2.1 24 = .ok (.iload_n 3, 1) := by decide +kernel
theorem d_Di_doneAt_25 : decode m_Di_doneAt.2.1 25 = .ok (.invokestatic 46, 3) := by decide +kernel
set_option maxRecDepth 100000 in
theorem s_Di_doneAt_25 {G : r_X} {n : Nat} {h : r_HI} {g : r_HR} {z : r_HL} {v0 v1 : Value} : r_cl G m_Di_doneAt m_Ra_at 25 [v0, v1] n h g z := r_clSN d_Di_doneAt_25 w_Ra_at (List.mem_of_getElem? (i := 16) rfl) a_Ra_at n_Ra (by decide +kernel : r_mh m_Ra_at.1 2)
theorem d_Di_doneAt_28 : decode m_Di_doneAt.2.1 28 = .ok (.iload 4, 2) := by decide +kernel
theorem d_Di_doneAt_30 : decode m_Di_doneAt.2.1 30 = .ok (.iload 5, 2) := by decide +kernel
theorem d_Di_doneAt_32 : decode m_Di_doneAt.2.1 32 = .ok (.imul, 1) := by decide +kernel
theorem d_Di_doneAt_33 : decode m_Di_doneAt.2.1 33 = .ok (.iadd, 1) := by decide +kernel
theorem d_Di_doneAt_34 : decode m_Di_doneAt.2.1 34 = .ok (.istore 7, 2) := by decide +kernel
theorem d_Di_doneAt_36 : decode m_Di_doneAt.2.1 36 = .ok (.iload 6, 2) := by decide +kernel
theorem d_Di_doneAt_38 : decode m_Di_doneAt.2.1 38 = .ok (.iload 7, 2) := by decide +kernel
theorem d_Di_doneAt_40 : decode m_Di_doneAt.2.1 40 = .ok (.iload 6, 2) := by decide +kernel
theorem d_Di_doneAt_42 : decode m_Di_doneAt.2.1 42 = .ok (.isub, 1) := by decide +kernel
theorem d_Di_doneAt_43 : decode m_Di_doneAt.2.1 43 = .ok (.bipush 24, 2) := by decide +kernel
theorem d_Di_doneAt_45 : decode m_Di_doneAt.2.1 45 = .ok (.invokestatic 65, 3) := by decide +kernel
set_option maxRecDepth 100000 in
theorem s_Di_doneAt_45 {G : r_X} {n : Nat} {h : r_HI} {g : r_HR} {z : r_HL} {v0 v1 : Value} : r_cl G m_Di_doneAt m_Jm_floorMod 45 [v0, v1] n h g z := r_clS d_Di_doneAt_45 w_Jm_floorMod (r_in 401 rfl rfl) a_Jm_floorMod n_Jm (by decide +kernel : r_mh m_Jm_floorMod.1 2)
theorem d_Di_doneAt_48 : decode m_Di_doneAt.2.1 48 = .ok (.iadd, 1) := by decide +kernel
theorem d_Di_doneAt_49 : decode m_Di_doneAt.2.1 49 = .ok (.iload 5, 2) := by decide +kernel
theorem d_Di_doneAt_51 : decode m_Di_doneAt.2.1 51 = .ok (.iadd, 1) := by decide +kernel
theorem d_Di_doneAt_52 : decode m_Di_doneAt.2.1 52 = .ok (.ireturn, 1) := by decide +kernel
theorem d_Di_bestGap_0 : decode m_Di_bestGap.2.1 0 = .ok (.aload_n 0, 1) := by decide +kernel
theorem d_Di_bestGap_1 : decode m_Di_bestGap.2.1 1 = .ok (.getfield 9, 3) := by decide +kernel
theorem d_Di_bestGap_4 : decode m_Di_bestGap.2.1 4 = .ok (.iload_n 1, 1) := by decide +kernel
theorem d_Di_bestGap_5 : decode m_Di_bestGap.2.1 5 = .ok (.invokestatic 46, 3) := by decide +kernel
set_option maxRecDepth 100000 in
theorem s_Di_bestGap_5 {G : r_X} {n : Nat} {h : r_HI} {g : r_HR} {z : r_HL} {v0 v1 : Value} : r_cl G m_Di_bestGap m_Ra_at 5 [v0, v1] n h g z := r_clSN d_Di_bestGap_5 w_Ra_at (List.mem_of_getElem? (i := 16) rfl) a_Ra_at n_Ra (by decide +kernel : r_mh m_Ra_at.1 2)
theorem d_Di_bestGap_8 : decode m_Di_bestGap.2.1 8 = .ok (.istore_n 3, 1) := by decide +kernel
theorem d_Di_bestGap_9 : decode m_Di_bestGap.2.1 9 = .ok (.iconst 1, 1) := by decide +kernel
theorem d_Di_bestGap_10 : decode m_Di_bestGap.2.1 10 = .ok (.istore 4, 2) := by decide +kernel
theorem d_Di_bestGap_12 : decode m_Di_bestGap.2.1 12 = .ok (.iconst 2, 1) := by decide +kernel
theorem d_Di_bestGap_13 : decode m_Di_bestGap.2.1 13 = .ok (.istore 5, 2) := by decide +kernel
theorem d_Di_bestGap_15 : decode m_Di_bestGap.2.1 15 = .ok (.iload 5, 2) := by decide +kernel
theorem d_Di_bestGap_17 : decode m_Di_bestGap.2.1 17 = .ok (.iload_n 3, 1) := by decide +kernel
theorem d_Di_bestGap_18 : decode m_Di_bestGap.2.1 18 = .ok (.if_icmp .ge 41, 3) := by decide +kernel
theorem d_Di_bestGap_21 : decode m_Di_bestGap.2.1 21 = .ok (.iload 5, 2) := by decide +kernel
theorem d_Di_bestGap_23 : decode m_Di_bestGap.2.1 23 = .ok (.iload_n 3, 1) := by decide +kernel
theorem d_Di_bestGap_24 : decode m_Di_bestGap.2.1 24 = .ok (.invokestatic 68, 3) := by decide +kernel
set_option maxRecDepth 100000 in
theorem s_Di_bestGap_24 {G : r_X} {n : Nat} {h : r_HI} {g : r_HR} {z : r_HL} {v0 v1 : Value} : r_cl G m_Di_bestGap m_Di_haveNoDivisor 24 [v0, v1] n h g z := r_clS d_Di_bestGap_24 w_Di_haveNoDivisor (r_in 617 rfl rfl) a_Di_haveNoDivisor n_Di (by decide +kernel : r_mh m_Di_haveNoDivisor.1 2)
theorem d_Di_bestGap_27 : decode m_Di_bestGap.2.1 27 = .ok (.ifCond .eq 26, 3) := by decide +kernel
theorem d_Di_bestGap_30 : decode m_Di_bestGap.2.1 30 = .ok (.aload_n 0, 1) := by decide +kernel
theorem d_Di_bestGap_31 : decode m_Di_bestGap.2.1 31 = .ok (.iload_n 1, 1) := by decide +kernel
theorem d_Di_bestGap_32 : decode m_Di_bestGap.2.1 32 = .ok (.iload_n 2, 1) := by decide +kernel
theorem d_Di_bestGap_33 : decode m_Di_bestGap.2.1 33 = .ok (.iload 5, 2) := by decide +kernel
theorem d_Di_bestGap_35 : decode m_Di_bestGap.2.1 35 = .ok (.invokevirtual 72, 3) := by decide +kernel
set_option maxRecDepth 100000 in
theorem s_Di_bestGap_35 {G : r_X} {n : Nat} {h : r_HI} {g : r_HR} {z : r_HL} {k : Nat} {v0 v1 v2 : Value} (hp : r_pk k = (0, 1)) (hk : k < n) : r_cl G m_Di_bestGap m_Di_gapTicks 35 (.ref (G.2.1 + k) :: [v0, v1, v2]) n h g z := r_clV d_Di_bestGap_35 w_Di_gapTicks (r_in 620 rfl rfl) a_Di_gapTicks (r_in 622 rfl rfl) n_Di (by decide +kernel : r_mh m_Di_gapTicks.1 3) hp hk (by decide)
theorem d_Di_bestGap_38 : decode m_Di_bestGap.2.1 38 = .ok (.aload_n 0, 1) := by decide +kernel
theorem d_Di_bestGap_39 : decode m_Di_bestGap.2.1 39 = .ok (.iload_n 1, 1) := by decide +kernel
theorem d_Di_bestGap_40 : decode m_Di_bestGap.2.1 40 = .ok (.iload_n 2, 1) := by decide +kernel
theorem d_Di_bestGap_41 : decode m_Di_bestGap.2.1 41 = .ok (.iload 4, 2) := by decide +kernel
theorem d_Di_bestGap_43 : decode m_Di_bestGap.2.1 43 = .ok (.invokevirtual 72, 3) := by decide +kernel
set_option maxRecDepth 100000 in
theorem s_Di_bestGap_43 {G : r_X} {n : Nat} {h : r_HI} {g : r_HR} {z : r_HL} {k : Nat} {v0 v1 v2 : Value} (hp : r_pk k = (0, 1)) (hk : k < n) : r_cl G m_Di_bestGap m_Di_gapTicks 43 (.ref (G.2.1 + k) :: [v0, v1, v2]) n h g z := r_clV d_Di_bestGap_43 w_Di_gapTicks (r_in 620 rfl rfl) a_Di_gapTicks (r_in 622 rfl rfl) n_Di (by decide +kernel : r_mh m_Di_gapTicks.1 3) hp hk (by decide)
theorem d_Di_bestGap_46 : decode m_Di_bestGap.2.1 46 = .ok (.if_icmp .ge 7, 3) := by decide +kernel
theorem d_Di_bestGap_49 : decode m_Di_bestGap.2.1 49 = .ok (.iload 5, 2) := by decide +kernel
theorem d_Di_bestGap_51 : decode m_Di_bestGap.2.1 51 = .ok (.istore 4, 2) := by decide +kernel
theorem d_Di_bestGap_53 : decode m_Di_bestGap.2.1 53 = .ok (.iinc 5 1, 3) := by decide +kernel
theorem d_Di_bestGap_56 : decode m_Di_bestGap.2.1 56 = .ok (.goto (-41), 3) := by decide +kernel
theorem d_Di_bestGap_59 : decode m_Di_bestGap.2.1 59 = .ok (.iload 4, 2) := by decide +kernel
theorem d_Di_bestGap_61 : decode m_Di_bestGap.2.1 61 = .ok (.ireturn, 1) := by decide +kernel
theorem d_Di_gapTicks_0 : decode m_Di_gapTicks.2.1 0 = .ok (.aload_n 0, 1) := by decide +kernel
theorem d_Di_gapTicks_1 : decode m_Di_gapTicks.2.1 1 = .ok (.getfield 18, 3) := by decide +kernel
theorem d_Di_gapTicks_4 : decode m_Di_gapTicks.2.1 4 = .ok (.iload_n 1, 1) := by decide +kernel
theorem d_Di_gapTicks_5 : decode m_Di_gapTicks.2.1 5 = .ok (.invokestatic 46, 3) := by decide +kernel
set_option maxRecDepth 100000 in
theorem s_Di_gapTicks_5 {G : r_X} {n : Nat} {h : r_HI} {g : r_HR} {z : r_HL} {v0 v1 : Value} : r_cl G m_Di_gapTicks m_Ra_at 5 [v0, v1] n h g z := r_clSN d_Di_gapTicks_5 w_Ra_at (List.mem_of_getElem? (i := 16) rfl) a_Ra_at n_Ra (by decide +kernel : r_mh m_Ra_at.1 2)
theorem d_Di_gapTicks_8 : decode m_Di_gapTicks.2.1 8 = .ok (.istore 4, 2) := by decide +kernel
theorem d_Di_gapTicks_10 : decode m_Di_gapTicks.2.1 10 = .ok (.iload 4, 2) := by decide +kernel
theorem d_Di_gapTicks_12 : decode m_Di_gapTicks.2.1 12 = .ok (.iload_n 2, 1) := by decide +kernel
theorem d_Di_gapTicks_13 : decode m_Di_gapTicks.2.1 13 = .ok (.iadd, 1) := by decide +kernel
theorem d_Di_gapTicks_14 : decode m_Di_gapTicks.2.1 14 = .ok (.istore 5, 2) := by decide +kernel
theorem d_Di_gapTicks_16 : decode m_Di_gapTicks.2.1 16 = .ok (.iload 5, 2) := by decide +kernel
theorem d_Di_gapTicks_18 : decode m_Di_gapTicks.2.1 18 = .ok (.iload_n 3, 1) := by decide +kernel
theorem d_Di_gapTicks_19 : decode m_Di_gapTicks.2.1 19 = .ok (.iload 4, 2) := by decide +kernel
theorem d_Di_gapTicks_21 : decode m_Di_gapTicks.2.1 21 = .ok (.imul, 1) := by decide +kernel
theorem d_Di_gapTicks_22 : decode m_Di_gapTicks.2.1 22 = .ok (.iload 5, 2) := by decide +kernel
theorem d_Di_gapTicks_24 : decode m_Di_gapTicks.2.1 24 = .ok (.isub, 1) := by decide +kernel
theorem d_Di_gapTicks_25 : decode m_Di_gapTicks.2.1 25 = .ok (.bipush 24, 2) := by decide +kernel
theorem d_Di_gapTicks_27 : decode m_Di_gapTicks.2.1 27 = .ok (.invokestatic 65, 3) := by decide +kernel
set_option maxRecDepth 100000 in
theorem s_Di_gapTicks_27 {G : r_X} {n : Nat} {h : r_HI} {g : r_HR} {z : r_HL} {v0 v1 : Value} : r_cl G m_Di_gapTicks m_Jm_floorMod 27 [v0, v1] n h g z := r_clS d_Di_gapTicks_27 w_Jm_floorMod (r_in 401 rfl rfl) a_Jm_floorMod n_Jm (by decide +kernel : r_mh m_Jm_floorMod.1 2)
theorem d_Di_gapTicks_30 : decode m_Di_gapTicks.2.1 30 = .ok (.iadd, 1) := by decide +kernel
theorem d_Di_gapTicks_31 : decode m_Di_gapTicks.2.1 31 = .ok (.istore 6, 2) := by decide +kernel
theorem d_Di_gapTicks_33 : decode m_Di_gapTicks.2.1 33 = .ok (.aload_n 0, 1) := by decide +kernel
theorem d_Di_gapTicks_34 : decode m_Di_gapTicks.2.1 34 = .ok (.getfield 9, 3) := by decide +kernel
theorem d_Di_gapTicks_37 : decode m_Di_gapTicks.2.1 37 = .ok (.iload_n 1, 1) := by decide +kernel
theorem d_Di_gapTicks_38 : decode m_Di_gapTicks.2.1 38 = .ok (.invokestatic 46, 3) := by decide +kernel
set_option maxRecDepth 100000 in
theorem s_Di_gapTicks_38 {G : r_X} {n : Nat} {h : r_HI} {g : r_HR} {z : r_HL} {v0 v1 : Value} : r_cl G m_Di_gapTicks m_Ra_at 38 [v0, v1] n h g z := r_clSN d_Di_gapTicks_38 w_Ra_at (List.mem_of_getElem? (i := 16) rfl) a_Ra_at n_Ra (by decide +kernel : r_mh m_Ra_at.1 2)
theorem d_Di_gapTicks_41 : decode m_Di_gapTicks.2.1 41 = .ok (.iconst 1, 1) := by decide +kernel
theorem d_Di_gapTicks_42 : decode m_Di_gapTicks.2.1 42 = .ok (.isub, 1) := by decide +kernel
theorem d_Di_gapTicks_43 : decode m_Di_gapTicks.2.1 43 = .ok (.iload 6, 2) := by decide +kernel
theorem d_Di_gapTicks_45 : decode m_Di_gapTicks.2.1 45 = .ok (.imul, 1) := by decide +kernel
theorem d_Di_gapTicks_46 : decode m_Di_gapTicks.2.1 46 = .ok (.iload 4, 2) := by decide +kernel
theorem d_Di_gapTicks_48 : decode m_Di_gapTicks.2.1 48 = .ok (.iadd, 1) := by decide +kernel
theorem d_Di_gapTicks_49 : decode m_Di_gapTicks.2.1 49 = .ok (.ireturn, 1) := by decide +kernel
theorem d_Di_haveNoDivisor_0 : decode m_Di_haveNoDivisor.2.1 0 = .ok (.iconst 2, 1) := by decide +kernel
theorem d_Di_haveNoDivisor_1 : decode m_Di_haveNoDivisor.2.1 1 = .ok (.istore_n 2, 1) := by decide +kernel
theorem d_Di_haveNoDivisor_2 : decode m_Di_haveNoDivisor.2.1 2 = .ok (.iload_n 2, 1) := by decide +kernel
theorem d_Di_haveNoDivisor_3 : decode m_Di_haveNoDivisor.2.1 3 = .ok (.iload_n 0, 1) := by decide +kernel
theorem d_Di_haveNoDivisor_4 : decode m_Di_haveNoDivisor.2.1 4 = .ok (.if_icmp .gt 23, 3) := by decide +kernel
theorem d_Di_haveNoDivisor_7 : decode m_Di_haveNoDivisor.2.1 7 = .ok (.iload_n 0, 1) := by decide +kernel
theorem d_Di_haveNoDivisor_8 : decode m_Di_haveNoDivisor.2.1 8 = .ok (.iload_n 2, 1) := by decide +kernel
theorem d_Di_haveNoDivisor_9 : decode m_Di_haveNoDivisor.2.1 9 = .ok (.irem, 1) := by decide +kernel
theorem d_Di_haveNoDivisor_10 : decode m_Di_haveNoDivisor.2.1 10 = .ok (.ifCond .ne 11, 3) := by decide +kernel
theorem d_Di_haveNoDivisor_13 : decode m_Di_haveNoDivisor.2.1 13 = .ok (.iload_n 1, 1) := by decide +kernel
theorem d_Di_haveNoDivisor_14 : decode m_Di_haveNoDivisor.2.1 14 = .ok (.iload_n 2, 1) := by decide +kernel
theorem d_Di_haveNoDivisor_15 : decode m_Di_haveNoDivisor.2.1 15 = .ok (.irem, 1) := by decide +kernel
theorem d_Di_haveNoDivisor_16 : decode m_Di_haveNoDivisor.2.1 16 = .ok (.ifCond .ne 5, 3) := by decide +kernel
theorem d_Di_haveNoDivisor_19 : decode m_Di_haveNoDivisor.2.1 19 = .ok (.iconst 0, 1) := by decide +kernel
theorem d_Di_haveNoDivisor_20 : decode m_Di_haveNoDivisor.2.1 20 = .ok (.ireturn, 1) := by decide +kernel
theorem d_Di_haveNoDivisor_21 : decode m_Di_haveNoDivisor.2.1 21 = .ok (.iinc 2 1, 3) := by decide +kernel
theorem d_Di_haveNoDivisor_24 : decode m_Di_haveNoDivisor.2.1 24 = .ok (.goto (-22), 3) := by decide +kernel
theorem d_Di_haveNoDivisor_27 : decode m_Di_haveNoDivisor.2.1 27 = .ok (.iconst 1, 1) := by decide +kernel
theorem d_Di_haveNoDivisor_28 : decode m_Di_haveNoDivisor.2.1 28 = .ok (.ireturn, 1) := by decide +kernel
theorem d_Fi_init_0 : decode m_Fi_init.2.1 0 = .ok (.aload_n 0, 1) := by decide +kernel
theorem d_Fi_init_1 : decode m_Fi_init.2.1 1 = .ok (.invokespecial 3, 3) := by decide +kernel
set_option maxRecDepth 100000 in
theorem s_Fi_init_1 : Cond.methodLink m_Fi_init.1.cls 3 Lib.objectInit ∈ r_wg := r_in 175 rfl rfl
theorem d_Fi_init_4 : decode m_Fi_init.2.1 4 = .ok (.return_, 1) := by decide +kernel
theorem d_Fi_kind_0 : decode m_Fi_kind.2.1 0 = .ok (.iconst 0, 1) := by decide +kernel
theorem d_Fi_kind_1 : decode m_Fi_kind.2.1 1 = .ok (.ireturn, 1) := by decide +kernel
theorem d_Fi_price_0 : decode m_Fi_price.2.1 0 = .ok (.iload_n 2, 1) := by decide +kernel
theorem d_Fi_price_1 : decode m_Fi_price.2.1 1 = .ok (.ireturn, 1) := by decide +kernel
theorem d_Fi_turns_0 : decode m_Fi_turns.2.1 0 = .ok (.iconst 0, 1) := by decide +kernel
theorem d_Fi_turns_1 : decode m_Fi_turns.2.1 1 = .ok (.ireturn, 1) := by decide +kernel
theorem d_Fi_pick_0 : decode m_Fi_pick.2.1 0 = .ok (.iconst (-1), 1) := by decide +kernel
theorem d_Fi_pick_1 : decode m_Fi_pick.2.1 1 = .ok (.istore_n 2, 1) := by decide +kernel
theorem d_Fi_pick_2 : decode m_Fi_pick.2.1 2 = .ok (.iconst 0, 1) := by decide +kernel
theorem d_Fi_pick_3 : decode m_Fi_pick.2.1 3 = .ok (.istore_n 3, 1) := by decide +kernel
theorem d_Fi_pick_4 : decode m_Fi_pick.2.1 4 = .ok (.iconst 0, 1) := by decide +kernel
theorem d_Fi_pick_5 : decode m_Fi_pick.2.1 5 = .ok (.istore 4, 2) := by decide +kernel
theorem d_Fi_pick_7 : decode m_Fi_pick.2.1 7 = .ok (.iload 4, 2) := by decide +kernel
theorem d_Fi_pick_9 : decode m_Fi_pick.2.1 9 = .ok (.aload_n 1, 1) := by decide +kernel
theorem d_Fi_pick_10 : decode m_Fi_pick.2.1 10 = .ok (.getfield 9, 3) := by decide +kernel
theorem d_Fi_pick_13 : decode m_Fi_pick.2.1 13 = .ok (.if_icmp .ge 42, 3) := by decide +kernel
theorem d_Fi_pick_16 : decode m_Fi_pick.2.1 16 = .ok (.iload 4, 2) := by decide +kernel
theorem d_Fi_pick_18 : decode m_Fi_pick.2.1 18 = .ok (.bipush 7, 2) := by decide +kernel
theorem d_Fi_pick_20 : decode m_Fi_pick.2.1 20 = .ok (.if_icmp .ge 35, 3) := by decide +kernel
theorem d_Fi_pick_23 : decode m_Fi_pick.2.1 23 = .ok (.aload_n 0, 1) := by decide +kernel
theorem d_Fi_pick_24 : decode m_Fi_pick.2.1 24 = .ok (.aload_n 1, 1) := by decide +kernel
theorem d_Fi_pick_25 : decode m_Fi_pick.2.1 25 = .ok (.iload 4, 2) := by decide +kernel
theorem d_Fi_pick_27 : decode m_Fi_pick.2.1 27 = .ok (.invokevirtual 15, 3) := by decide +kernel
set_option maxRecDepth 100000 in
theorem s_Fi_pick_27_Fi {G : r_X} {n : Nat} {h : r_HI} {g : r_HR} {z : r_HL} {k : Nat} {v0 v1 : Value} (hp : r_pk k = (0, 2)) (hk : k < n) : r_cl G m_Fi_pick m_Fi_price 27 (.ref (G.2.1 + k) :: [v0, v1]) n h g z := r_clU (x := m_Fi_price.1) (owner := "RingArm$First") (M0 := m_Fi_price) d_Fi_pick_27 w_Fi_price (r_in 448 rfl rfl) (r_in 451 rfl rfl) a_Fi_price w_Fi_price rfl a_Fi_price (r_in 450 rfl rfl) n_Fi ⟨by decide, by decide⟩ (by decide +kernel : r_mh m_Fi_price.1 2) hp hk (by decide)
set_option maxRecDepth 100000 in
theorem s_Fi_pick_27_Ne {G : r_X} {n : Nat} {h : r_HI} {g : r_HR} {z : r_HL} {k : Nat} {v0 v1 : Value} (hp : r_pk k = (0, 3)) (hk : k < n) : r_cl G m_Fi_pick m_Ne_price 27 (.ref (G.2.1 + k) :: [v0, v1]) n h g z := r_clU (x := m_Fi_price.1) (owner := "RingArm$First") (M0 := m_Fi_price) d_Fi_pick_27 w_Ne_price (r_in 448 rfl rfl) (r_in 451 rfl rfl) a_Fi_price w_Fi_price rfl a_Ne_price (r_in 452 rfl rfl) n_Ne ⟨by decide, by decide⟩ (by decide +kernel : r_mh m_Fi_price.1 2) hp hk (by decide)
set_option maxRecDepth 100000 in
theorem s_Fi_pick_27_Sw {G : r_X} {n : Nat} {h : r_HI} {g : r_HR} {z : r_HL} {k : Nat} {v0 v1 : Value} (hp : r_pk k = (0, 9)) (hk : k < n) : r_cl G m_Fi_pick m_Sw_price 27 (.ref (G.2.1 + k) :: [v0, v1]) n h g z := r_clU (x := m_Fi_price.1) (owner := "RingArm$First") (M0 := m_Fi_price) d_Fi_pick_27 w_Sw_price (r_in 448 rfl rfl) (r_in 451 rfl rfl) a_Fi_price w_Fi_price rfl a_Sw_price (r_in 468 rfl rfl) n_Sw ⟨by decide, by decide⟩ (by decide +kernel : r_mh m_Fi_price.1 2) hp hk (by decide)
set_option maxRecDepth 100000 in
theorem s_Fi_pick_27_Ro {G : r_X} {n : Nat} {h : r_HI} {g : r_HR} {z : r_HL} {k : Nat} {v0 v1 : Value} (hp : r_pk k = (0, 6)) (hk : k < n) : r_cl G m_Fi_pick m_Ro_price 27 (.ref (G.2.1 + k) :: [v0, v1]) n h g z := r_clU (x := m_Fi_price.1) (owner := "RingArm$First") (M0 := m_Fi_price) d_Fi_pick_27 w_Ro_price (r_in 448 rfl rfl) (r_in 451 rfl rfl) a_Fi_price w_Fi_price rfl a_Ro_price (r_in 459 rfl rfl) n_Ro ⟨by decide, by decide⟩ (by decide +kernel : r_mh m_Fi_price.1 2) hp hk (by decide)
set_option maxRecDepth 100000 in
theorem s_Fi_pick_27_So {G : r_X} {n : Nat} {h : r_HI} {g : r_HR} {z : r_HL} {k : Nat} {v0 v1 : Value} (hp : r_pk k = (0, 8)) (hk : k < n) : r_cl G m_Fi_pick m_So_price 27 (.ref (G.2.1 + k) :: [v0, v1]) n h g z := r_clU (x := m_Fi_price.1) (owner := "RingArm$First") (M0 := m_Fi_price) d_Fi_pick_27 w_So_price (r_in 448 rfl rfl) (r_in 451 rfl rfl) a_Fi_price w_Fi_price rfl a_So_price (r_in 463 rfl rfl) n_So ⟨by decide, by decide⟩ (by decide +kernel : r_mh m_Fi_price.1 2) hp hk (by decide)
theorem d_Fi_pick_30 : decode m_Fi_pick.2.1 30 = .ok (.istore 5, 2) := by decide +kernel
theorem d_Fi_pick_32 : decode m_Fi_pick.2.1 32 = .ok (.iload_n 2, 1) := by decide +kernel
theorem d_Fi_pick_33 : decode m_Fi_pick.2.1 33 = .ok (.iconst (-1), 1) := by decide +kernel
theorem d_Fi_pick_34 : decode m_Fi_pick.2.1 34 = .ok (.if_icmp .eq 9, 3) := by decide +kernel
theorem d_Fi_pick_37 : decode m_Fi_pick.2.1 37 = .ok (.iload 5, 2) := by decide +kernel
theorem d_Fi_pick_39 : decode m_Fi_pick.2.1 39 = .ok (.iload_n 3, 1) := by decide +kernel
theorem d_Fi_pick_40 : decode m_Fi_pick.2.1 40 = .ok (.if_icmp .ge 9, 3) := by decide +kernel
theorem d_Fi_pick_43 : decode m_Fi_pick.2.1 43 = .ok (.iload 4, 2) := by decide +kernel
theorem d_Fi_pick_45 : decode m_Fi_pick.2.1 45 = .ok (.istore_n 2, 1) := by decide +kernel
theorem d_Fi_pick_46 : decode m_Fi_pick.2.1 46 = .ok (.iload 5, 2) := by decide +kernel
theorem d_Fi_pick_48 : decode m_Fi_pick.2.1 48 = .ok (.istore_n 3, 1) := by decide +kernel
theorem d_Fi_pick_49 : decode m_Fi_pick.2.1 49 = .ok (.iinc 4 1, 3) := by decide +kernel
theorem d_Fi_pick_52 : decode m_Fi_pick.2.1 52 = .ok (.goto (-45), 3) := by decide +kernel
theorem d_Fi_pick_55 : decode m_Fi_pick.2.1 55 = .ok (.iload_n 2, 1) := by decide +kernel
theorem d_Fi_pick_56 : decode m_Fi_pick.2.1 56 = .ok (.ireturn, 1) := by decide +kernel
theorem d_Ne_init_0 : decode m_Ne_init.2.1 0 = .ok (.aload_n 0, 1) := by decide +kernel
theorem d_Ne_init_1 : decode m_Ne_init.2.1 1 = .ok (.invokespecial 3, 3) := by decide +kernel
set_option maxRecDepth 100000 in
theorem s_Ne_init_1 {G : r_X} {n : Nat} {h : r_HI} {g : r_HR} {z : r_HL} {a : Nat} : r_cl G m_Ne_init m_Fi_init 1 (.ref a :: []) n h g z := r_clIN d_Ne_init_1 w_Fi_init rfl (List.mem_of_getElem? (i := 6) rfl) a_Fi_init rfl n_Fi (by decide +kernel : r_mh m_Fi_init.1 0)
theorem d_Ne_init_4 : decode m_Ne_init.2.1 4 = .ok (.return_, 1) := by decide +kernel
theorem d_Ne_kind_0 : decode m_Ne_kind.2.1 0 = .ok (.iconst 1, 1) := by decide +kernel
theorem d_Ne_kind_1 : decode m_Ne_kind.2.1 1 = .ok (.ireturn, 1) := by decide +kernel
theorem d_Ne_price_0 : decode m_Ne_price.2.1 0 = .ok (.aload_n 1, 1) := by decide +kernel
theorem d_Ne_price_1 : decode m_Ne_price.2.1 1 = .ok (.getfield 9, 3) := by decide +kernel
theorem d_Ne_price_4 : decode m_Ne_price.2.1 4 = .ok (.iload_n 2, 1) := by decide +kernel
theorem d_Ne_price_5 : decode m_Ne_price.2.1 5 = .ok (.invokestatic 15, 3) := by decide +kernel
set_option maxRecDepth 100000 in
theorem s_Ne_price_5 {G : r_X} {n : Nat} {h : r_HI} {g : r_HR} {z : r_HL} {v0 v1 : Value} : r_cl G m_Ne_price m_Ra_at 5 [v0, v1] n h g z := r_clSN d_Ne_price_5 w_Ra_at (List.mem_of_getElem? (i := 20) rfl) a_Ra_at n_Ra (by decide +kernel : r_mh m_Ra_at.1 2)
theorem d_Ne_price_8 : decode m_Ne_price.2.1 8 = .ok (.aload_n 1, 1) := by decide +kernel
theorem d_Ne_price_9 : decode m_Ne_price.2.1 9 = .ok (.getfield 19, 3) := by decide +kernel
theorem d_Ne_price_12 : decode m_Ne_price.2.1 12 = .ok (.isub, 1) := by decide +kernel
theorem d_Ne_price_13 : decode m_Ne_price.2.1 13 = .ok (.invokestatic 23, 3) := by decide +kernel
set_option maxRecDepth 100000 in
theorem s_Ne_price_13 {G : r_X} {n : Nat} {h : r_HI} {g : r_HR} {z : r_HL} {v0 : Value} : r_cl G m_Ne_price m_Jm_abs 13 [v0] n h g z := r_clS d_Ne_price_13 w_Jm_abs (r_in 456 rfl rfl) a_Jm_abs n_Jm (by decide +kernel : r_mh m_Jm_abs.1 1)
theorem d_Ne_price_16 : decode m_Ne_price.2.1 16 = .ok (.ireturn, 1) := by decide +kernel
theorem d_Or_init_0 : decode m_Or_init.2.1 0 = .ok (.aload_n 0, 1) := by decide +kernel
theorem d_Or_init_1 : decode m_Or_init.2.1 1 = .ok (.invokespecial 3, 3) := by decide +kernel
set_option maxRecDepth 100000 in
theorem s_Or_init_1 : Cond.methodLink m_Or_init.1.cls 3 Lib.objectInit ∈ r_wg := r_in 210 rfl rfl
theorem d_Or_init_4 : decode m_Or_init.2.1 4 = .ok (.aload_n 0, 1) := by decide +kernel
theorem d_Or_init_5 : decode m_Or_init.2.1 5 = .ok (.bipush 7, 2) := by decide +kernel
theorem d_Or_init_7 : decode m_Or_init.2.1 7 = .ok (.newarray .int, 2) := by decide +kernel
theorem d_Or_init_9 : decode m_Or_init.2.1 9 = .ok (.putfield 9, 3) := by decide +kernel
theorem d_Or_init_12 : decode m_Or_init.2.1 12 = .ok (.aload_n 0, 1) := by decide +kernel
theorem d_Or_init_13 : decode m_Or_init.2.1 13 = .ok (.bipush 7, 2) := by decide +kernel
theorem d_Or_init_15 : decode m_Or_init.2.1 15 = .ok (.newarray .int, 2) := by decide +kernel
theorem d_Or_init_17 : decode m_Or_init.2.1 17 = .ok (.putfield 15, 3) := by decide +kernel
theorem d_Or_init_20 : decode m_Or_init.2.1 20 = .ok (.aload_n 0, 1) := by decide +kernel
theorem d_Or_init_21 : decode m_Or_init.2.1 21 = .ok (.iconst 0, 1) := by decide +kernel
theorem d_Or_init_22 : decode m_Or_init.2.1 22 = .ok (.putfield 18, 3) := by decide +kernel
theorem d_Or_init_25 : decode m_Or_init.2.1 25 = .ok (.aload_n 0, 1) := by decide +kernel
theorem d_Or_init_26 : decode m_Or_init.2.1 26 = .ok (.iconst 0, 1) := by decide +kernel
theorem d_Or_init_27 : decode m_Or_init.2.1 27 = .ok (.putfield 22, 3) := by decide +kernel
theorem d_Or_init_30 : decode m_Or_init.2.1 30 = .ok (.return_, 1) := by decide +kernel
theorem d_Or_solve_0 : decode m_Or_solve.2.1 0 = .ok (.aload_n 0, 1) := by decide +kernel
theorem d_Or_solve_1 : decode m_Or_solve.2.1 1 = .ok (.aload_n 1, 1) := by decide +kernel
theorem d_Or_solve_2 : decode m_Or_solve.2.1 2 = .ok (.getfield 25, 3) := by decide +kernel
theorem d_Or_solve_5 : decode m_Or_solve.2.1 5 = .ok (.bipush 7, 2) := by decide +kernel
theorem d_Or_solve_7 : decode m_Or_solve.2.1 7 = .ok (.invokestatic 28, 3) := by decide +kernel
set_option maxRecDepth 100000 in
theorem s_Or_solve_7 {G : r_X} {n : Nat} {h : r_HI} {g : r_HR} {z : r_HL} {v0 v1 : Value} : r_cl G m_Or_solve m_Jm_min 7 [v0, v1] n h g z := r_clS d_Or_solve_7 w_Jm_min (r_in 560 rfl rfl) a_Jm_min n_Jm (by decide +kernel : r_mh m_Jm_min.1 2)
theorem d_Or_solve_10 : decode m_Or_solve.2.1 10 = .ok (.putfield 18, 3) := by decide +kernel
theorem d_Or_solve_13 : decode m_Or_solve.2.1 13 = .ok (.aload_n 0, 1) := by decide +kernel
theorem d_Or_solve_14 : decode m_Or_solve.2.1 14 = .ok (.ldc 34, 2) := by decide +kernel
theorem d_Or_solve_16 : decode m_Or_solve.2.1 16 = .ok (.putfield 22, 3) := by decide +kernel
theorem d_Or_solve_19 : decode m_Or_solve.2.1 19 = .ok (.aload_n 0, 1) := by decide +kernel
theorem d_Or_solve_20 : decode m_Or_solve.2.1 20 = .ok (.aload_n 1, 1) := by decide +kernel
theorem d_Or_solve_21 : decode m_Or_solve.2.1 21 = .ok (.iconst 0, 1) := by decide +kernel
theorem d_Or_solve_22 : decode m_Or_solve.2.1 22 = .ok (.aload_n 1, 1) := by decide +kernel
theorem d_Or_solve_23 : decode m_Or_solve.2.1 23 = .ok (.getfield 35, 3) := by decide +kernel
theorem d_Or_solve_26 : decode m_Or_solve.2.1 26 = .ok (.aload_n 1, 1) := by decide +kernel
theorem d_Or_solve_27 : decode m_Or_solve.2.1 27 = .ok (.getfield 38, 3) := by decide +kernel
theorem d_Or_solve_30 : decode m_Or_solve.2.1 30 = .ok (.iconst 0, 1) := by decide +kernel
theorem d_Or_solve_31 : decode m_Or_solve.2.1 31 = .ok (.invokestatic 41, 3) := by decide +kernel
set_option maxRecDepth 100000 in
theorem s_Or_solve_31 {G : r_X} {n : Nat} {h : r_HI} {g : r_HR} {z : r_HL} {v0 v1 v2 v3 v4 v5 : Value} : r_cl G m_Or_solve m_Or_search 31 [v0, v1, v2, v3, v4, v5] n h g z := r_clS d_Or_solve_31 w_Or_search (r_in 562 rfl rfl) a_Or_search n_Or (by decide +kernel : r_mh m_Or_search.1 6)
theorem d_Or_solve_34 : decode m_Or_solve.2.1 34 = .ok (.return_, 1) := by decide +kernel
theorem d_Or_search_0 : decode m_Or_search.2.1 0 = .ok (.iload_n 3, 1) := by decide +kernel
theorem d_Or_search_1 : decode m_Or_search.2.1 1 = .ok (.aload_n 0, 1) := by decide +kernel
theorem d_Or_search_2 : decode m_Or_search.2.1 2 = .ok (.getfield 22, 3) := by decide +kernel
theorem d_Or_search_5 : decode m_Or_search.2.1 5 = .ok (.if_icmp .lt 4, 3) := by decide +kernel
theorem d_Or_search_8 : decode m_Or_search.2.1 8 = .ok (.return_, 1) := by decide +kernel
theorem d_Or_search_9 : decode m_Or_search.2.1 9 = .ok (.iload_n 2, 1) := by decide +kernel
theorem d_Or_search_10 : decode m_Or_search.2.1 10 = .ok (.aload_n 0, 1) := by decide +kernel
theorem d_Or_search_11 : decode m_Or_search.2.1 11 = .ok (.getfield 18, 3) := by decide +kernel
theorem d_Or_search_14 : decode m_Or_search.2.1 14 = .ok (.if_icmp .ge 9, 3) := by decide +kernel
theorem d_Or_search_17 : decode m_Or_search.2.1 17 = .ok (.iload_n 2, 1) := by decide +kernel
theorem d_Or_search_18 : decode m_Or_search.2.1 18 = .ok (.bipush 7, 2) := by decide +kernel
theorem d_Or_search_20 : decode m_Or_search.2.1 20 = .ok (.if_icmp .lt 20, 3) := by decide +kernel
theorem d_Or_search_23 : decode m_Or_search.2.1 23 = .ok (.aload_n 0, 1) := by decide +kernel
theorem d_Or_search_24 : decode m_Or_search.2.1 24 = .ok (.iload_n 3, 1) := by decide +kernel
theorem d_Or_search_25 : decode m_Or_search.2.1 25 = .ok (.putfield 22, 3) := by decide +kernel
theorem d_Or_search_28 : decode m_Or_search.2.1 28 = .ok (.aload_n 0, 1) := by decide +kernel
theorem d_Or_search_29 : decode m_Or_search.2.1 29 = .ok (.getfield 9, 3) := by decide +kernel
theorem d_Or_search_32 : decode m_Or_search.2.1 32 = .ok (.aload_n 0, 1) := by decide +kernel
theorem d_Or_search_33 : decode m_Or_search.2.1 33 = .ok (.getfield 15, 3) := by decide +kernel
theorem d_Or_search_36 : decode m_Or_search.2.1 36 = .ok (.invokestatic 45, 3) := by decide +kernel
set_option maxRecDepth 100000 in
theorem s_Or_search_36 {G : r_X} {n : Nat} {h : r_HI} {g : r_HR} {z : r_HL} {v0 v1 : Value} : r_cl G m_Or_search m_Ra_copyRow 36 [v0, v1] n h g z := r_clSN d_Or_search_36 w_Ra_copyRow (List.mem_of_getElem? (i := 26) rfl) a_Ra_copyRow n_Ra (by decide +kernel : r_mh m_Ra_copyRow.1 2)
theorem d_Or_search_39 : decode m_Or_search.2.1 39 = .ok (.return_, 1) := by decide +kernel
theorem d_Or_search_40 : decode m_Or_search.2.1 40 = .ok (.iconst 0, 1) := by decide +kernel
theorem d_Or_search_41 : decode m_Or_search.2.1 41 = .ok (.istore 6, 2) := by decide +kernel
theorem d_Or_search_43 : decode m_Or_search.2.1 43 = .ok (.iload 6, 2) := by decide +kernel
theorem d_Or_search_45 : decode m_Or_search.2.1 45 = .ok (.aload_n 0, 1) := by decide +kernel
theorem d_Or_search_46 : decode m_Or_search.2.1 46 = .ok (.getfield 18, 3) := by decide +kernel
theorem d_Or_search_49 : decode m_Or_search.2.1 49 = .ok (.if_icmp .ge 89, 3) := by decide +kernel
theorem d_Or_search_52 : decode m_Or_search.2.1 52 = .ok (.iload 6, 2) := by decide +kernel
theorem d_Or_search_54 : decode m_Or_search.2.1 54 = .ok (.bipush 7, 2) := by decide +kernel
theorem d_Or_search_56 : decode m_Or_search.2.1 56 = .ok (.if_icmp .ge 82, 3) := by decide +kernel
theorem d_Or_search_59 : decode m_Or_search.2.1 59 = .ok (.iload 5, 2) := by decide +kernel
theorem d_Or_search_61 : decode m_Or_search.2.1 61 = .ok (.iload 6, 2) := by decide +kernel
theorem d_Or_search_63 : decode m_Or_search.2.1 63 = .ok (.invokestatic 49, 3) := by decide +kernel
set_option maxRecDepth 100000 in
theorem s_Or_search_63 {G : r_X} {n : Nat} {h : r_HI} {g : r_HR} {z : r_HL} {v0 v1 : Value} : r_cl G m_Or_search m_Ra_hasBit 63 [v0, v1] n h g z := r_clSN d_Or_search_63 w_Ra_hasBit (List.mem_of_getElem? (i := 27) rfl) a_Ra_hasBit n_Ra (by decide +kernel : r_mh m_Ra_hasBit.1 2)
theorem d_Or_search_66 : decode m_Or_search.2.1 66 = .ok (.ifCond .ne 66, 3) := by decide +kernel
theorem d_Or_search_69 : decode m_Or_search.2.1 69 = .ok (.aload_n 1, 1) := by decide +kernel
theorem d_Or_search_70 : decode m_Or_search.2.1 70 = .ok (.getfield 53, 3) := by decide +kernel
theorem d_Or_search_73 : decode m_Or_search.2.1 73 = .ok (.iload 6, 2) := by decide +kernel
theorem d_Or_search_75 : decode m_Or_search.2.1 75 = .ok (.invokestatic 56, 3) := by decide +kernel
set_option maxRecDepth 100000 in
theorem s_Or_search_75 {G : r_X} {n : Nat} {h : r_HI} {g : r_HR} {z : r_HL} {v0 v1 : Value} : r_cl G m_Or_search m_Ra_at 75 [v0, v1] n h g z := r_clSN d_Or_search_75 w_Ra_at (List.mem_of_getElem? (i := 28) rfl) a_Ra_at n_Ra (by decide +kernel : r_mh m_Ra_at.1 2)
theorem d_Or_search_78 : decode m_Or_search.2.1 78 = .ok (.istore 7, 2) := by decide +kernel
theorem d_Or_search_80 : decode m_Or_search.2.1 80 = .ok (.aload_n 0, 1) := by decide +kernel
theorem d_Or_search_81 : decode m_Or_search.2.1 81 = .ok (.getfield 9, 3) := by decide +kernel
theorem d_Or_search_84 : decode m_Or_search.2.1 84 = .ok (.iload_n 2, 1) := by decide +kernel
theorem d_Or_search_85 : decode m_Or_search.2.1 85 = .ok (.iload 6, 2) := by decide +kernel
theorem d_Or_search_87 : decode m_Or_search.2.1 87 = .ok (.invokestatic 60, 3) := by decide +kernel
set_option maxRecDepth 100000 in
theorem s_Or_search_87 {G : r_X} {n : Nat} {h : r_HI} {g : r_HR} {z : r_HL} {v0 v1 v2 : Value} : r_cl G m_Or_search m_Ra_put 87 [v0, v1, v2] n h g z := r_clSN d_Or_search_87 w_Ra_put (List.mem_of_getElem? (i := 29) rfl) a_Ra_put n_Ra (by decide +kernel : r_mh m_Ra_put.1 3)
theorem d_Or_search_90 : decode m_Or_search.2.1 90 = .ok (.aload_n 1, 1) := by decide +kernel
theorem d_Or_search_91 : decode m_Or_search.2.1 91 = .ok (.getfield 64, 3) := by decide +kernel
theorem d_Or_search_94 : decode m_Or_search.2.1 94 = .ok (.iload_n 3, 1) := by decide +kernel
theorem d_Or_search_95 : decode m_Or_search.2.1 95 = .ok (.iload 4, 2) := by decide +kernel
theorem d_Or_search_97 : decode m_Or_search.2.1 97 = .ok (.iload 7, 2) := by decide +kernel
theorem d_Or_search_99 : decode m_Or_search.2.1 99 = .ok (.aload_n 1, 1) := by decide +kernel
theorem d_Or_search_100 : decode m_Or_search.2.1 100 = .ok (.getfield 68, 3) := by decide +kernel
theorem d_Or_search_103 : decode m_Or_search.2.1 103 = .ok (.iload 6, 2) := by decide +kernel
theorem d_Or_search_105 : decode m_Or_search.2.1 105 = .ok (.invokestatic 56, 3) := by decide +kernel
set_option maxRecDepth 100000 in
theorem s_Or_search_105 {G : r_X} {n : Nat} {h : r_HI} {g : r_HR} {z : r_HL} {v0 v1 : Value} : r_cl G m_Or_search m_Ra_at 105 [v0, v1] n h g z := r_clSN d_Or_search_105 w_Ra_at (List.mem_of_getElem? (i := 28) rfl) a_Ra_at n_Ra (by decide +kernel : r_mh m_Ra_at.1 2)
theorem d_Or_search_108 : decode m_Or_search.2.1 108 = .ok (.invokevirtual 71, 3) := by decide +kernel
set_option maxRecDepth 100000 in
theorem s_Or_search_108 {G : r_X} {n : Nat} {h : r_HI} {g : r_HR} {z : r_HL} {k : Nat} {v0 v1 v2 v3 : Value} (hp : r_pk k = (0, 1)) (hk : k < n) : r_cl G m_Or_search m_Di_doneAt 108 (.ref (G.2.1 + k) :: [v0, v1, v2, v3]) n h g z := r_clV d_Or_search_108 w_Di_doneAt (r_in 571 rfl rfl) a_Di_doneAt (r_in 398 rfl rfl) n_Di (by decide +kernel : r_mh m_Di_doneAt.1 4) hp hk (by decide)
theorem d_Or_search_111 : decode m_Or_search.2.1 111 = .ok (.istore 8, 2) := by decide +kernel
theorem d_Or_search_113 : decode m_Or_search.2.1 113 = .ok (.aload_n 0, 1) := by decide +kernel
theorem d_Or_search_114 : decode m_Or_search.2.1 114 = .ok (.aload_n 1, 1) := by decide +kernel
theorem d_Or_search_115 : decode m_Or_search.2.1 115 = .ok (.iload_n 2, 1) := by decide +kernel
theorem d_Or_search_116 : decode m_Or_search.2.1 116 = .ok (.iconst 1, 1) := by decide +kernel
theorem d_Or_search_117 : decode m_Or_search.2.1 117 = .ok (.iadd, 1) := by decide +kernel
theorem d_Or_search_118 : decode m_Or_search.2.1 118 = .ok (.iload 8, 2) := by decide +kernel
theorem d_Or_search_120 : decode m_Or_search.2.1 120 = .ok (.iload 7, 2) := by decide +kernel
theorem d_Or_search_122 : decode m_Or_search.2.1 122 = .ok (.iload 5, 2) := by decide +kernel
theorem d_Or_search_124 : decode m_Or_search.2.1 124 = .ok (.iconst 1, 1) := by decide +kernel
theorem d_Or_search_125 : decode m_Or_search.2.1 125 = .ok (.iload 6, 2) := by decide +kernel
theorem d_Or_search_127 : decode m_Or_search.2.1 127 = .ok (.ishl, 1) := by decide +kernel
theorem d_Or_search_128 : decode m_Or_search.2.1 128 = .ok (.ior, 1) := by decide +kernel
theorem d_Or_search_129 : decode m_Or_search.2.1 129 = .ok (.invokestatic 41, 3) := by decide +kernel
set_option maxRecDepth 100000 in
theorem s_Or_search_129 {G : r_X} {n : Nat} {h : r_HI} {g : r_HR} {z : r_HL} {v0 v1 v2 v3 v4 v5 : Value} : r_cl G m_Or_search m_Or_search 129 [v0, v1, v2, v3, v4, v5] n h g z := r_clS d_Or_search_129 w_Or_search (r_in 562 rfl rfl) a_Or_search n_Or (by decide +kernel : r_mh m_Or_search.1 6)
theorem d_Or_search_132 : decode m_Or_search.2.1 132 = .ok (.iinc 6 1, 3) := by decide +kernel
theorem d_Or_search_135 : decode m_Or_search.2.1 135 = .ok (.goto (-92), 3) := by decide +kernel
theorem d_Or_search_138 : decode m_Or_search.2.1 138 = .ok (.return_, 1) := by decide +kernel
theorem d_Pa_init_0 : decode m_Pa_init.2.1 0 = .ok (.aload_n 0, 1) := by decide +kernel
theorem d_Pa_init_1 : decode m_Pa_init.2.1 1 = .ok (.invokespecial 3, 3) := by decide +kernel
set_option maxRecDepth 100000 in
theorem s_Pa_init_1 : Cond.methodLink m_Pa_init.1.cls 3 Lib.objectInit ∈ r_wg := r_in 28 rfl rfl
theorem d_Pa_init_4 : decode m_Pa_init.2.1 4 = .ok (.aload_n 0, 1) := by decide +kernel
theorem d_Pa_init_5 : decode m_Pa_init.2.1 5 = .ok (.bipush 28, 2) := by decide +kernel
theorem d_Pa_init_7 : decode m_Pa_init.2.1 7 = .ok (.newarray .int, 2) := by decide +kernel
theorem d_Pa_init_9 : decode m_Pa_init.2.1 9 = .ok (.putfield 9, 3) := by decide +kernel
theorem d_Pa_init_12 : decode m_Pa_init.2.1 12 = .ok (.aload_n 0, 1) := by decide +kernel
theorem d_Pa_init_13 : decode m_Pa_init.2.1 13 = .ok (.iconst 0, 1) := by decide +kernel
theorem d_Pa_init_14 : decode m_Pa_init.2.1 14 = .ok (.putfield 15, 3) := by decide +kernel
theorem d_Pa_init_17 : decode m_Pa_init.2.1 17 = .ok (.return_, 1) := by decide +kernel
theorem d_Pa_append_0 : decode m_Pa_append.2.1 0 = .ok (.aload_n 0, 1) := by decide +kernel
theorem d_Pa_append_1 : decode m_Pa_append.2.1 1 = .ok (.getfield 15, 3) := by decide +kernel
theorem d_Pa_append_4 : decode m_Pa_append.2.1 4 = .ok (.bipush 28, 2) := by decide +kernel
theorem d_Pa_append_6 : decode m_Pa_append.2.1 6 = .ok (.if_icmp .ge 25, 3) := by decide +kernel
theorem d_Pa_append_9 : decode m_Pa_append.2.1 9 = .ok (.aload_n 0, 1) := by decide +kernel
theorem d_Pa_append_10 : decode m_Pa_append.2.1 10 = .ok (.getfield 9, 3) := by decide +kernel
theorem d_Pa_append_13 : decode m_Pa_append.2.1 13 = .ok (.aload_n 0, 1) := by decide +kernel
theorem d_Pa_append_14 : decode m_Pa_append.2.1 14 = .ok (.getfield 15, 3) := by decide +kernel
theorem d_Pa_append_17 : decode m_Pa_append.2.1 17 = .ok (.iload_n 1, 1) := by decide +kernel
theorem d_Pa_append_18 : decode m_Pa_append.2.1 18 = .ok (.invokestatic 19, 3) := by decide +kernel
set_option maxRecDepth 100000 in
theorem s_Pa_append_18 {G : r_X} {n : Nat} {h : r_HI} {g : r_HR} {z : r_HL} {v0 v1 v2 : Value} : r_cl G m_Pa_append m_Ra_put 18 [v0, v1, v2] n h g z := r_clSN d_Pa_append_18 w_Ra_put (List.mem_of_getElem? (i := 14) rfl) a_Ra_put n_Ra (by decide +kernel : r_mh m_Ra_put.1 3)
theorem d_Pa_append_21 : decode m_Pa_append.2.1 21 = .ok (.aload_n 0, 1) := by decide +kernel
theorem d_Pa_append_22 : decode m_Pa_append.2.1 22 = .ok (.dup, 1) := by decide +kernel
theorem d_Pa_append_23 : decode m_Pa_append.2.1 23 = .ok (.getfield 15, 3) := by decide +kernel
theorem d_Pa_append_26 : decode m_Pa_append.2.1 26 = .ok (.iconst 1, 1) := by decide +kernel
theorem d_Pa_append_27 : decode m_Pa_append.2.1 27 = .ok (.iadd, 1) := by decide +kernel
theorem d_Pa_append_28 : decode m_Pa_append.2.1 28 = .ok (.putfield 15, 3) := by decide +kernel
theorem d_Pa_append_31 : decode m_Pa_append.2.1 31 = .ok (.aload_n 0, 1) := by decide +kernel
theorem d_Pa_append_32 : decode m_Pa_append.2.1 32 = .ok (.getfield 15, 3) := by decide +kernel
theorem d_Pa_append_35 : decode m_Pa_append.2.1 35 = .ok (.ireturn, 1) := by decide +kernel
theorem d_Pa_clear_0 : decode m_Pa_clear.2.1 0 = .ok (.aload_n 0, 1) := by decide +kernel
theorem d_Pa_clear_1 : decode m_Pa_clear.2.1 1 = .ok (.getfield 15, 3) := by decide +kernel
theorem d_Pa_clear_4 : decode m_Pa_clear.2.1 4 = .ok (.istore_n 1, 1) := by decide +kernel
theorem d_Pa_clear_5 : decode m_Pa_clear.2.1 5 = .ok (.aload_n 0, 1) := by decide +kernel
theorem d_Pa_clear_6 : decode m_Pa_clear.2.1 6 = .ok (.iconst 0, 1) := by decide +kernel
theorem d_Pa_clear_7 : decode m_Pa_clear.2.1 7 = .ok (.putfield 15, 3) := by decide +kernel
theorem d_Pa_clear_10 : decode m_Pa_clear.2.1 10 = .ok (.iload_n 1, 1) := by decide +kernel
theorem d_Pa_clear_11 : decode m_Pa_clear.2.1 11 = .ok (.ireturn, 1) := by decide +kernel
theorem d_Pa_firstFault_0 : decode m_Pa_firstFault.2.1 0 = .ok (.iconst (-1), 1) := by decide +kernel
theorem d_Pa_firstFault_1 : decode m_Pa_firstFault.2.1 1 = .ok (.istore_n 1, 1) := by decide +kernel
theorem d_Pa_firstFault_2 : decode m_Pa_firstFault.2.1 2 = .ok (.iconst 0, 1) := by decide +kernel
theorem d_Pa_firstFault_3 : decode m_Pa_firstFault.2.1 3 = .ok (.istore_n 2, 1) := by decide +kernel
theorem d_Pa_firstFault_4 : decode m_Pa_firstFault.2.1 4 = .ok (.iload_n 2, 1) := by decide +kernel
theorem d_Pa_firstFault_5 : decode m_Pa_firstFault.2.1 5 = .ok (.aload_n 0, 1) := by decide +kernel
theorem d_Pa_firstFault_6 : decode m_Pa_firstFault.2.1 6 = .ok (.getfield 15, 3) := by decide +kernel
theorem d_Pa_firstFault_9 : decode m_Pa_firstFault.2.1 9 = .ok (.if_icmp .ge 65, 3) := by decide +kernel
theorem d_Pa_firstFault_12 : decode m_Pa_firstFault.2.1 12 = .ok (.iload_n 2, 1) := by decide +kernel
theorem d_Pa_firstFault_13 : decode m_Pa_firstFault.2.1 13 = .ok (.bipush 28, 2) := by decide +kernel
theorem d_Pa_firstFault_15 : decode m_Pa_firstFault.2.1 15 = .ok (.if_icmp .ge 59, 3) := by decide +kernel
theorem d_Pa_firstFault_18 : decode m_Pa_firstFault.2.1 18 = .ok (.aload_n 0, 1) := by decide +kernel
theorem d_Pa_firstFault_19 : decode m_Pa_firstFault.2.1 19 = .ok (.getfield 9, 3) := by decide +kernel
theorem d_Pa_firstFault_22 : decode m_Pa_firstFault.2.1 22 = .ok (.iload_n 2, 1) := by decide +kernel
theorem d_Pa_firstFault_23 : decode m_Pa_firstFault.2.1 23 = .ok (.invokestatic 23, 3) := by decide +kernel
set_option maxRecDepth 100000 in
theorem s_Pa_firstFault_23 {G : r_X} {n : Nat} {h : r_HI} {g : r_HR} {z : r_HL} {v0 v1 : Value} : r_cl G m_Pa_firstFault m_Ra_at 23 [v0, v1] n h g z := r_clSN d_Pa_firstFault_23 w_Ra_at (List.mem_of_getElem? (i := 15) rfl) a_Ra_at n_Ra (by decide +kernel : r_mh m_Ra_at.1 2)
theorem d_Pa_firstFault_26 : decode m_Pa_firstFault.2.1 26 = .ok (.istore_n 3, 1) := by decide +kernel
theorem d_Pa_firstFault_27 : decode m_Pa_firstFault.2.1 27 = .ok (.iload_n 1, 1) := by decide +kernel
theorem d_Pa_firstFault_28 : decode m_Pa_firstFault.2.1 28 = .ok (.iconst (-1), 1) := by decide +kernel
theorem d_Pa_firstFault_29 : decode m_Pa_firstFault.2.1 29 = .ok (.if_icmp .ne 14, 3) := by decide +kernel
theorem d_Pa_firstFault_32 : decode m_Pa_firstFault.2.1 32 = .ok (.iload_n 2, 1) := by decide +kernel
theorem d_Pa_firstFault_33 : decode m_Pa_firstFault.2.1 33 = .ok (.iload_n 3, 1) := by decide +kernel
theorem d_Pa_firstFault_34 : decode m_Pa_firstFault.2.1 34 = .ok (.invokestatic 27, 3) := by decide +kernel
set_option maxRecDepth 100000 in
theorem s_Pa_firstFault_34 {G : r_X} {n : Nat} {h : r_HI} {g : r_HR} {z : r_HL} {v0 v1 : Value} : r_cl G m_Pa_firstFault m_Pa_fitsRings 34 [v0, v1] n h g z := r_clS d_Pa_firstFault_34 w_Pa_fitsRings (r_in 309 rfl rfl) a_Pa_fitsRings n_Pa (by decide +kernel : r_mh m_Pa_fitsRings.1 2)
theorem d_Pa_firstFault_37 : decode m_Pa_firstFault.2.1 37 = .ok (.ifCond .eq 16, 3) := by decide +kernel
theorem d_Pa_firstFault_40 : decode m_Pa_firstFault.2.1 40 = .ok (.goto 15, 3) := by decide +kernel
theorem d_Pa_firstFault_43 : decode m_Pa_firstFault.2.1 43 = .ok (.iload_n 2, 1) := by decide +kernel
theorem d_Pa_firstFault_44 : decode m_Pa_firstFault.2.1 44 = .ok (.iload_n 1, 1) := by decide +kernel
theorem d_Pa_firstFault_45 : decode m_Pa_firstFault.2.1 45 = .ok (.isub, 1) := by decide +kernel
theorem d_Pa_firstFault_46 : decode m_Pa_firstFault.2.1 46 = .ok (.iload_n 3, 1) := by decide +kernel
theorem d_Pa_firstFault_47 : decode m_Pa_firstFault.2.1 47 = .ok (.invokestatic 31, 3) := by decide +kernel
set_option maxRecDepth 100000 in
theorem s_Pa_firstFault_47 {G : r_X} {n : Nat} {h : r_HI} {g : r_HR} {z : r_HL} {v0 v1 : Value} : r_cl G m_Pa_firstFault m_Pa_fitsTail 47 [v0, v1] n h g z := r_clS d_Pa_firstFault_47 w_Pa_fitsTail (r_in 315 rfl rfl) a_Pa_fitsTail n_Pa (by decide +kernel : r_mh m_Pa_fitsTail.1 2)
theorem d_Pa_firstFault_50 : decode m_Pa_firstFault.2.1 50 = .ok (.ifCond .ne 5, 3) := by decide +kernel
theorem d_Pa_firstFault_53 : decode m_Pa_firstFault.2.1 53 = .ok (.iload_n 2, 1) := by decide +kernel
theorem d_Pa_firstFault_54 : decode m_Pa_firstFault.2.1 54 = .ok (.ireturn, 1) := by decide +kernel
theorem d_Pa_firstFault_55 : decode m_Pa_firstFault.2.1 55 = .ok (.iload_n 1, 1) := by decide +kernel
theorem d_Pa_firstFault_56 : decode m_Pa_firstFault.2.1 56 = .ok (.iconst (-1), 1) := by decide +kernel
theorem d_Pa_firstFault_57 : decode m_Pa_firstFault.2.1 57 = .ok (.if_icmp .ne 11, 3) := by decide +kernel
theorem d_Pa_firstFault_60 : decode m_Pa_firstFault.2.1 60 = .ok (.iload_n 3, 1) := by decide +kernel
theorem d_Pa_firstFault_61 : decode m_Pa_firstFault.2.1 61 = .ok (.bipush 59, 2) := by decide +kernel
theorem d_Pa_firstFault_63 : decode m_Pa_firstFault.2.1 63 = .ok (.if_icmp .ne 5, 3) := by decide +kernel
theorem d_Pa_firstFault_66 : decode m_Pa_firstFault.2.1 66 = .ok (.iload_n 2, 1) := by decide +kernel
theorem d_Pa_firstFault_67 : decode m_Pa_firstFault.2.1 67 = .ok (.istore_n 1, 1) := by decide +kernel
theorem d_Pa_firstFault_68 : decode m_Pa_firstFault.2.1 68 = .ok (.iinc 2 1, 3) := by decide +kernel
theorem d_Pa_firstFault_71 : decode m_Pa_firstFault.2.1 71 = .ok (.goto (-67), 3) := by decide +kernel
theorem d_Pa_firstFault_74 : decode m_Pa_firstFault.2.1 74 = .ok (.aload_n 0, 1) := by decide +kernel
theorem d_Pa_firstFault_75 : decode m_Pa_firstFault.2.1 75 = .ok (.getfield 15, 3) := by decide +kernel
theorem d_Pa_firstFault_78 : decode m_Pa_firstFault.2.1 78 = .ok (.ireturn, 1) := by decide +kernel
theorem d_Pa_isPlate_0 : decode m_Pa_isPlate.2.1 0 = .ok (.aload_n 0, 1) := by decide +kernel
theorem d_Pa_isPlate_1 : decode m_Pa_isPlate.2.1 1 = .ok (.invokevirtual 34, 3) := by decide +kernel
set_option maxRecDepth 100000 in
theorem s_Pa_isPlate_1 {G : r_X} {n : Nat} {h : r_HI} {g : r_HR} {z : r_HL} {k : Nat} (hp : r_pk k = (0, 5)) (hk : k < n) : r_cl G m_Pa_isPlate m_Pa_firstFault 1 (.ref (G.2.1 + k) :: []) n h g z := r_clV d_Pa_isPlate_1 w_Pa_firstFault (r_in 329 rfl rfl) a_Pa_firstFault (r_in 304 rfl rfl) n_Pa (by decide +kernel : r_mh m_Pa_firstFault.1 0) hp hk (by decide)
theorem d_Pa_isPlate_4 : decode m_Pa_isPlate.2.1 4 = .ok (.aload_n 0, 1) := by decide +kernel
theorem d_Pa_isPlate_5 : decode m_Pa_isPlate.2.1 5 = .ok (.getfield 15, 3) := by decide +kernel
theorem d_Pa_isPlate_8 : decode m_Pa_isPlate.2.1 8 = .ok (.if_icmp .ne 20, 3) := by decide +kernel
theorem d_Pa_isPlate_11 : decode m_Pa_isPlate.2.1 11 = .ok (.aload_n 0, 1) := by decide +kernel
theorem d_Pa_isPlate_12 : decode m_Pa_isPlate.2.1 12 = .ok (.getfield 15, 3) := by decide +kernel
theorem d_Pa_isPlate_15 : decode m_Pa_isPlate.2.1 15 = .ok (.aload_n 0, 1) := by decide +kernel
theorem d_Pa_isPlate_16 : decode m_Pa_isPlate.2.1 16 = .ok (.invokevirtual 38, 3) := by decide +kernel
set_option maxRecDepth 100000 in
theorem s_Pa_isPlate_16 {G : r_X} {n : Nat} {h : r_HI} {g : r_HR} {z : r_HL} {k : Nat} (hp : r_pk k = (0, 5)) (hk : k < n) : r_cl G m_Pa_isPlate m_Pa_ringsEnd 16 (.ref (G.2.1 + k) :: []) n h g z := r_clV d_Pa_isPlate_16 w_Pa_ringsEnd (r_in 330 rfl rfl) a_Pa_ringsEnd (r_in 332 rfl rfl) n_Pa (by decide +kernel : r_mh m_Pa_ringsEnd.1 0) hp hk (by decide)
theorem d_Pa_isPlate_19 : decode m_Pa_isPlate.2.1 19 = .ok (.iconst 5, 1) := by decide +kernel
theorem d_Pa_isPlate_20 : decode m_Pa_isPlate.2.1 20 = .ok (.iadd, 1) := by decide +kernel
theorem d_Pa_isPlate_21 : decode m_Pa_isPlate.2.1 21 = .ok (.if_icmp .ne 7, 3) := by decide +kernel
theorem d_Pa_isPlate_24 : decode m_Pa_isPlate.2.1 24 = .ok (.iconst 1, 1) := by decide +kernel
theorem d_Pa_isPlate_25 : decode m_Pa_isPlate.2.1 25 = .ok (.goto 4, 3) := by decide +kernel
theorem d_Pa_isPlate_28 : decode m_Pa_isPlate.2.1 28 = .ok (.iconst 0, 1) := by decide +kernel
theorem d_Pa_isPlate_29 : decode m_Pa_isPlate.2.1 29 = .ok (.ireturn, 1) := by decide +kernel
theorem d_Pa_ringsEnd_0 : decode m_Pa_ringsEnd.2.1 0 = .ok (.iconst 0, 1) := by decide +kernel
theorem d_Pa_ringsEnd_1 : decode m_Pa_ringsEnd.2.1 1 = .ok (.istore_n 1, 1) := by decide +kernel
theorem d_Pa_ringsEnd_2 : decode m_Pa_ringsEnd.2.1 2 = .ok (.iload_n 1, 1) := by decide +kernel
theorem d_Pa_ringsEnd_3 : decode m_Pa_ringsEnd.2.1 3 = .ok (.aload_n 0, 1) := by decide +kernel
theorem d_Pa_ringsEnd_4 : decode m_Pa_ringsEnd.2.1 4 = .ok (.getfield 15, 3) := by decide +kernel
theorem d_Pa_ringsEnd_7 : decode m_Pa_ringsEnd.2.1 7 = .ok (.if_icmp .ge 30, 3) := by decide +kernel
theorem d_Pa_ringsEnd_10 : decode m_Pa_ringsEnd.2.1 10 = .ok (.iload_n 1, 1) := by decide +kernel
theorem d_Pa_ringsEnd_11 : decode m_Pa_ringsEnd.2.1 11 = .ok (.bipush 28, 2) := by decide +kernel
theorem d_Pa_ringsEnd_13 : decode m_Pa_ringsEnd.2.1 13 = .ok (.if_icmp .ge 24, 3) := by decide +kernel
theorem d_Pa_ringsEnd_16 : decode m_Pa_ringsEnd.2.1 16 = .ok (.aload_n 0, 1) := by decide +kernel
theorem d_Pa_ringsEnd_17 : decode m_Pa_ringsEnd.2.1 17 = .ok (.getfield 9, 3) := by decide +kernel
theorem d_Pa_ringsEnd_20 : decode m_Pa_ringsEnd.2.1 20 = .ok (.iload_n 1, 1) := by decide +kernel
theorem d_Pa_ringsEnd_21 : decode m_Pa_ringsEnd.2.1 21 = .ok (.invokestatic 23, 3) := by decide +kernel
set_option maxRecDepth 100000 in
theorem s_Pa_ringsEnd_21 {G : r_X} {n : Nat} {h : r_HI} {g : r_HR} {z : r_HL} {v0 v1 : Value} : r_cl G m_Pa_ringsEnd m_Ra_at 21 [v0, v1] n h g z := r_clSN d_Pa_ringsEnd_21 w_Ra_at (List.mem_of_getElem? (i := 15) rfl) a_Ra_at n_Ra (by decide +kernel : r_mh m_Ra_at.1 2)
theorem d_Pa_ringsEnd_24 : decode m_Pa_ringsEnd.2.1 24 = .ok (.bipush 59, 2) := by decide +kernel
theorem d_Pa_ringsEnd_26 : decode m_Pa_ringsEnd.2.1 26 = .ok (.if_icmp .ne 5, 3) := by decide +kernel
theorem d_Pa_ringsEnd_29 : decode m_Pa_ringsEnd.2.1 29 = .ok (.iload_n 1, 1) := by decide +kernel
theorem d_Pa_ringsEnd_30 : decode m_Pa_ringsEnd.2.1 30 = .ok (.ireturn, 1) := by decide +kernel
theorem d_Pa_ringsEnd_31 : decode m_Pa_ringsEnd.2.1 31 = .ok (.iinc 1 1, 3) := by decide +kernel
theorem d_Pa_ringsEnd_34 : decode m_Pa_ringsEnd.2.1 34 = .ok (.goto (-32), 3) := by decide +kernel
theorem d_Pa_ringsEnd_37 : decode m_Pa_ringsEnd.2.1 37 = .ok (.bipush 28, 2) := by decide +kernel
theorem d_Pa_ringsEnd_39 : decode m_Pa_ringsEnd.2.1 39 = .ok (.ireturn, 1) := by decide +kernel
theorem d_Pa_policyKind_0 : decode m_Pa_policyKind.2.1 0 = .ok (.aload_n 0, 1) := by decide +kernel
theorem d_Pa_policyKind_1 : decode m_Pa_policyKind.2.1 1 = .ok (.getfield 9, 3) := by decide +kernel
theorem d_Pa_policyKind_4 : decode m_Pa_policyKind.2.1 4 = .ok (.aload_n 0, 1) := by decide +kernel
theorem d_Pa_policyKind_5 : decode m_Pa_policyKind.2.1 5 = .ok (.getfield 15, 3) := by decide +kernel
theorem d_Pa_policyKind_8 : decode m_Pa_policyKind.2.1 8 = .ok (.iconst 1, 1) := by decide +kernel
theorem d_Pa_policyKind_9 : decode m_Pa_policyKind.2.1 9 = .ok (.isub, 1) := by decide +kernel
theorem d_Pa_policyKind_10 : decode m_Pa_policyKind.2.1 10 = .ok (.invokestatic 23, 3) := by decide +kernel
set_option maxRecDepth 100000 in
theorem s_Pa_policyKind_10 {G : r_X} {n : Nat} {h : r_HI} {g : r_HR} {z : r_HL} {v0 v1 : Value} : r_cl G m_Pa_policyKind m_Ra_at 10 [v0, v1] n h g z := r_clSN d_Pa_policyKind_10 w_Ra_at (List.mem_of_getElem? (i := 15) rfl) a_Ra_at n_Ra (by decide +kernel : r_mh m_Ra_at.1 2)
theorem d_Pa_policyKind_13 : decode m_Pa_policyKind.2.1 13 = .ok (.invokestatic 41, 3) := by decide +kernel
set_option maxRecDepth 100000 in
theorem s_Pa_policyKind_13 {G : r_X} {n : Nat} {h : r_HI} {g : r_HR} {z : r_HL} {v0 : Value} : r_cl G m_Pa_policyKind m_Pa_kindOf 13 [v0] n h g z := r_clS d_Pa_policyKind_13 w_Pa_kindOf (r_in 318 rfl rfl) a_Pa_kindOf n_Pa (by decide +kernel : r_mh m_Pa_kindOf.1 1)
theorem d_Pa_policyKind_16 : decode m_Pa_policyKind.2.1 16 = .ok (.ireturn, 1) := by decide +kernel
theorem d_Pa_fitsRings_0 : decode m_Pa_fitsRings.2.1 0 = .ok (.iload_n 0, 1) := by decide +kernel
theorem d_Pa_fitsRings_1 : decode m_Pa_fitsRings.2.1 1 = .ok (.iconst 2, 1) := by decide +kernel
theorem d_Pa_fitsRings_2 : decode m_Pa_fitsRings.2.1 2 = .ok (.irem, 1) := by decide +kernel
theorem d_Pa_fitsRings_3 : decode m_Pa_fitsRings.2.1 3 = .ok (.iconst 1, 1) := by decide +kernel
theorem d_Pa_fitsRings_4 : decode m_Pa_fitsRings.2.1 4 = .ok (.if_icmp .ne 21, 3) := by decide +kernel
theorem d_Pa_fitsRings_7 : decode m_Pa_fitsRings.2.1 7 = .ok (.iload_n 1, 1) := by decide +kernel
theorem d_Pa_fitsRings_8 : decode m_Pa_fitsRings.2.1 8 = .ok (.bipush 97, 2) := by decide +kernel
theorem d_Pa_fitsRings_10 : decode m_Pa_fitsRings.2.1 10 = .ok (.if_icmp .lt 13, 3) := by decide +kernel
theorem d_Pa_fitsRings_13 : decode m_Pa_fitsRings.2.1 13 = .ok (.iload_n 1, 1) := by decide +kernel
theorem d_Pa_fitsRings_14 : decode m_Pa_fitsRings.2.1 14 = .ok (.bipush 121, 2) := by decide +kernel
theorem d_Pa_fitsRings_16 : decode m_Pa_fitsRings.2.1 16 = .ok (.if_icmp .ge 7, 3) := by decide +kernel
theorem d_Pa_fitsRings_19 : decode m_Pa_fitsRings.2.1 19 = .ok (.iconst 1, 1) := by decide +kernel
theorem d_Pa_fitsRings_20 : decode m_Pa_fitsRings.2.1 20 = .ok (.goto 4, 3) := by decide +kernel
theorem d_Pa_fitsRings_23 : decode m_Pa_fitsRings.2.1 23 = .ok (.iconst 0, 1) := by decide +kernel
theorem d_Pa_fitsRings_24 : decode m_Pa_fitsRings.2.1 24 = .ok (.ireturn, 1) := by decide +kernel
theorem d_Pa_fitsRings_25 : decode m_Pa_fitsRings.2.1 25 = .ok (.iload_n 1, 1) := by decide +kernel
theorem d_Pa_fitsRings_26 : decode m_Pa_fitsRings.2.1 26 = .ok (.bipush 59, 2) := by decide +kernel
theorem d_Pa_fitsRings_28 : decode m_Pa_fitsRings.2.1 28 = .ok (.if_icmp .ne 15, 3) := by decide +kernel
theorem d_Pa_fitsRings_31 : decode m_Pa_fitsRings.2.1 31 = .ok (.iload_n 0, 1) := by decide +kernel
theorem d_Pa_fitsRings_32 : decode m_Pa_fitsRings.2.1 32 = .ok (.bipush 8, 2) := by decide +kernel
theorem d_Pa_fitsRings_34 : decode m_Pa_fitsRings.2.1 34 = .ok (.if_icmp .lt 7, 3) := by decide +kernel
theorem d_Pa_fitsRings_37 : decode m_Pa_fitsRings.2.1 37 = .ok (.iconst 1, 1) := by decide +kernel
theorem d_Pa_fitsRings_38 : decode m_Pa_fitsRings.2.1 38 = .ok (.goto 4, 3) := by decide +kernel
theorem d_Pa_fitsRings_41 : decode m_Pa_fitsRings.2.1 41 = .ok (.iconst 0, 1) := by decide +kernel
theorem d_Pa_fitsRings_42 : decode m_Pa_fitsRings.2.1 42 = .ok (.ireturn, 1) := by decide +kernel
theorem d_Pa_fitsRings_43 : decode m_Pa_fitsRings.2.1 43 = .ok (.iload_n 0, 1) := by decide +kernel
theorem d_Pa_fitsRings_44 : decode m_Pa_fitsRings.2.1 44 = .ok (.bipush 20, 2) := by decide +kernel
theorem d_Pa_fitsRings_46 : decode m_Pa_fitsRings.2.1 46 = .ok (.if_icmp .ge 15, 3) := by decide +kernel
theorem d_Pa_fitsRings_49 : decode m_Pa_fitsRings.2.1 49 = .ok (.iload_n 1, 1) := by decide +kernel
theorem d_Pa_fitsRings_50 : decode m_Pa_fitsRings.2.1 50 = .ok (.invokestatic 45, 3) := by decide +kernel
set_option maxRecDepth 100000 in
theorem s_Pa_fitsRings_50 {G : r_X} {n : Nat} {h : r_HI} {g : r_HR} {z : r_HL} {v0 : Value} : r_cl G m_Pa_fitsRings m_Pa_placesOf 50 [v0] n h g z := r_clS d_Pa_fitsRings_50 w_Pa_placesOf (r_in 312 rfl rfl) a_Pa_placesOf n_Pa (by decide +kernel : r_mh m_Pa_placesOf.1 1)
theorem d_Pa_fitsRings_53 : decode m_Pa_fitsRings.2.1 53 = .ok (.iconst (-1), 1) := by decide +kernel
theorem d_Pa_fitsRings_54 : decode m_Pa_fitsRings.2.1 54 = .ok (.if_icmp .eq 7, 3) := by decide +kernel
theorem d_Pa_fitsRings_57 : decode m_Pa_fitsRings.2.1 57 = .ok (.iconst 1, 1) := by decide +kernel
theorem d_Pa_fitsRings_58 : decode m_Pa_fitsRings.2.1 58 = .ok (.goto 4, 3) := by decide +kernel
theorem d_Pa_fitsRings_61 : decode m_Pa_fitsRings.2.1 61 = .ok (.iconst 0, 1) := by decide +kernel
theorem d_Pa_fitsRings_62 : decode m_Pa_fitsRings.2.1 62 = .ok (.ireturn, 1) := by decide +kernel
theorem d_Pa_fitsTail_0 : decode m_Pa_fitsTail.2.1 0 = .ok (.iload_n 0, 1) := by decide +kernel
theorem d_Pa_fitsTail_1 : decode m_Pa_fitsTail.2.1 1 = .ok (.tableswitch 93 1 4 #[31, 49, 67, 79], 31) := by decide +kernel
theorem d_Pa_fitsTail_32 : decode m_Pa_fitsTail.2.1 32 = .ok (.iload_n 1, 1) := by decide +kernel
theorem d_Pa_fitsTail_33 : decode m_Pa_fitsTail.2.1 33 = .ok (.bipush 48, 2) := by decide +kernel
theorem d_Pa_fitsTail_35 : decode m_Pa_fitsTail.2.1 35 = .ok (.if_icmp .lt 13, 3) := by decide +kernel
theorem d_Pa_fitsTail_38 : decode m_Pa_fitsTail.2.1 38 = .ok (.iload_n 1, 1) := by decide +kernel
theorem d_Pa_fitsTail_39 : decode m_Pa_fitsTail.2.1 39 = .ok (.bipush 57, 2) := by decide +kernel
theorem d_Pa_fitsTail_41 : decode m_Pa_fitsTail.2.1 41 = .ok (.if_icmp .gt 7, 3) := by decide +kernel
theorem d_Pa_fitsTail_44 : decode m_Pa_fitsTail.2.1 44 = .ok (.iconst 1, 1) := by decide +kernel
theorem d_Pa_fitsTail_45 : decode m_Pa_fitsTail.2.1 45 = .ok (.goto 4, 3) := by decide +kernel
theorem d_Pa_fitsTail_48 : decode m_Pa_fitsTail.2.1 48 = .ok (.iconst 0, 1) := by decide +kernel
theorem d_Pa_fitsTail_49 : decode m_Pa_fitsTail.2.1 49 = .ok (.ireturn, 1) := by decide +kernel
theorem d_Pa_fitsTail_50 : decode m_Pa_fitsTail.2.1 50 = .ok (.iload_n 1, 1) := by decide +kernel
theorem d_Pa_fitsTail_51 : decode m_Pa_fitsTail.2.1 51 = .ok (.bipush 49, 2) := by decide +kernel
theorem d_Pa_fitsTail_53 : decode m_Pa_fitsTail.2.1 53 = .ok (.if_icmp .lt 13, 3) := by decide +kernel
theorem d_Pa_fitsTail_56 : decode m_Pa_fitsTail.2.1 56 = .ok (.iload_n 1, 1) := by decide +kernel
theorem d_Pa_fitsTail_57 : decode m_Pa_fitsTail.2.1 57 = .ok (.bipush 57, 2) := by decide +kernel
theorem d_Pa_fitsTail_59 : decode m_Pa_fitsTail.2.1 59 = .ok (.if_icmp .gt 7, 3) := by decide +kernel
theorem d_Pa_fitsTail_62 : decode m_Pa_fitsTail.2.1 62 = .ok (.iconst 1, 1) := by decide +kernel
theorem d_Pa_fitsTail_63 : decode m_Pa_fitsTail.2.1 63 = .ok (.goto 4, 3) := by decide +kernel
theorem d_Pa_fitsTail_66 : decode m_Pa_fitsTail.2.1 66 = .ok (.iconst 0, 1) := by decide +kernel
theorem d_Pa_fitsTail_67 : decode m_Pa_fitsTail.2.1 67 = .ok (.ireturn, 1) := by decide +kernel
theorem d_Pa_fitsTail_68 : decode m_Pa_fitsTail.2.1 68 = .ok (.iload_n 1, 1) := by decide +kernel
theorem d_Pa_fitsTail_69 : decode m_Pa_fitsTail.2.1 69 = .ok (.bipush 59, 2) := by decide +kernel
theorem d_Pa_fitsTail_71 : decode m_Pa_fitsTail.2.1 71 = .ok (.if_icmp .ne 7, 3) := by decide +kernel
theorem d_Pa_fitsTail_74 : decode m_Pa_fitsTail.2.1 74 = .ok (.iconst 1, 1) := by decide +kernel
theorem d_Pa_fitsTail_75 : decode m_Pa_fitsTail.2.1 75 = .ok (.goto 4, 3) := by decide +kernel
theorem d_Pa_fitsTail_78 : decode m_Pa_fitsTail.2.1 78 = .ok (.iconst 0, 1) := by decide +kernel
theorem d_Pa_fitsTail_79 : decode m_Pa_fitsTail.2.1 79 = .ok (.ireturn, 1) := by decide +kernel
theorem d_Pa_fitsTail_80 : decode m_Pa_fitsTail.2.1 80 = .ok (.iload_n 1, 1) := by decide +kernel
theorem d_Pa_fitsTail_81 : decode m_Pa_fitsTail.2.1 81 = .ok (.invokestatic 41, 3) := by decide +kernel
set_option maxRecDepth 100000 in
theorem s_Pa_fitsTail_81 {G : r_X} {n : Nat} {h : r_HI} {g : r_HR} {z : r_HL} {v0 : Value} : r_cl G m_Pa_fitsTail m_Pa_kindOf 81 [v0] n h g z := r_clS d_Pa_fitsTail_81 w_Pa_kindOf (r_in 318 rfl rfl) a_Pa_kindOf n_Pa (by decide +kernel : r_mh m_Pa_kindOf.1 1)
theorem d_Pa_fitsTail_84 : decode m_Pa_fitsTail.2.1 84 = .ok (.iconst (-1), 1) := by decide +kernel
theorem d_Pa_fitsTail_85 : decode m_Pa_fitsTail.2.1 85 = .ok (.if_icmp .eq 7, 3) := by decide +kernel
theorem d_Pa_fitsTail_88 : decode m_Pa_fitsTail.2.1 88 = .ok (.iconst 1, 1) := by decide +kernel
theorem d_Pa_fitsTail_89 : decode m_Pa_fitsTail.2.1 89 = .ok (.goto 4, 3) := by decide +kernel
theorem d_Pa_fitsTail_92 : decode m_Pa_fitsTail.2.1 92 = .ok (.iconst 0, 1) := by decide +kernel
theorem d_Pa_fitsTail_93 : decode m_Pa_fitsTail.2.1 93 = .ok (.ireturn, 1) := by decide +kernel
theorem d_Pa_fitsTail_94 : decode m_Pa_fitsTail.2.1 94 = .ok (.iconst 0, 1) := by decide +kernel
theorem d_Pa_fitsTail_95 : decode m_Pa_fitsTail.2.1 95 = .ok (.ireturn, 1) := by decide +kernel
theorem d_Pa_placesOf_0 : decode m_Pa_placesOf.2.1 0 = .ok (.iload_n 0, 1) := by decide +kernel
theorem d_Pa_placesOf_1 : decode m_Pa_placesOf.2.1 1 = .ok (.lookupswitch 74 #[(50, 59), (51, 61), (52, 63), (54, 65), (56, 68), (99, 71)], 59) := by decide +kernel
theorem d_Pa_placesOf_60 : decode m_Pa_placesOf.2.1 60 = .ok (.iconst 2, 1) := by decide +kernel
theorem d_Pa_placesOf_61 : decode m_Pa_placesOf.2.1 61 = .ok (.ireturn, 1) := by decide +kernel
theorem d_Pa_placesOf_62 : decode m_Pa_placesOf.2.1 62 = .ok (.iconst 3, 1) := by decide +kernel
theorem d_Pa_placesOf_63 : decode m_Pa_placesOf.2.1 63 = .ok (.ireturn, 1) := by decide +kernel
theorem d_Pa_placesOf_64 : decode m_Pa_placesOf.2.1 64 = .ok (.iconst 4, 1) := by decide +kernel
theorem d_Pa_placesOf_65 : decode m_Pa_placesOf.2.1 65 = .ok (.ireturn, 1) := by decide +kernel
theorem d_Pa_placesOf_66 : decode m_Pa_placesOf.2.1 66 = .ok (.bipush 6, 2) := by decide +kernel
theorem d_Pa_placesOf_68 : decode m_Pa_placesOf.2.1 68 = .ok (.ireturn, 1) := by decide +kernel
theorem d_Pa_placesOf_69 : decode m_Pa_placesOf.2.1 69 = .ok (.bipush 8, 2) := by decide +kernel
theorem d_Pa_placesOf_71 : decode m_Pa_placesOf.2.1 71 = .ok (.ireturn, 1) := by decide +kernel
theorem d_Pa_placesOf_72 : decode m_Pa_placesOf.2.1 72 = .ok (.bipush 12, 2) := by decide +kernel
theorem d_Pa_placesOf_74 : decode m_Pa_placesOf.2.1 74 = .ok (.ireturn, 1) := by decide +kernel
theorem d_Pa_placesOf_75 : decode m_Pa_placesOf.2.1 75 = .ok (.iconst (-1), 1) := by decide +kernel
theorem d_Pa_placesOf_76 : decode m_Pa_placesOf.2.1 76 = .ok (.ireturn, 1) := by decide +kernel
theorem d_Pa_kindOf_0 : decode m_Pa_kindOf.2.1 0 = .ok (.iload_n 0, 1) := by decide +kernel
theorem d_Pa_kindOf_1 : decode m_Pa_kindOf.2.1 1 = .ok (.tableswitch 81 102 115 #[71, 81, 81, 81, 81, 81, 81, 81, 73, 79, 81, 81, 77, 75], 71) := by decide +kernel
theorem d_Pa_kindOf_72 : decode m_Pa_kindOf.2.1 72 = .ok (.iconst 0, 1) := by decide +kernel
theorem d_Pa_kindOf_73 : decode m_Pa_kindOf.2.1 73 = .ok (.ireturn, 1) := by decide +kernel
theorem d_Pa_kindOf_74 : decode m_Pa_kindOf.2.1 74 = .ok (.iconst 1, 1) := by decide +kernel
theorem d_Pa_kindOf_75 : decode m_Pa_kindOf.2.1 75 = .ok (.ireturn, 1) := by decide +kernel
theorem d_Pa_kindOf_76 : decode m_Pa_kindOf.2.1 76 = .ok (.iconst 2, 1) := by decide +kernel
theorem d_Pa_kindOf_77 : decode m_Pa_kindOf.2.1 77 = .ok (.ireturn, 1) := by decide +kernel
theorem d_Pa_kindOf_78 : decode m_Pa_kindOf.2.1 78 = .ok (.iconst 3, 1) := by decide +kernel
theorem d_Pa_kindOf_79 : decode m_Pa_kindOf.2.1 79 = .ok (.ireturn, 1) := by decide +kernel
theorem d_Pa_kindOf_80 : decode m_Pa_kindOf.2.1 80 = .ok (.iconst 4, 1) := by decide +kernel
theorem d_Pa_kindOf_81 : decode m_Pa_kindOf.2.1 81 = .ok (.ireturn, 1) := by decide +kernel
theorem d_Pa_kindOf_82 : decode m_Pa_kindOf.2.1 82 = .ok (.iconst (-1), 1) := by decide +kernel
theorem d_Pa_kindOf_83 : decode m_Pa_kindOf.2.1 83 = .ok (.ireturn, 1) := by decide +kernel
theorem d_Ro_init_0 : decode m_Ro_init.2.1 0 = .ok (.aload_n 0, 1) := by decide +kernel
theorem d_Ro_init_1 : decode m_Ro_init.2.1 1 = .ok (.invokespecial 3, 3) := by decide +kernel
set_option maxRecDepth 100000 in
theorem s_Ro_init_1 {G : r_X} {n : Nat} {h : r_HI} {g : r_HR} {z : r_HL} {a : Nat} : r_cl G m_Ro_init m_Sw_init 1 (.ref a :: []) n h g z := r_clIN d_Ro_init_1 w_Sw_init rfl (List.mem_of_getElem? (i := 10) rfl) a_Sw_init rfl n_Sw (by decide +kernel : r_mh m_Sw_init.1 0)
theorem d_Ro_init_4 : decode m_Ro_init.2.1 4 = .ok (.return_, 1) := by decide +kernel
theorem d_Ro_kind_0 : decode m_Ro_kind.2.1 0 = .ok (.iconst 3, 1) := by decide +kernel
theorem d_Ro_kind_1 : decode m_Ro_kind.2.1 1 = .ok (.ireturn, 1) := by decide +kernel
theorem d_Ro_price_0 : decode m_Ro_price.2.1 0 = .ok (.aload_n 1, 1) := by decide +kernel
theorem d_Ro_price_1 : decode m_Ro_price.2.1 1 = .ok (.getfield 9, 3) := by decide +kernel
theorem d_Ro_price_4 : decode m_Ro_price.2.1 4 = .ok (.iload_n 2, 1) := by decide +kernel
theorem d_Ro_price_5 : decode m_Ro_price.2.1 5 = .ok (.invokestatic 15, 3) := by decide +kernel
set_option maxRecDepth 100000 in
theorem s_Ro_price_5 {G : r_X} {n : Nat} {h : r_HI} {g : r_HR} {z : r_HL} {v0 v1 : Value} : r_cl G m_Ro_price m_Ra_at 5 [v0, v1] n h g z := r_clSN d_Ro_price_5 w_Ra_at (List.mem_of_getElem? (i := 21) rfl) a_Ra_at n_Ra (by decide +kernel : r_mh m_Ra_at.1 2)
theorem d_Ro_price_8 : decode m_Ro_price.2.1 8 = .ok (.istore_n 3, 1) := by decide +kernel
theorem d_Ro_price_9 : decode m_Ro_price.2.1 9 = .ok (.iload_n 3, 1) := by decide +kernel
theorem d_Ro_price_10 : decode m_Ro_price.2.1 10 = .ok (.aload_n 1, 1) := by decide +kernel
theorem d_Ro_price_11 : decode m_Ro_price.2.1 11 = .ok (.getfield 19, 3) := by decide +kernel
theorem d_Ro_price_14 : decode m_Ro_price.2.1 14 = .ok (.if_icmp .lt 12, 3) := by decide +kernel
theorem d_Ro_price_17 : decode m_Ro_price.2.1 17 = .ok (.iload_n 3, 1) := by decide +kernel
theorem d_Ro_price_18 : decode m_Ro_price.2.1 18 = .ok (.aload_n 1, 1) := by decide +kernel
theorem d_Ro_price_19 : decode m_Ro_price.2.1 19 = .ok (.getfield 19, 3) := by decide +kernel
theorem d_Ro_price_22 : decode m_Ro_price.2.1 22 = .ok (.isub, 1) := by decide +kernel
theorem d_Ro_price_23 : decode m_Ro_price.2.1 23 = .ok (.goto 7, 3) := by decide +kernel
theorem d_Ro_price_26 : decode m_Ro_price.2.1 26 = .ok (.bipush 10, 2) := by decide +kernel
theorem d_Ro_price_28 : decode m_Ro_price.2.1 28 = .ok (.iload_n 3, 1) := by decide +kernel
theorem d_Ro_price_29 : decode m_Ro_price.2.1 29 = .ok (.iadd, 1) := by decide +kernel
theorem d_Ro_price_30 : decode m_Ro_price.2.1 30 = .ok (.ireturn, 1) := by decide +kernel
theorem d_Ro_turns_0 : decode m_Ro_turns.2.1 0 = .ok (.iconst 0, 1) := by decide +kernel
theorem d_Ro_turns_1 : decode m_Ro_turns.2.1 1 = .ok (.ireturn, 1) := by decide +kernel
theorem d_Si_init_0 : decode m_Si_init.2.1 0 = .ok (.aload_n 0, 1) := by decide +kernel
theorem d_Si_init_1 : decode m_Si_init.2.1 1 = .ok (.invokespecial 3, 3) := by decide +kernel
set_option maxRecDepth 100000 in
theorem s_Si_init_1 : Cond.methodLink m_Si_init.1.cls 3 Lib.objectInit ∈ r_wg := r_in 157 rfl rfl
theorem d_Si_init_4 : decode m_Si_init.2.1 4 = .ok (.aload_n 0, 1) := by decide +kernel
theorem d_Si_init_5 : decode m_Si_init.2.1 5 = .ok (.bipush 6, 2) := by decide +kernel
theorem d_Si_init_7 : decode m_Si_init.2.1 7 = .ok (.newarray .int, 2) := by decide +kernel
theorem d_Si_init_9 : decode m_Si_init.2.1 9 = .ok (.putfield 9, 3) := by decide +kernel
theorem d_Si_init_12 : decode m_Si_init.2.1 12 = .ok (.aload_n 0, 1) := by decide +kernel
theorem d_Si_init_13 : decode m_Si_init.2.1 13 = .ok (.bipush 6, 2) := by decide +kernel
theorem d_Si_init_15 : decode m_Si_init.2.1 15 = .ok (.newarray .int, 2) := by decide +kernel
theorem d_Si_init_17 : decode m_Si_init.2.1 17 = .ok (.putfield 15, 3) := by decide +kernel
theorem d_Si_init_20 : decode m_Si_init.2.1 20 = .ok (.aload_n 0, 1) := by decide +kernel
theorem d_Si_init_21 : decode m_Si_init.2.1 21 = .ok (.iconst 0, 1) := by decide +kernel
theorem d_Si_init_22 : decode m_Si_init.2.1 22 = .ok (.putfield 18, 3) := by decide +kernel
theorem d_Si_init_25 : decode m_Si_init.2.1 25 = .ok (.return_, 1) := by decide +kernel
theorem d_Si_append_0 : decode m_Si_append.2.1 0 = .ok (.aload_n 0, 1) := by decide +kernel
theorem d_Si_append_1 : decode m_Si_append.2.1 1 = .ok (.getfield 18, 3) := by decide +kernel
theorem d_Si_append_4 : decode m_Si_append.2.1 4 = .ok (.bipush 6, 2) := by decide +kernel
theorem d_Si_append_6 : decode m_Si_append.2.1 6 = .ok (.if_icmp .ge 37, 3) := by decide +kernel
theorem d_Si_append_9 : decode m_Si_append.2.1 9 = .ok (.aload_n 0, 1) := by decide +kernel
theorem d_Si_append_10 : decode m_Si_append.2.1 10 = .ok (.getfield 9, 3) := by decide +kernel
theorem d_Si_append_13 : decode m_Si_append.2.1 13 = .ok (.aload_n 0, 1) := by decide +kernel
theorem d_Si_append_14 : decode m_Si_append.2.1 14 = .ok (.getfield 18, 3) := by decide +kernel
theorem d_Si_append_17 : decode m_Si_append.2.1 17 = .ok (.iload_n 1, 1) := by decide +kernel
theorem d_Si_append_18 : decode m_Si_append.2.1 18 = .ok (.invokestatic 22, 3) := by decide +kernel
set_option maxRecDepth 100000 in
theorem s_Si_append_18 {G : r_X} {n : Nat} {h : r_HI} {g : r_HR} {z : r_HL} {v0 v1 v2 : Value} : r_cl G m_Si_append m_Ra_put 18 [v0, v1, v2] n h g z := r_clSN d_Si_append_18 w_Ra_put (List.mem_of_getElem? (i := 33) rfl) a_Ra_put n_Ra (by decide +kernel : r_mh m_Ra_put.1 3)
theorem d_Si_append_21 : decode m_Si_append.2.1 21 = .ok (.aload_n 0, 1) := by decide +kernel
theorem d_Si_append_22 : decode m_Si_append.2.1 22 = .ok (.getfield 15, 3) := by decide +kernel
theorem d_Si_append_25 : decode m_Si_append.2.1 25 = .ok (.aload_n 0, 1) := by decide +kernel
theorem d_Si_append_26 : decode m_Si_append.2.1 26 = .ok (.getfield 18, 3) := by decide +kernel
theorem d_Si_append_29 : decode m_Si_append.2.1 29 = .ok (.iload_n 2, 1) := by decide +kernel
theorem d_Si_append_30 : decode m_Si_append.2.1 30 = .ok (.invokestatic 22, 3) := by decide +kernel
set_option maxRecDepth 100000 in
theorem s_Si_append_30 {G : r_X} {n : Nat} {h : r_HI} {g : r_HR} {z : r_HL} {v0 v1 v2 : Value} : r_cl G m_Si_append m_Ra_put 30 [v0, v1, v2] n h g z := r_clSN d_Si_append_30 w_Ra_put (List.mem_of_getElem? (i := 33) rfl) a_Ra_put n_Ra (by decide +kernel : r_mh m_Ra_put.1 3)
theorem d_Si_append_33 : decode m_Si_append.2.1 33 = .ok (.aload_n 0, 1) := by decide +kernel
theorem d_Si_append_34 : decode m_Si_append.2.1 34 = .ok (.dup, 1) := by decide +kernel
theorem d_Si_append_35 : decode m_Si_append.2.1 35 = .ok (.getfield 18, 3) := by decide +kernel
theorem d_Si_append_38 : decode m_Si_append.2.1 38 = .ok (.iconst 1, 1) := by decide +kernel
theorem d_Si_append_39 : decode m_Si_append.2.1 39 = .ok (.iadd, 1) := by decide +kernel
theorem d_Si_append_40 : decode m_Si_append.2.1 40 = .ok (.putfield 18, 3) := by decide +kernel
theorem d_Si_append_43 : decode m_Si_append.2.1 43 = .ok (.aload_n 0, 1) := by decide +kernel
theorem d_Si_append_44 : decode m_Si_append.2.1 44 = .ok (.getfield 18, 3) := by decide +kernel
theorem d_Si_append_47 : decode m_Si_append.2.1 47 = .ok (.ireturn, 1) := by decide +kernel
theorem d_Si_clear_0 : decode m_Si_clear.2.1 0 = .ok (.aload_n 0, 1) := by decide +kernel
theorem d_Si_clear_1 : decode m_Si_clear.2.1 1 = .ok (.getfield 18, 3) := by decide +kernel
theorem d_Si_clear_4 : decode m_Si_clear.2.1 4 = .ok (.istore_n 1, 1) := by decide +kernel
theorem d_Si_clear_5 : decode m_Si_clear.2.1 5 = .ok (.aload_n 0, 1) := by decide +kernel
theorem d_Si_clear_6 : decode m_Si_clear.2.1 6 = .ok (.iconst 0, 1) := by decide +kernel
theorem d_Si_clear_7 : decode m_Si_clear.2.1 7 = .ok (.putfield 18, 3) := by decide +kernel
theorem d_Si_clear_10 : decode m_Si_clear.2.1 10 = .ok (.iload_n 1, 1) := by decide +kernel
theorem d_Si_clear_11 : decode m_Si_clear.2.1 11 = .ok (.ireturn, 1) := by decide +kernel
theorem d_Si_copyFrom_0 : decode m_Si_copyFrom.2.1 0 = .ok (.aload_n 1, 1) := by decide +kernel
theorem d_Si_copyFrom_1 : decode m_Si_copyFrom.2.1 1 = .ok (.getfield 9, 3) := by decide +kernel
theorem d_Si_copyFrom_4 : decode m_Si_copyFrom.2.1 4 = .ok (.aload_n 0, 1) := by decide +kernel
theorem d_Si_copyFrom_5 : decode m_Si_copyFrom.2.1 5 = .ok (.getfield 9, 3) := by decide +kernel
theorem d_Si_copyFrom_8 : decode m_Si_copyFrom.2.1 8 = .ok (.invokestatic 26, 3) := by decide +kernel
set_option maxRecDepth 100000 in
theorem s_Si_copyFrom_8 {G : r_X} {n : Nat} {h : r_HI} {g : r_HR} {z : r_HL} {v0 v1 : Value} : r_cl G m_Si_copyFrom m_Ra_copyRow 8 [v0, v1] n h g z := r_clSN d_Si_copyFrom_8 w_Ra_copyRow (List.mem_of_getElem? (i := 36) rfl) a_Ra_copyRow n_Ra (by decide +kernel : r_mh m_Ra_copyRow.1 2)
theorem d_Si_copyFrom_11 : decode m_Si_copyFrom.2.1 11 = .ok (.aload_n 1, 1) := by decide +kernel
theorem d_Si_copyFrom_12 : decode m_Si_copyFrom.2.1 12 = .ok (.getfield 15, 3) := by decide +kernel
theorem d_Si_copyFrom_15 : decode m_Si_copyFrom.2.1 15 = .ok (.aload_n 0, 1) := by decide +kernel
theorem d_Si_copyFrom_16 : decode m_Si_copyFrom.2.1 16 = .ok (.getfield 15, 3) := by decide +kernel
theorem d_Si_copyFrom_19 : decode m_Si_copyFrom.2.1 19 = .ok (.invokestatic 26, 3) := by decide +kernel
set_option maxRecDepth 100000 in
theorem s_Si_copyFrom_19 {G : r_X} {n : Nat} {h : r_HI} {g : r_HR} {z : r_HL} {v0 v1 : Value} : r_cl G m_Si_copyFrom m_Ra_copyRow 19 [v0, v1] n h g z := r_clSN d_Si_copyFrom_19 w_Ra_copyRow (List.mem_of_getElem? (i := 36) rfl) a_Ra_copyRow n_Ra (by decide +kernel : r_mh m_Ra_copyRow.1 2)
theorem d_Si_copyFrom_22 : decode m_Si_copyFrom.2.1 22 = .ok (.aload_n 0, 1) := by decide +kernel
theorem d_Si_copyFrom_23 : decode m_Si_copyFrom.2.1 23 = .ok (.aload_n 1, 1) := by decide +kernel
theorem d_Si_copyFrom_24 : decode m_Si_copyFrom.2.1 24 = .ok (.getfield 18, 3) := by decide +kernel
theorem d_Si_copyFrom_27 : decode m_Si_copyFrom.2.1 27 = .ok (.putfield 18, 3) := by decide +kernel
theorem d_Si_copyFrom_30 : decode m_Si_copyFrom.2.1 30 = .ok (.return_, 1) := by decide +kernel
theorem d_Si_fitting_0 : decode m_Si_fitting.2.1 0 = .ok (.iconst 0, 1) := by decide +kernel
theorem d_Si_fitting_1 : decode m_Si_fitting.2.1 1 = .ok (.istore_n 2, 1) := by decide +kernel
theorem d_Si_fitting_2 : decode m_Si_fitting.2.1 2 = .ok (.iconst 1, 1) := by decide +kernel
theorem d_Si_fitting_3 : decode m_Si_fitting.2.1 3 = .ok (.istore_n 3, 1) := by decide +kernel
theorem d_Si_fitting_4 : decode m_Si_fitting.2.1 4 = .ok (.iload_n 3, 1) := by decide +kernel
theorem d_Si_fitting_5 : decode m_Si_fitting.2.1 5 = .ok (.bipush 9, 2) := by decide +kernel
theorem d_Si_fitting_7 : decode m_Si_fitting.2.1 7 = .ok (.if_icmp .gt 26, 3) := by decide +kernel
theorem d_Si_fitting_10 : decode m_Si_fitting.2.1 10 = .ok (.aload_n 0, 1) := by decide +kernel
theorem d_Si_fitting_11 : decode m_Si_fitting.2.1 11 = .ok (.iload_n 1, 1) := by decide +kernel
theorem d_Si_fitting_12 : decode m_Si_fitting.2.1 12 = .ok (.iload_n 3, 1) := by decide +kernel
theorem d_Si_fitting_13 : decode m_Si_fitting.2.1 13 = .ok (.invokevirtual 30, 3) := by decide +kernel
set_option maxRecDepth 100000 in
theorem s_Si_fitting_13 {G : r_X} {n : Nat} {h : r_HI} {g : r_HR} {z : r_HL} {k : Nat} {v0 v1 : Value} (hp : r_pk k = (0, 7)) (hk : k < n) : r_cl G m_Si_fitting m_Si_isSo 13 (.ref (G.2.1 + k) :: [v0, v1]) n h g z := r_clV d_Si_fitting_13 w_Si_isSo (r_in 646 rfl rfl) a_Si_isSo (r_inP 3 rfl rfl) n_Si (by decide +kernel : r_mh m_Si_isSo.1 2) hp hk (by decide)
theorem d_Si_fitting_16 : decode m_Si_fitting.2.1 16 = .ok (.ifCond .eq 11, 3) := by decide +kernel
theorem d_Si_fitting_19 : decode m_Si_fitting.2.1 19 = .ok (.iload_n 2, 1) := by decide +kernel
theorem d_Si_fitting_20 : decode m_Si_fitting.2.1 20 = .ok (.iconst 1, 1) := by decide +kernel
theorem d_Si_fitting_21 : decode m_Si_fitting.2.1 21 = .ok (.iload_n 3, 1) := by decide +kernel
theorem d_Si_fitting_22 : decode m_Si_fitting.2.1 22 = .ok (.iconst 1, 1) := by decide +kernel
theorem d_Si_fitting_23 : decode m_Si_fitting.2.1 23 = .ok (.isub, 1) := by decide +kernel
theorem d_Si_fitting_24 : decode m_Si_fitting.2.1 24 = .ok (.ishl, 1) := by decide +kernel
theorem d_Si_fitting_25 : decode m_Si_fitting.2.1 25 = .ok (.ior, 1) := by decide +kernel
theorem d_Si_fitting_26 : decode m_Si_fitting.2.1 26 = .ok (.istore_n 2, 1) := by decide +kernel
theorem d_Si_fitting_27 : decode m_Si_fitting.2.1 27 = .ok (.iinc 3 1, 3) := by decide +kernel
theorem d_Si_fitting_30 : decode m_Si_fitting.2.1 30 = .ok (.goto (-26), 3) := by decide +kernel
theorem d_Si_fitting_33 : decode m_Si_fitting.2.1 33 = .ok (.iload_n 2, 1) := by decide +kernel
theorem d_Si_fitting_34 : decode m_Si_fitting.2.1 34 = .ok (.ireturn, 1) := by decide +kernel
theorem d_Si_isSo_0 : decode m_Si_isSo.2.1 0 = .ok (.iconst 0, 1) := by decide +kernel
theorem d_Si_isSo_1 : decode m_Si_isSo.2.1 1 = .ok (.istore_n 3, 1) := by decide +kernel
theorem d_Si_isSo_2 : decode m_Si_isSo.2.1 2 = .ok (.iload_n 3, 1) := by decide +kernel
theorem d_Si_isSo_3 : decode m_Si_isSo.2.1 3 = .ok (.aload_n 0, 1) := by decide +kernel
theorem d_Si_isSo_4 : decode m_Si_isSo.2.1 4 = .ok (.getfield 18, 3) := by decide +kernel
theorem d_Si_isSo_7 : decode m_Si_isSo.2.1 7 = .ok (.if_icmp .ge 45, 3) := by decide +kernel
theorem d_Si_isSo_10 : decode m_Si_isSo.2.1 10 = .ok (.iload_n 3, 1) := by decide +kernel
theorem d_Si_isSo_11 : decode m_Si_isSo.2.1 11 = .ok (.bipush 6, 2) := by decide +kernel
theorem d_Si_isSo_13 : decode m_Si_isSo.2.1 13 = .ok (.if_icmp .ge 39, 3) := by decide +kernel
theorem d_Si_isSo_16 : decode m_Si_isSo.2.1 16 = .ok (.iload_n 1, 1) := by decide +kernel
theorem d_Si_isSo_17 : decode m_Si_isSo.2.1 17 = .ok (.iload_n 2, 1) := by decide +kernel
theorem d_Si_isSo_18 : decode m_Si_isSo.2.1 18 = .ok (.aload_n 0, 1) := by decide +kernel
theorem d_Si_isSo_19 : decode m_Si_isSo.2.1 19 = .ok (.getfield 9, 3) := by decide +kernel
theorem d_Si_isSo_22 : decode m_Si_isSo.2.1 22 = .ok (.iload_n 3, 1) := by decide +kernel
theorem d_Si_isSo_23 : decode m_Si_isSo.2.1 23 = .ok (.invokestatic 34, 3) := by decide +kernel
set_option maxRecDepth 100000 in
theorem s_Si_isSo_23 {G : r_X} {n : Nat} {h : r_HI} {g : r_HR} {z : r_HL} {v0 v1 : Value} : r_cl G m_Si_isSo m_Ra_at 23 [v0, v1] n h g z := r_clSN d_Si_isSo_23 w_Ra_at (List.mem_of_getElem? (i := 34) rfl) a_Ra_at n_Ra (by decide +kernel : r_mh m_Ra_at.1 2)
theorem d_Si_isSo_26 : decode m_Si_isSo.2.1 26 = .ok (.imul, 1) := by decide +kernel
theorem d_Si_isSo_27 : decode m_Si_isSo.2.1 27 = .ok (.iadd, 1) := by decide +kernel
theorem d_Si_isSo_28 : decode m_Si_isSo.2.1 28 = .ok (.aload_n 0, 1) := by decide +kernel
theorem d_Si_isSo_29 : decode m_Si_isSo.2.1 29 = .ok (.getfield 15, 3) := by decide +kernel
theorem d_Si_isSo_32 : decode m_Si_isSo.2.1 32 = .ok (.iload_n 3, 1) := by decide +kernel
theorem d_Si_isSo_33 : decode m_Si_isSo.2.1 33 = .ok (.invokestatic 34, 3) := by decide +kernel
set_option maxRecDepth 100000 in
theorem s_Si_isSo_33 {G : r_X} {n : Nat} {h : r_HI} {g : r_HR} {z : r_HL} {v0 v1 : Value} : r_cl G m_Si_isSo m_Ra_at 33 [v0, v1] n h g z := r_clSN d_Si_isSo_33 w_Ra_at (List.mem_of_getElem? (i := 34) rfl) a_Ra_at n_Ra (by decide +kernel : r_mh m_Ra_at.1 2)
theorem d_Si_isSo_36 : decode m_Si_isSo.2.1 36 = .ok (.isub, 1) := by decide +kernel
theorem d_Si_isSo_37 : decode m_Si_isSo.2.1 37 = .ok (.invokestatic 38, 3) := by decide +kernel
set_option maxRecDepth 100000 in
theorem s_Si_isSo_37 {G : r_X} {n : Nat} {h : r_HI} {g : r_HR} {z : r_HL} {v0 : Value} : r_cl G m_Si_isSo m_Jm_abs 37 [v0] n h g z := r_clS d_Si_isSo_37 w_Jm_abs (r_in 651 rfl rfl) a_Jm_abs n_Jm (by decide +kernel : r_mh m_Jm_abs.1 1)
theorem d_Si_isSo_40 : decode m_Si_isSo.2.1 40 = .ok (.iconst 1, 1) := by decide +kernel
theorem d_Si_isSo_41 : decode m_Si_isSo.2.1 41 = .ok (.if_icmp .le 5, 3) := by decide +kernel
theorem d_Si_isSo_44 : decode m_Si_isSo.2.1 44 = .ok (.iconst 0, 1) := by decide +kernel
theorem d_Si_isSo_45 : decode m_Si_isSo.2.1 45 = .ok (.ireturn, 1) := by decide +kernel
theorem d_Si_isSo_46 : decode m_Si_isSo.2.1 46 = .ok (.iinc 3 1, 3) := by decide +kernel
theorem d_Si_isSo_49 : decode m_Si_isSo.2.1 49 = .ok (.goto (-47), 3) := by decide +kernel
theorem d_Si_isSo_52 : decode m_Si_isSo.2.1 52 = .ok (.iconst 1, 1) := by decide +kernel
theorem d_Si_isSo_53 : decode m_Si_isSo.2.1 53 = .ok (.ireturn, 1) := by decide +kernel
theorem d_So_init_0 : decode m_So_init.2.1 0 = .ok (.aload_n 0, 1) := by decide +kernel
theorem d_So_init_1 : decode m_So_init.2.1 1 = .ok (.invokespecial 3, 3) := by decide +kernel
set_option maxRecDepth 100000 in
theorem s_So_init_1 {G : r_X} {n : Nat} {h : r_HI} {g : r_HR} {z : r_HL} {a : Nat} : r_cl G m_So_init m_Ne_init 1 (.ref a :: []) n h g z := r_clIN d_So_init_1 w_Ne_init rfl (List.mem_of_getElem? (i := 12) rfl) a_Ne_init rfl n_Ne (by decide +kernel : r_mh m_Ne_init.1 0)
theorem d_So_init_4 : decode m_So_init.2.1 4 = .ok (.return_, 1) := by decide +kernel
theorem d_So_kind_0 : decode m_So_kind.2.1 0 = .ok (.iconst 4, 1) := by decide +kernel
theorem d_So_kind_1 : decode m_So_kind.2.1 1 = .ok (.ireturn, 1) := by decide +kernel
