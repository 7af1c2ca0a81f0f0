theorem d_Mo_priceOfTried_0 : decode m_Mo_priceOfTried.2.1 0 = .ok (.iconst 0, 1) := by decide +kernel
theorem d_Mo_priceOfTried_1 : decode m_Mo_priceOfTried.2.1 1 = .ok (.istore_n 2, 1) := by decide +kernel
theorem d_Mo_priceOfTried_2 : decode m_Mo_priceOfTried.2.1 2 = .ok (.iconst 0, 1) := by decide +kernel
theorem d_Mo_priceOfTried_3 : decode m_Mo_priceOfTried.2.1 3 = .ok (.istore_n 3, 1) := by decide +kernel
theorem d_Mo_priceOfTried_4 : decode m_Mo_priceOfTried.2.1 4 = .ok (.iload_n 3, 1) := by decide +kernel
theorem d_Mo_priceOfTried_5 : decode m_Mo_priceOfTried.2.1 5 = .ok (.iload_n 1, 1) := by decide +kernel
theorem d_Mo_priceOfTried_6 : decode m_Mo_priceOfTried.2.1 6 = .ok (.if_icmp .ge 93, 3) := by decide +kernel
theorem d_Mo_priceOfTried_9 : decode m_Mo_priceOfTried.2.1 9 = .ok (.iconst 0, 1) := by decide +kernel
theorem d_Mo_priceOfTried_10 : decode m_Mo_priceOfTried.2.1 10 = .ok (.istore 4, 2) := by decide +kernel
theorem d_Mo_priceOfTried_12 : decode m_Mo_priceOfTried.2.1 12 = .ok (.iload 4, 2) := by decide +kernel
theorem d_Mo_priceOfTried_14 : decode m_Mo_priceOfTried.2.1 14 = .ok (.iload_n 3, 1) := by decide +kernel
theorem d_Mo_priceOfTried_15 : decode m_Mo_priceOfTried.2.1 15 = .ok (.if_icmp .ge 78, 3) := by decide +kernel
theorem d_Mo_priceOfTried_18 : decode m_Mo_priceOfTried.2.1 18 = .ok (.aload_n 0, 1) := by decide +kernel
theorem d_Mo_priceOfTried_19 : decode m_Mo_priceOfTried.2.1 19 = .ok (.getfield 28, 3) := by decide +kernel
theorem d_Mo_priceOfTried_22 : decode m_Mo_priceOfTried.2.1 22 = .ok (.iload_n 3, 1) := by decide +kernel
theorem d_Mo_priceOfTried_23 : decode m_Mo_priceOfTried.2.1 23 = .ok (.iaload, 1) := by decide +kernel
theorem d_Mo_priceOfTried_24 : decode m_Mo_priceOfTried.2.1 24 = .ok (.aload_n 0, 1) := by decide +kernel
theorem d_Mo_priceOfTried_25 : decode m_Mo_priceOfTried.2.1 25 = .ok (.getfield 28, 3) := by decide +kernel
theorem d_Mo_priceOfTried_28 : decode m_Mo_priceOfTried.2.1 28 = .ok (.iload 4, 2) := by decide +kernel
theorem d_Mo_priceOfTried_30 : decode m_Mo_priceOfTried.2.1 30 = .ok (.iaload, 1) := by decide +kernel
theorem d_Mo_priceOfTried_31 : decode m_Mo_priceOfTried.2.1 31 = .ok (.if_icmp .le 20, 3) := by decide +kernel
theorem d_Mo_priceOfTried_34 : decode m_Mo_priceOfTried.2.1 34 = .ok (.aload_n 0, 1) := by decide +kernel
theorem d_Mo_priceOfTried_35 : decode m_Mo_priceOfTried.2.1 35 = .ok (.getfield 28, 3) := by decide +kernel
theorem d_Mo_priceOfTried_38 : decode m_Mo_priceOfTried.2.1 38 = .ok (.iload_n 3, 1) := by decide +kernel
theorem d_Mo_priceOfTried_39 : decode m_Mo_priceOfTried.2.1 39 = .ok (.iaload, 1) := by decide +kernel
theorem d_Mo_priceOfTried_40 : decode m_Mo_priceOfTried.2.1 40 = .ok (.aload_n 0, 1) := by decide +kernel
theorem d_Mo_priceOfTried_41 : decode m_Mo_priceOfTried.2.1 41 = .ok (.getfield 28, 3) := by decide +kernel
theorem d_Mo_priceOfTried_44 : decode m_Mo_priceOfTried.2.1 44 = .ok (.iload 4, 2) := by decide +kernel
theorem d_Mo_priceOfTried_46 : decode m_Mo_priceOfTried.2.1 46 = .ok (.iaload, 1) := by decide +kernel
theorem d_Mo_priceOfTried_47 : decode m_Mo_priceOfTried.2.1 47 = .ok (.isub, 1) := by decide +kernel
theorem d_Mo_priceOfTried_48 : decode m_Mo_priceOfTried.2.1 48 = .ok (.goto 17, 3) := by decide +kernel
theorem d_Mo_priceOfTried_51 : decode m_Mo_priceOfTried.2.1 51 = .ok (.aload_n 0, 1) := by decide +kernel
theorem d_Mo_priceOfTried_52 : decode m_Mo_priceOfTried.2.1 52 = .ok (.getfield 28, 3) := by decide +kernel
theorem d_Mo_priceOfTried_55 : decode m_Mo_priceOfTried.2.1 55 = .ok (.iload 4, 2) := by decide +kernel
theorem d_Mo_priceOfTried_57 : decode m_Mo_priceOfTried.2.1 57 = .ok (.iaload, 1) := by decide +kernel
theorem d_Mo_priceOfTried_58 : decode m_Mo_priceOfTried.2.1 58 = .ok (.aload_n 0, 1) := by decide +kernel
theorem d_Mo_priceOfTried_59 : decode m_Mo_priceOfTried.2.1 59 = .ok (.getfield 28, 3) := by decide +kernel
theorem d_Mo_priceOfTried_62 : decode m_Mo_priceOfTried.2.1 62 = .ok (.iload_n 3, 1) := by decide +kernel
theorem d_Mo_priceOfTried_63 : decode m_Mo_priceOfTried.2.1 63 = .ok (.iaload, 1) := by decide +kernel
theorem d_Mo_priceOfTried_64 : decode m_Mo_priceOfTried.2.1 64 = .ok (.isub, 1) := by decide +kernel
theorem d_Mo_priceOfTried_65 : decode m_Mo_priceOfTried.2.1 65 = .ok (.istore 5, 2) := by decide +kernel
theorem d_Mo_priceOfTried_67 : decode m_Mo_priceOfTried.2.1 67 = .ok (.iload_n 2, 1) := by decide +kernel
theorem d_Mo_priceOfTried_68 : decode m_Mo_priceOfTried.2.1 68 = .ok (.aload_n 0, 1) := by decide +kernel
theorem d_Mo_priceOfTried_69 : decode m_Mo_priceOfTried.2.1 69 = .ok (.getfield 31, 3) := by decide +kernel
theorem d_Mo_priceOfTried_72 : decode m_Mo_priceOfTried.2.1 72 = .ok (.iload_n 3, 1) := by decide +kernel
theorem d_Mo_priceOfTried_73 : decode m_Mo_priceOfTried.2.1 73 = .ok (.iaload, 1) := by decide +kernel
theorem d_Mo_priceOfTried_74 : decode m_Mo_priceOfTried.2.1 74 = .ok (.aload_n 0, 1) := by decide +kernel
theorem d_Mo_priceOfTried_75 : decode m_Mo_priceOfTried.2.1 75 = .ok (.getfield 31, 3) := by decide +kernel
theorem d_Mo_priceOfTried_78 : decode m_Mo_priceOfTried.2.1 78 = .ok (.iload 4, 2) := by decide +kernel
theorem d_Mo_priceOfTried_80 : decode m_Mo_priceOfTried.2.1 80 = .ok (.iaload, 1) := by decide +kernel
theorem d_Mo_priceOfTried_81 : decode m_Mo_priceOfTried.2.1 81 = .ok (.imul, 1) := by decide +kernel
theorem d_Mo_priceOfTried_82 : decode m_Mo_priceOfTried.2.1 82 = .ok (.iload 5, 2) := by decide +kernel
theorem d_Mo_priceOfTried_84 : decode m_Mo_priceOfTried.2.1 84 = .ok (.imul, 1) := by decide +kernel
theorem d_Mo_priceOfTried_85 : decode m_Mo_priceOfTried.2.1 85 = .ok (.iadd, 1) := by decide +kernel
theorem d_Mo_priceOfTried_86 : decode m_Mo_priceOfTried.2.1 86 = .ok (.istore_n 2, 1) := by decide +kernel
theorem d_Mo_priceOfTried_87 : decode m_Mo_priceOfTried.2.1 87 = .ok (.iinc 4 1, 3) := by decide +kernel
theorem d_Mo_priceOfTried_90 : decode m_Mo_priceOfTried.2.1 90 = .ok (.goto (-78), 3) := by decide +kernel
theorem d_Mo_priceOfTried_93 : decode m_Mo_priceOfTried.2.1 93 = .ok (.iinc 3 1, 3) := by decide +kernel
theorem d_Mo_priceOfTried_96 : decode m_Mo_priceOfTried.2.1 96 = .ok (.goto (-92), 3) := by decide +kernel
theorem d_Mo_priceOfTried_99 : decode m_Mo_priceOfTried.2.1 99 = .ok (.iload_n 2, 1) := by decide +kernel
theorem d_Mo_priceOfTried_100 : decode m_Mo_priceOfTried.2.1 100 = .ok (.ireturn, 1) := by decide +kernel
theorem d_Mo_layOf_0 : decode m_Mo_layOf.2.1 0 = .ok (.aload_n 0, 1) := by decide +kernel
theorem d_Mo_layOf_1 : decode m_Mo_layOf.2.1 1 = .ok (.invokevirtual 242, 3) := by decide +kernel
set_option maxRecDepth 100000 in
theorem s_Mo_layOf_1 {G : r_X} {n : Nat} {h : r_HI} {g : r_HR} {z : r_HL} {k : Nat} (hp : r_pk k = (0, 12)) (hk : k < n) : r_cl G m_Mo_layOf m_Mo_things 1 (.ref (G.2.1 + k) :: []) n h g z := r_clV d_Mo_layOf_1 w_Mo_things (r_in 1099 rfl rfl) a_Mo_things (r_inP 38 rfl rfl) n_Mo (by decide +kernel : r_mh m_Mo_things.1 0) hp hk (by decide)
theorem d_Mo_layOf_4 : decode m_Mo_layOf.2.1 4 = .ok (.istore_n 2, 1) := by decide +kernel
theorem d_Mo_layOf_5 : decode m_Mo_layOf.2.1 5 = .ok (.iconst 0, 1) := by decide +kernel
theorem d_Mo_layOf_6 : decode m_Mo_layOf.2.1 6 = .ok (.istore_n 3, 1) := by decide +kernel
theorem d_Mo_layOf_7 : decode m_Mo_layOf.2.1 7 = .ok (.ldc 216, 2) := by decide +kernel
theorem d_Mo_layOf_9 : decode m_Mo_layOf.2.1 9 = .ok (.istore 4, 2) := by decide +kernel
theorem d_Mo_layOf_11 : decode m_Mo_layOf.2.1 11 = .ok (.iconst 0, 1) := by decide +kernel
theorem d_Mo_layOf_12 : decode m_Mo_layOf.2.1 12 = .ok (.istore 5, 2) := by decide +kernel
theorem d_Mo_layOf_14 : decode m_Mo_layOf.2.1 14 = .ok (.iload 5, 2) := by decide +kernel
theorem d_Mo_layOf_16 : decode m_Mo_layOf.2.1 16 = .ok (.iload_n 2, 1) := by decide +kernel
theorem d_Mo_layOf_17 : decode m_Mo_layOf.2.1 17 = .ok (.invokestatic 217, 3) := by decide +kernel
set_option maxRecDepth 100000 in
theorem s_Mo_layOf_17 {G : r_X} {n : Nat} {h : r_HI} {g : r_HR} {z : r_HL} {v0 : Value} : r_cl G m_Mo_layOf m_Mo_factorial 17 [v0] n h g z := r_clS d_Mo_layOf_17 w_Mo_factorial (r_in 1078 rfl rfl) a_Mo_factorial n_Mo (by decide +kernel : r_mh m_Mo_factorial.1 1)
theorem d_Mo_layOf_20 : decode m_Mo_layOf.2.1 20 = .ok (.if_icmp .ge 53, 3) := by decide +kernel
theorem d_Mo_layOf_23 : decode m_Mo_layOf.2.1 23 = .ok (.aload_n 0, 1) := by decide +kernel
theorem d_Mo_layOf_24 : decode m_Mo_layOf.2.1 24 = .ok (.iload 5, 2) := by decide +kernel
theorem d_Mo_layOf_26 : decode m_Mo_layOf.2.1 26 = .ok (.iload_n 2, 1) := by decide +kernel
theorem d_Mo_layOf_27 : decode m_Mo_layOf.2.1 27 = .ok (.invokevirtual 223, 3) := by decide +kernel
set_option maxRecDepth 100000 in
theorem s_Mo_layOf_27 {G : r_X} {n : Nat} {h : r_HI} {g : r_HR} {z : r_HL} {k : Nat} {v0 v1 : Value} (hp : r_pk k = (0, 12)) (hk : k < n) : r_cl G m_Mo_layOf m_Mo_layTried 27 (.ref (G.2.1 + k) :: [v0, v1]) n h g z := r_clV d_Mo_layOf_27 w_Mo_layTried (r_in 1074 rfl rfl) a_Mo_layTried (r_inP 35 rfl rfl) n_Mo (by decide +kernel : r_mh m_Mo_layTried.1 2) hp hk (by decide)
theorem d_Mo_layOf_30 : decode m_Mo_layOf.2.1 30 = .ok (.aload_n 0, 1) := by decide +kernel
theorem d_Mo_layOf_31 : decode m_Mo_layOf.2.1 31 = .ok (.iload_n 2, 1) := by decide +kernel
theorem d_Mo_layOf_32 : decode m_Mo_layOf.2.1 32 = .ok (.invokevirtual 245, 3) := by decide +kernel
set_option maxRecDepth 100000 in
theorem s_Mo_layOf_32 {G : r_X} {n : Nat} {h : r_HI} {g : r_HR} {z : r_HL} {k : Nat} {v0 : Value} (hp : r_pk k = (0, 12)) (hk : k < n) : r_cl G m_Mo_layOf m_Mo_priceOfTried 32 (.ref (G.2.1 + k) :: [v0]) n h g z := r_clV d_Mo_layOf_32 w_Mo_priceOfTried (r_in 1103 rfl rfl) a_Mo_priceOfTried (r_inP 39 rfl rfl) n_Mo (by decide +kernel : r_mh m_Mo_priceOfTried.1 1) hp hk (by decide)
theorem d_Mo_layOf_35 : decode m_Mo_layOf.2.1 35 = .ok (.istore 6, 2) := by decide +kernel
theorem d_Mo_layOf_37 : decode m_Mo_layOf.2.1 37 = .ok (.iload 6, 2) := by decide +kernel
theorem d_Mo_layOf_39 : decode m_Mo_layOf.2.1 39 = .ok (.iload 4, 2) := by decide +kernel
theorem d_Mo_layOf_41 : decode m_Mo_layOf.2.1 41 = .ok (.if_icmp .ge 8, 3) := by decide +kernel
theorem d_Mo_layOf_44 : decode m_Mo_layOf.2.1 44 = .ok (.iload 5, 2) := by decide +kernel
theorem d_Mo_layOf_46 : decode m_Mo_layOf.2.1 46 = .ok (.goto 4, 3) := by decide +kernel
theorem d_Mo_layOf_49 : decode m_Mo_layOf.2.1 49 = .ok (.iload_n 3, 1) := by decide +kernel
theorem d_Mo_layOf_50 : decode m_Mo_layOf.2.1 50 = .ok (.istore_n 3, 1) := by decide +kernel
theorem d_Mo_layOf_51 : decode m_Mo_layOf.2.1 51 = .ok (.iload 6, 2) := by decide +kernel
theorem d_Mo_layOf_53 : decode m_Mo_layOf.2.1 53 = .ok (.iload 4, 2) := by decide +kernel
theorem d_Mo_layOf_55 : decode m_Mo_layOf.2.1 55 = .ok (.if_icmp .ge 8, 3) := by decide +kernel
theorem d_Mo_layOf_58 : decode m_Mo_layOf.2.1 58 = .ok (.iload 6, 2) := by decide +kernel
theorem d_Mo_layOf_60 : decode m_Mo_layOf.2.1 60 = .ok (.goto 5, 3) := by decide +kernel
theorem d_Mo_layOf_63 : decode m_Mo_layOf.2.1 63 = .ok (.iload 4, 2) := by decide +kernel
theorem d_Mo_layOf_65 : decode m_Mo_layOf.2.1 65 = .ok (.istore 4, 2) := by decide +kernel
theorem d_Mo_layOf_67 : decode m_Mo_layOf.2.1 67 = .ok (.iinc 5 1, 3) := by decide +kernel
theorem d_Mo_layOf_70 : decode m_Mo_layOf.2.1 70 = .ok (.goto (-56), 3) := by decide +kernel
theorem d_Mo_layOf_73 : decode m_Mo_layOf.2.1 73 = .ok (.aload_n 0, 1) := by decide +kernel
theorem d_Mo_layOf_74 : decode m_Mo_layOf.2.1 74 = .ok (.iload_n 3, 1) := by decide +kernel
theorem d_Mo_layOf_75 : decode m_Mo_layOf.2.1 75 = .ok (.iload_n 2, 1) := by decide +kernel
theorem d_Mo_layOf_76 : decode m_Mo_layOf.2.1 76 = .ok (.invokevirtual 223, 3) := by decide +kernel
set_option maxRecDepth 100000 in
theorem s_Mo_layOf_76 {G : r_X} {n : Nat} {h : r_HI} {g : r_HR} {z : r_HL} {k : Nat} {v0 v1 : Value} (hp : r_pk k = (0, 12)) (hk : k < n) : r_cl G m_Mo_layOf m_Mo_layTried 76 (.ref (G.2.1 + k) :: [v0, v1]) n h g z := r_clV d_Mo_layOf_76 w_Mo_layTried (r_in 1074 rfl rfl) a_Mo_layTried (r_inP 35 rfl rfl) n_Mo (by decide +kernel : r_mh m_Mo_layTried.1 2) hp hk (by decide)
theorem d_Mo_layOf_79 : decode m_Mo_layOf.2.1 79 = .ok (.iload_n 1, 1) := by decide +kernel
theorem d_Mo_layOf_80 : decode m_Mo_layOf.2.1 80 = .ok (.ifCond .ne 8, 3) := by decide +kernel
theorem d_Mo_layOf_83 : decode m_Mo_layOf.2.1 83 = .ok (.iload 4, 2) := by decide +kernel
theorem d_Mo_layOf_85 : decode m_Mo_layOf.2.1 85 = .ok (.goto 24, 3) := by decide +kernel
theorem d_Mo_layOf_88 : decode m_Mo_layOf.2.1 88 = .ok (.iload_n 1, 1) := by decide +kernel
theorem d_Mo_layOf_89 : decode m_Mo_layOf.2.1 89 = .ok (.bipush 10, 2) := by decide +kernel
theorem d_Mo_layOf_91 : decode m_Mo_layOf.2.1 91 = .ok (.isub, 1) := by decide +kernel
theorem d_Mo_layOf_92 : decode m_Mo_layOf.2.1 92 = .ok (.iload_n 2, 1) := by decide +kernel
theorem d_Mo_layOf_93 : decode m_Mo_layOf.2.1 93 = .ok (.if_icmp .ge 15, 3) := by decide +kernel
theorem d_Mo_layOf_96 : decode m_Mo_layOf.2.1 96 = .ok (.aload_n 0, 1) := by decide +kernel
theorem d_Mo_layOf_97 : decode m_Mo_layOf.2.1 97 = .ok (.getfield 28, 3) := by decide +kernel
theorem d_Mo_layOf_100 : decode m_Mo_layOf.2.1 100 = .ok (.iload_n 1, 1) := by decide +kernel
theorem d_Mo_layOf_101 : decode m_Mo_layOf.2.1 101 = .ok (.bipush 10, 2) := by decide +kernel
theorem d_Mo_layOf_103 : decode m_Mo_layOf.2.1 103 = .ok (.isub, 1) := by decide +kernel
theorem d_Mo_layOf_104 : decode m_Mo_layOf.2.1 104 = .ok (.iaload, 1) := by decide +kernel
theorem d_Mo_layOf_105 : decode m_Mo_layOf.2.1 105 = .ok (.goto 4, 3) := by decide +kernel
theorem d_Mo_layOf_108 : decode m_Mo_layOf.2.1 108 = .ok (.iconst (-1), 1) := by decide +kernel
theorem d_Mo_layOf_109 : decode m_Mo_layOf.2.1 109 = .ok (.ireturn, 1) := by decide +kernel
theorem d_Mo_lay_0 : decode m_Mo_lay.2.1 0 = .ok (.iload_n 1, 1) := by decide +kernel
theorem d_Mo_lay_1 : decode m_Mo_lay.2.1 1 = .ok (.ifCond .eq 20, 3) := by decide +kernel
theorem d_Mo_lay_4 : decode m_Mo_lay.2.1 4 = .ok (.iload_n 1, 1) := by decide +kernel
theorem d_Mo_lay_5 : decode m_Mo_lay.2.1 5 = .ok (.i2l, 1) := by decide +kernel
theorem d_Mo_lay_6 : decode m_Mo_lay.2.1 6 = .ok (.ldc2_w 230, 3) := by decide +kernel
theorem d_Mo_lay_9 : decode m_Mo_lay.2.1 9 = .ok (.ldc2_w 248, 3) := by decide +kernel
theorem d_Mo_lay_12 : decode m_Mo_lay.2.1 12 = .ok (.invokestatic 55, 3) := by decide +kernel
set_option maxRecDepth 100000 in
theorem s_Mo_lay_12 {G : r_X} {n : Nat} {h : r_HI} {g : r_HR} {z : r_HL} {v0 v1 v2 : Value} : r_cl G m_Mo_lay m_Mo_in 12 [v0, v1, v2] n h g z := r_clS d_Mo_lay_12 w_Mo_in (r_in 880 rfl rfl) a_Mo_in n_Mo (by decide +kernel : r_mh m_Mo_in.1 3)
theorem d_Mo_lay_15 : decode m_Mo_lay.2.1 15 = .ok (.ifCond .ne 6, 3) := by decide +kernel
theorem d_Mo_lay_18 : decode m_Mo_lay.2.1 18 = .ok (.bipush (-102), 2) := by decide +kernel
theorem d_Mo_lay_20 : decode m_Mo_lay.2.1 20 = .ok (.ireturn, 1) := by decide +kernel
theorem d_Mo_lay_21 : decode m_Mo_lay.2.1 21 = .ok (.aload_n 0, 1) := by decide +kernel
theorem d_Mo_lay_22 : decode m_Mo_lay.2.1 22 = .ok (.invokevirtual 184, 3) := by decide +kernel
set_option maxRecDepth 100000 in
theorem s_Mo_lay_22 {G : r_X} {n : Nat} {h : r_HI} {g : r_HR} {z : r_HL} {k : Nat} (hp : r_pk k = (0, 12)) (hk : k < n) : r_cl G m_Mo_lay m_Mo_lacks 22 (.ref (G.2.1 + k) :: []) n h g z := r_clV d_Mo_lay_22 w_Mo_lacks (r_in 971 rfl rfl) a_Mo_lacks (r_inP 21 rfl rfl) n_Mo (by decide +kernel : r_mh m_Mo_lacks.1 0) hp hk (by decide)
theorem d_Mo_lay_25 : decode m_Mo_lay.2.1 25 = .ok (.ifCond .eq 8, 3) := by decide +kernel
theorem d_Mo_lay_28 : decode m_Mo_lay.2.1 28 = .ok (.bipush (-103), 2) := by decide +kernel
theorem d_Mo_lay_30 : decode m_Mo_lay.2.1 30 = .ok (.goto 8, 3) := by decide +kernel
theorem d_Mo_lay_33 : decode m_Mo_lay.2.1 33 = .ok (.aload_n 0, 1) := by decide +kernel
theorem d_Mo_lay_34 : decode m_Mo_lay.2.1 34 = .ok (.iload_n 1, 1) := by decide +kernel
theorem d_Mo_lay_35 : decode m_Mo_lay.2.1 35 = .ok (.invokevirtual 250, 3) := by decide +kernel
set_option maxRecDepth 100000 in
theorem s_Mo_lay_35 {G : r_X} {n : Nat} {h : r_HI} {g : r_HR} {z : r_HL} {k : Nat} {v0 : Value} (hp : r_pk k = (0, 12)) (hk : k < n) : r_cl G m_Mo_lay m_Mo_layOf 35 (.ref (G.2.1 + k) :: [v0]) n h g z := r_clV d_Mo_lay_35 w_Mo_layOf (r_in 1095 rfl rfl) a_Mo_layOf (r_inP 37 rfl rfl) n_Mo (by decide +kernel : r_mh m_Mo_layOf.1 1) hp hk (by decide)
theorem d_Mo_lay_38 : decode m_Mo_lay.2.1 38 = .ok (.ireturn, 1) := by decide +kernel
theorem d_Mo_behindOf_0 : decode m_Mo_behindOf.2.1 0 = .ok (.aload_n 0, 1) := by decide +kernel
theorem d_Mo_behindOf_1 : decode m_Mo_behindOf.2.1 1 = .ok (.iload_n 1, 1) := by decide +kernel
theorem d_Mo_behindOf_2 : decode m_Mo_behindOf.2.1 2 = .ok (.iload_n 2, 1) := by decide +kernel
theorem d_Mo_behindOf_3 : decode m_Mo_behindOf.2.1 3 = .ok (.invokevirtual 123, 3) := by decide +kernel
set_option maxRecDepth 100000 in
theorem s_Mo_behindOf_3 {G : r_X} {n : Nat} {h : r_HI} {g : r_HR} {z : r_HL} {k : Nat} {v0 v1 : Value} (hp : r_pk k = (0, 12)) (hk : k < n) : r_cl G m_Mo_behindOf m_Mo_travel 3 (.ref (G.2.1 + k) :: [v0, v1]) n h g z := r_clV d_Mo_behindOf_3 w_Mo_travel (r_in 938 rfl rfl) a_Mo_travel (r_inP 16 rfl rfl) n_Mo (by decide +kernel : r_mh m_Mo_travel.1 2) hp hk (by decide)
theorem d_Mo_behindOf_6 : decode m_Mo_behindOf.2.1 6 = .ok (.istore 4, 2) := by decide +kernel
theorem d_Mo_behindOf_8 : decode m_Mo_behindOf.2.1 8 = .ok (.aload_n 0, 1) := by decide +kernel
theorem d_Mo_behindOf_9 : decode m_Mo_behindOf.2.1 9 = .ok (.getfield 16, 3) := by decide +kernel
theorem d_Mo_behindOf_12 : decode m_Mo_behindOf.2.1 12 = .ok (.iload_n 1, 1) := by decide +kernel
theorem d_Mo_behindOf_13 : decode m_Mo_behindOf.2.1 13 = .ok (.iaload, 1) := by decide +kernel
theorem d_Mo_behindOf_14 : decode m_Mo_behindOf.2.1 14 = .ok (.iload 4, 2) := by decide +kernel
theorem d_Mo_behindOf_16 : decode m_Mo_behindOf.2.1 16 = .ok (.iadd, 1) := by decide +kernel
theorem d_Mo_behindOf_17 : decode m_Mo_behindOf.2.1 17 = .ok (.bipush 24, 2) := by decide +kernel
theorem d_Mo_behindOf_19 : decode m_Mo_behindOf.2.1 19 = .ok (.irem, 1) := by decide +kernel
theorem d_Mo_behindOf_20 : decode m_Mo_behindOf.2.1 20 = .ok (.istore 5, 2) := by decide +kernel
theorem d_Mo_behindOf_22 : decode m_Mo_behindOf.2.1 22 = .ok (.aload_n 0, 1) := by decide +kernel
theorem d_Mo_behindOf_23 : decode m_Mo_behindOf.2.1 23 = .ok (.getfield 16, 3) := by decide +kernel
theorem d_Mo_behindOf_26 : decode m_Mo_behindOf.2.1 26 = .ok (.iload_n 2, 1) := by decide +kernel
theorem d_Mo_behindOf_27 : decode m_Mo_behindOf.2.1 27 = .ok (.iaload, 1) := by decide +kernel
theorem d_Mo_behindOf_28 : decode m_Mo_behindOf.2.1 28 = .ok (.bipush 24, 2) := by decide +kernel
theorem d_Mo_behindOf_30 : decode m_Mo_behindOf.2.1 30 = .ok (.iadd, 1) := by decide +kernel
theorem d_Mo_behindOf_31 : decode m_Mo_behindOf.2.1 31 = .ok (.iload 5, 2) := by decide +kernel
theorem d_Mo_behindOf_33 : decode m_Mo_behindOf.2.1 33 = .ok (.isub, 1) := by decide +kernel
theorem d_Mo_behindOf_34 : decode m_Mo_behindOf.2.1 34 = .ok (.bipush 24, 2) := by decide +kernel
theorem d_Mo_behindOf_36 : decode m_Mo_behindOf.2.1 36 = .ok (.irem, 1) := by decide +kernel
theorem d_Mo_behindOf_37 : decode m_Mo_behindOf.2.1 37 = .ok (.istore 6, 2) := by decide +kernel
theorem d_Mo_behindOf_39 : decode m_Mo_behindOf.2.1 39 = .ok (.iload_n 3, 1) := by decide +kernel
theorem d_Mo_behindOf_40 : decode m_Mo_behindOf.2.1 40 = .ok (.ifCond .ne 14, 3) := by decide +kernel
theorem d_Mo_behindOf_43 : decode m_Mo_behindOf.2.1 43 = .ok (.bipush 48, 2) := by decide +kernel
theorem d_Mo_behindOf_45 : decode m_Mo_behindOf.2.1 45 = .ok (.iload 4, 2) := by decide +kernel
theorem d_Mo_behindOf_47 : decode m_Mo_behindOf.2.1 47 = .ok (.iadd, 1) := by decide +kernel
theorem d_Mo_behindOf_48 : decode m_Mo_behindOf.2.1 48 = .ok (.iload 6, 2) := by decide +kernel
theorem d_Mo_behindOf_50 : decode m_Mo_behindOf.2.1 50 = .ok (.iadd, 1) := by decide +kernel
theorem d_Mo_behindOf_51 : decode m_Mo_behindOf.2.1 51 = .ok (.goto 18, 3) := by decide +kernel
theorem d_Mo_behindOf_54 : decode m_Mo_behindOf.2.1 54 = .ok (.iload_n 3, 1) := by decide +kernel
theorem d_Mo_behindOf_55 : decode m_Mo_behindOf.2.1 55 = .ok (.iconst 1, 1) := by decide +kernel
theorem d_Mo_behindOf_56 : decode m_Mo_behindOf.2.1 56 = .ok (.if_icmp .ne 8, 3) := by decide +kernel
theorem d_Mo_behindOf_59 : decode m_Mo_behindOf.2.1 59 = .ok (.iload 5, 2) := by decide +kernel
theorem d_Mo_behindOf_61 : decode m_Mo_behindOf.2.1 61 = .ok (.goto 8, 3) := by decide +kernel
theorem d_Mo_behindOf_64 : decode m_Mo_behindOf.2.1 64 = .ok (.bipush 48, 2) := by decide +kernel
theorem d_Mo_behindOf_66 : decode m_Mo_behindOf.2.1 66 = .ok (.iload 4, 2) := by decide +kernel
theorem d_Mo_behindOf_68 : decode m_Mo_behindOf.2.1 68 = .ok (.iadd, 1) := by decide +kernel
theorem d_Mo_behindOf_69 : decode m_Mo_behindOf.2.1 69 = .ok (.ireturn, 1) := by decide +kernel
theorem d_Mo_behind_0 : decode m_Mo_behind.2.1 0 = .ok (.aload_n 0, 1) := by decide +kernel
theorem d_Mo_behind_1 : decode m_Mo_behind.2.1 1 = .ok (.iload_n 1, 1) := by decide +kernel
theorem d_Mo_behind_2 : decode m_Mo_behind.2.1 2 = .ok (.invokevirtual 168, 3) := by decide +kernel
set_option maxRecDepth 100000 in
theorem s_Mo_behind_2 {G : r_X} {n : Nat} {h : r_HI} {g : r_HR} {z : r_HL} {k : Nat} {v0 : Value} (hp : r_pk k = (0, 12)) (hk : k < n) : r_cl G m_Mo_behind m_Mo_isRing 2 (.ref (G.2.1 + k) :: [v0]) n h g z := r_clV d_Mo_behind_2 w_Mo_isRing (r_in 922 rfl rfl) a_Mo_isRing (r_inP 12 rfl rfl) n_Mo (by decide +kernel : r_mh m_Mo_isRing.1 1) hp hk (by decide)
theorem d_Mo_behind_5 : decode m_Mo_behind.2.1 5 = .ok (.ifCond .eq 16, 3) := by decide +kernel
theorem d_Mo_behind_8 : decode m_Mo_behind.2.1 8 = .ok (.aload_n 0, 1) := by decide +kernel
theorem d_Mo_behind_9 : decode m_Mo_behind.2.1 9 = .ok (.iload_n 2, 1) := by decide +kernel
theorem d_Mo_behind_10 : decode m_Mo_behind.2.1 10 = .ok (.invokevirtual 168, 3) := by decide +kernel
set_option maxRecDepth 100000 in
theorem s_Mo_behind_10 {G : r_X} {n : Nat} {h : r_HI} {g : r_HR} {z : r_HL} {k : Nat} {v0 : Value} (hp : r_pk k = (0, 12)) (hk : k < n) : r_cl G m_Mo_behind m_Mo_isRing 10 (.ref (G.2.1 + k) :: [v0]) n h g z := r_clV d_Mo_behind_10 w_Mo_isRing (r_in 922 rfl rfl) a_Mo_isRing (r_inP 12 rfl rfl) n_Mo (by decide +kernel : r_mh m_Mo_isRing.1 1) hp hk (by decide)
theorem d_Mo_behind_13 : decode m_Mo_behind.2.1 13 = .ok (.ifCond .eq 8, 3) := by decide +kernel
theorem d_Mo_behind_16 : decode m_Mo_behind.2.1 16 = .ok (.iload_n 1, 1) := by decide +kernel
theorem d_Mo_behind_17 : decode m_Mo_behind.2.1 17 = .ok (.iload_n 2, 1) := by decide +kernel
theorem d_Mo_behind_18 : decode m_Mo_behind.2.1 18 = .ok (.if_icmp .ne 6, 3) := by decide +kernel
theorem d_Mo_behind_21 : decode m_Mo_behind.2.1 21 = .ok (.bipush (-101), 2) := by decide +kernel
theorem d_Mo_behind_23 : decode m_Mo_behind.2.1 23 = .ok (.ireturn, 1) := by decide +kernel
theorem d_Mo_behind_24 : decode m_Mo_behind.2.1 24 = .ok (.iload_n 3, 1) := by decide +kernel
theorem d_Mo_behind_25 : decode m_Mo_behind.2.1 25 = .ok (.i2l, 1) := by decide +kernel
theorem d_Mo_behind_26 : decode m_Mo_behind.2.1 26 = .ok (.lconst 0, 1) := by decide +kernel
theorem d_Mo_behind_27 : decode m_Mo_behind.2.1 27 = .ok (.ldc2_w 253, 3) := by decide +kernel
theorem d_Mo_behind_30 : decode m_Mo_behind.2.1 30 = .ok (.invokestatic 55, 3) := by decide +kernel
set_option maxRecDepth 100000 in
theorem s_Mo_behind_30 {G : r_X} {n : Nat} {h : r_HI} {g : r_HR} {z : r_HL} {v0 v1 v2 : Value} : r_cl G m_Mo_behind m_Mo_in 30 [v0, v1, v2] n h g z := r_clS d_Mo_behind_30 w_Mo_in (r_in 880 rfl rfl) a_Mo_in n_Mo (by decide +kernel : r_mh m_Mo_in.1 3)
theorem d_Mo_behind_33 : decode m_Mo_behind.2.1 33 = .ok (.ifCond .eq 13, 3) := by decide +kernel
theorem d_Mo_behind_36 : decode m_Mo_behind.2.1 36 = .ok (.aload_n 0, 1) := by decide +kernel
theorem d_Mo_behind_37 : decode m_Mo_behind.2.1 37 = .ok (.iload_n 1, 1) := by decide +kernel
theorem d_Mo_behind_38 : decode m_Mo_behind.2.1 38 = .ok (.iload_n 2, 1) := by decide +kernel
theorem d_Mo_behind_39 : decode m_Mo_behind.2.1 39 = .ok (.iload_n 3, 1) := by decide +kernel
theorem d_Mo_behind_40 : decode m_Mo_behind.2.1 40 = .ok (.invokevirtual 255, 3) := by decide +kernel
set_option maxRecDepth 100000 in
theorem s_Mo_behind_40 {G : r_X} {n : Nat} {h : r_HI} {g : r_HR} {z : r_HL} {k : Nat} {v0 v1 v2 : Value} (hp : r_pk k = (0, 12)) (hk : k < n) : r_cl G m_Mo_behind m_Mo_behindOf 40 (.ref (G.2.1 + k) :: [v0, v1, v2]) n h g z := r_clV d_Mo_behind_40 w_Mo_behindOf (r_in 1112 rfl rfl) a_Mo_behindOf (r_inP 40 rfl rfl) n_Mo (by decide +kernel : r_mh m_Mo_behindOf.1 3) hp hk (by decide)
theorem d_Mo_behind_43 : decode m_Mo_behind.2.1 43 = .ok (.goto 5, 3) := by decide +kernel
theorem d_Mo_behind_46 : decode m_Mo_behind.2.1 46 = .ok (.bipush (-102), 2) := by decide +kernel
theorem d_Mo_behind_48 : decode m_Mo_behind.2.1 48 = .ok (.ireturn, 1) := by decide +kernel
theorem d_Mo_common_0 : decode m_Mo_common.2.1 0 = .ok (.iload_n 0, 1) := by decide +kernel
theorem d_Mo_common_1 : decode m_Mo_common.2.1 1 = .ok (.istore_n 2, 1) := by decide +kernel
theorem d_Mo_common_2 : decode m_Mo_common.2.1 2 = .ok (.iload_n 1, 1) := by decide +kernel
theorem d_Mo_common_3 : decode m_Mo_common.2.1 3 = .ok (.istore_n 3, 1) := by decide +kernel
theorem d_Mo_common_4 : decode m_Mo_common.2.1 4 = .ok (.iload_n 3, 1) := by decide +kernel
theorem d_Mo_common_5 : decode m_Mo_common.2.1 5 = .ok (.ifCond .le 16, 3) := by decide +kernel
theorem d_Mo_common_8 : decode m_Mo_common.2.1 8 = .ok (.iload_n 2, 1) := by decide +kernel
theorem d_Mo_common_9 : decode m_Mo_common.2.1 9 = .ok (.iload_n 3, 1) := by decide +kernel
theorem d_Mo_common_10 : decode m_Mo_common.2.1 10 = .ok (.irem, 1) := by decide +kernel
theorem d_Mo_common_11 : decode m_Mo_common.2.1 11 = .ok (.istore 4, 2) := by decide +kernel
theorem d_Mo_common_13 : decode m_Mo_common.2.1 13 = .ok (.iload_n 3, 1) := by decide +kernel
theorem d_Mo_common_14 : decode m_Mo_common.2.1 14 = .ok (.istore_n 2, 1) := by decide +kernel
theorem d_Mo_common_15 : decode m_Mo_common.2.1 15 = .ok (.iload 4, 2) := by decide +kernel
theorem d_Mo_common_17 : decode m_Mo_common.2.1 17 = .ok (.istore_n 3, 1) := by decide +kernel
theorem d_Mo_common_18 : decode m_Mo_common.2.1 18 = .ok (.goto (-14), 3) := by decide +kernel
theorem d_Mo_common_21 : decode m_Mo_common.2.1 21 = .ok (.iload_n 2, 1) := by decide +kernel
theorem d_Mo_common_22 : decode m_Mo_common.2.1 22 = .ok (.ireturn, 1) := by decide +kernel
theorem d_Mo_allBy_0 : decode m_Mo_allBy.2.1 0 = .ok (.bipush 24, 2) := by decide +kernel
theorem d_Mo_allBy_2 : decode m_Mo_allBy.2.1 2 = .ok (.iload_n 1, 1) := by decide +kernel
theorem d_Mo_allBy_3 : decode m_Mo_allBy.2.1 3 = .ok (.idiv, 1) := by decide +kernel
theorem d_Mo_allBy_4 : decode m_Mo_allBy.2.1 4 = .ok (.istore 4, 2) := by decide +kernel
theorem d_Mo_allBy_6 : decode m_Mo_allBy.2.1 6 = .ok (.iload 4, 2) := by decide +kernel
theorem d_Mo_allBy_8 : decode m_Mo_allBy.2.1 8 = .ok (.istore 5, 2) := by decide +kernel
theorem d_Mo_allBy_10 : decode m_Mo_allBy.2.1 10 = .ok (.iconst 1, 1) := by decide +kernel
theorem d_Mo_allBy_11 : decode m_Mo_allBy.2.1 11 = .ok (.istore 6, 2) := by decide +kernel
theorem d_Mo_allBy_13 : decode m_Mo_allBy.2.1 13 = .ok (.iload 6, 2) := by decide +kernel
theorem d_Mo_allBy_15 : decode m_Mo_allBy.2.1 15 = .ok (.iload_n 1, 1) := by decide +kernel
theorem d_Mo_allBy_16 : decode m_Mo_allBy.2.1 16 = .ok (.if_icmp .ge 48, 3) := by decide +kernel
theorem d_Mo_allBy_19 : decode m_Mo_allBy.2.1 19 = .ok (.iload 5, 2) := by decide +kernel
theorem d_Mo_allBy_21 : decode m_Mo_allBy.2.1 21 = .ok (.iload_n 3, 1) := by decide +kernel
theorem d_Mo_allBy_22 : decode m_Mo_allBy.2.1 22 = .ok (.iadd, 1) := by decide +kernel
theorem d_Mo_allBy_23 : decode m_Mo_allBy.2.1 23 = .ok (.istore 5, 2) := by decide +kernel
theorem d_Mo_allBy_25 : decode m_Mo_allBy.2.1 25 = .ok (.iload 6, 2) := by decide +kernel
theorem d_Mo_allBy_27 : decode m_Mo_allBy.2.1 27 = .ok (.iload_n 2, 1) := by decide +kernel
theorem d_Mo_allBy_28 : decode m_Mo_allBy.2.1 28 = .ok (.imul, 1) := by decide +kernel
theorem d_Mo_allBy_29 : decode m_Mo_allBy.2.1 29 = .ok (.iload_n 1, 1) := by decide +kernel
theorem d_Mo_allBy_30 : decode m_Mo_allBy.2.1 30 = .ok (.irem, 1) := by decide +kernel
theorem d_Mo_allBy_31 : decode m_Mo_allBy.2.1 31 = .ok (.iload 4, 2) := by decide +kernel
theorem d_Mo_allBy_33 : decode m_Mo_allBy.2.1 33 = .ok (.imul, 1) := by decide +kernel
theorem d_Mo_allBy_34 : decode m_Mo_allBy.2.1 34 = .ok (.istore 7, 2) := by decide +kernel
theorem d_Mo_allBy_36 : decode m_Mo_allBy.2.1 36 = .ok (.iload 5, 2) := by decide +kernel
theorem d_Mo_allBy_38 : decode m_Mo_allBy.2.1 38 = .ok (.iload 7, 2) := by decide +kernel
theorem d_Mo_allBy_40 : decode m_Mo_allBy.2.1 40 = .ok (.bipush 24, 2) := by decide +kernel
theorem d_Mo_allBy_42 : decode m_Mo_allBy.2.1 42 = .ok (.iadd, 1) := by decide +kernel
theorem d_Mo_allBy_43 : decode m_Mo_allBy.2.1 43 = .ok (.iload 5, 2) := by decide +kernel
theorem d_Mo_allBy_45 : decode m_Mo_allBy.2.1 45 = .ok (.bipush 24, 2) := by decide +kernel
theorem d_Mo_allBy_47 : decode m_Mo_allBy.2.1 47 = .ok (.irem, 1) := by decide +kernel
theorem d_Mo_allBy_48 : decode m_Mo_allBy.2.1 48 = .ok (.isub, 1) := by decide +kernel
theorem d_Mo_allBy_49 : decode m_Mo_allBy.2.1 49 = .ok (.bipush 24, 2) := by decide +kernel
theorem d_Mo_allBy_51 : decode m_Mo_allBy.2.1 51 = .ok (.irem, 1) := by decide +kernel
theorem d_Mo_allBy_52 : decode m_Mo_allBy.2.1 52 = .ok (.iload 4, 2) := by decide +kernel
theorem d_Mo_allBy_54 : decode m_Mo_allBy.2.1 54 = .ok (.iadd, 1) := by decide +kernel
theorem d_Mo_allBy_55 : decode m_Mo_allBy.2.1 55 = .ok (.iadd, 1) := by decide +kernel
theorem d_Mo_allBy_56 : decode m_Mo_allBy.2.1 56 = .ok (.istore 5, 2) := by decide +kernel
theorem d_Mo_allBy_58 : decode m_Mo_allBy.2.1 58 = .ok (.iinc 6 1, 3) := by decide +kernel
theorem d_Mo_allBy_61 : decode m_Mo_allBy.2.1 61 = .ok (.goto (-48), 3) := by decide +kernel
theorem d_Mo_allBy_64 : decode m_Mo_allBy.2.1 64 = .ok (.iload 5, 2) := by decide +kernel
theorem d_Mo_allBy_66 : decode m_Mo_allBy.2.1 66 = .ok (.ireturn, 1) := by decide +kernel
theorem d_Mo_apartOf_0 : decode m_Mo_apartOf.2.1 0 = .ok (.iconst 0, 1) := by decide +kernel
theorem d_Mo_apartOf_1 : decode m_Mo_apartOf.2.1 1 = .ok (.istore 4, 2) := by decide +kernel
theorem d_Mo_apartOf_3 : decode m_Mo_apartOf.2.1 3 = .ok (.ldc 216, 2) := by decide +kernel
theorem d_Mo_apartOf_5 : decode m_Mo_apartOf.2.1 5 = .ok (.istore 5, 2) := by decide +kernel
theorem d_Mo_apartOf_7 : decode m_Mo_apartOf.2.1 7 = .ok (.iconst 1, 1) := by decide +kernel
theorem d_Mo_apartOf_8 : decode m_Mo_apartOf.2.1 8 = .ok (.istore 6, 2) := by decide +kernel
theorem d_Mo_apartOf_10 : decode m_Mo_apartOf.2.1 10 = .ok (.iload 6, 2) := by decide +kernel
theorem d_Mo_apartOf_12 : decode m_Mo_apartOf.2.1 12 = .ok (.aload_n 0, 1) := by decide +kernel
theorem d_Mo_apartOf_13 : decode m_Mo_apartOf.2.1 13 = .ok (.getfield 13, 3) := by decide +kernel
theorem d_Mo_apartOf_16 : decode m_Mo_apartOf.2.1 16 = .ok (.iload_n 1, 1) := by decide +kernel
theorem d_Mo_apartOf_17 : decode m_Mo_apartOf.2.1 17 = .ok (.iaload, 1) := by decide +kernel
theorem d_Mo_apartOf_18 : decode m_Mo_apartOf.2.1 18 = .ok (.if_icmp .ge 54, 3) := by decide +kernel
theorem d_Mo_apartOf_21 : decode m_Mo_apartOf.2.1 21 = .ok (.aload_n 0, 1) := by decide +kernel
theorem d_Mo_apartOf_22 : decode m_Mo_apartOf.2.1 22 = .ok (.aload_n 0, 1) := by decide +kernel
theorem d_Mo_apartOf_23 : decode m_Mo_apartOf.2.1 23 = .ok (.getfield 13, 3) := by decide +kernel
theorem d_Mo_apartOf_26 : decode m_Mo_apartOf.2.1 26 = .ok (.iload_n 1, 1) := by decide +kernel
theorem d_Mo_apartOf_27 : decode m_Mo_apartOf.2.1 27 = .ok (.iaload, 1) := by decide +kernel
theorem d_Mo_apartOf_28 : decode m_Mo_apartOf.2.1 28 = .ok (.iload 6, 2) := by decide +kernel
theorem d_Mo_apartOf_30 : decode m_Mo_apartOf.2.1 30 = .ok (.iload_n 2, 1) := by decide +kernel
theorem d_Mo_apartOf_31 : decode m_Mo_apartOf.2.1 31 = .ok (.invokevirtual 259, 3) := by decide +kernel
set_option maxRecDepth 100000 in
theorem s_Mo_apartOf_31 {G : r_X} {n : Nat} {h : r_HI} {g : r_HR} {z : r_HL} {k : Nat} {v0 v1 v2 : Value} (hp : r_pk k = (0, 12)) (hk : k < n) : r_cl G m_Mo_apartOf m_Mo_allBy 31 (.ref (G.2.1 + k) :: [v0, v1, v2]) n h g z := r_clV d_Mo_apartOf_31 w_Mo_allBy (r_in 1124 rfl rfl) a_Mo_allBy (r_inP 42 rfl rfl) n_Mo (by decide +kernel : r_mh m_Mo_allBy.1 3) hp hk (by decide)
theorem d_Mo_apartOf_34 : decode m_Mo_apartOf.2.1 34 = .ok (.istore 7, 2) := by decide +kernel
theorem d_Mo_apartOf_36 : decode m_Mo_apartOf.2.1 36 = .ok (.aload_n 0, 1) := by decide +kernel
theorem d_Mo_apartOf_37 : decode m_Mo_apartOf.2.1 37 = .ok (.getfield 13, 3) := by decide +kernel
theorem d_Mo_apartOf_40 : decode m_Mo_apartOf.2.1 40 = .ok (.iload_n 1, 1) := by decide +kernel
theorem d_Mo_apartOf_41 : decode m_Mo_apartOf.2.1 41 = .ok (.iaload, 1) := by decide +kernel
theorem d_Mo_apartOf_42 : decode m_Mo_apartOf.2.1 42 = .ok (.iload 6, 2) := by decide +kernel
theorem d_Mo_apartOf_44 : decode m_Mo_apartOf.2.1 44 = .ok (.invokestatic 262, 3) := by decide +kernel
set_option maxRecDepth 100000 in
theorem s_Mo_apartOf_44 {G : r_X} {n : Nat} {h : r_HI} {g : r_HR} {z : r_HL} {v0 v1 : Value} : r_cl G m_Mo_apartOf m_Mo_common 44 [v0, v1] n h g z := r_clS d_Mo_apartOf_44 w_Mo_common (r_in 1128 rfl rfl) a_Mo_common n_Mo (by decide +kernel : r_mh m_Mo_common.1 2)
theorem d_Mo_apartOf_47 : decode m_Mo_apartOf.2.1 47 = .ok (.iconst 1, 1) := by decide +kernel
theorem d_Mo_apartOf_48 : decode m_Mo_apartOf.2.1 48 = .ok (.if_icmp .ne 18, 3) := by decide +kernel
theorem d_Mo_apartOf_51 : decode m_Mo_apartOf.2.1 51 = .ok (.iload 7, 2) := by decide +kernel
theorem d_Mo_apartOf_53 : decode m_Mo_apartOf.2.1 53 = .ok (.iload 5, 2) := by decide +kernel
theorem d_Mo_apartOf_55 : decode m_Mo_apartOf.2.1 55 = .ok (.if_icmp .ge 11, 3) := by decide +kernel
theorem d_Mo_apartOf_58 : decode m_Mo_apartOf.2.1 58 = .ok (.iload 6, 2) := by decide +kernel
theorem d_Mo_apartOf_60 : decode m_Mo_apartOf.2.1 60 = .ok (.istore 4, 2) := by decide +kernel
theorem d_Mo_apartOf_62 : decode m_Mo_apartOf.2.1 62 = .ok (.iload 7, 2) := by decide +kernel
theorem d_Mo_apartOf_64 : decode m_Mo_apartOf.2.1 64 = .ok (.istore 5, 2) := by decide +kernel
theorem d_Mo_apartOf_66 : decode m_Mo_apartOf.2.1 66 = .ok (.iinc 6 1, 3) := by decide +kernel
theorem d_Mo_apartOf_69 : decode m_Mo_apartOf.2.1 69 = .ok (.goto (-59), 3) := by decide +kernel
theorem d_Mo_apartOf_72 : decode m_Mo_apartOf.2.1 72 = .ok (.iload_n 3, 1) := by decide +kernel
theorem d_Mo_apartOf_73 : decode m_Mo_apartOf.2.1 73 = .ok (.ifCond .ne 8, 3) := by decide +kernel
theorem d_Mo_apartOf_76 : decode m_Mo_apartOf.2.1 76 = .ok (.iload 4, 2) := by decide +kernel
theorem d_Mo_apartOf_78 : decode m_Mo_apartOf.2.1 78 = .ok (.goto 5, 3) := by decide +kernel
theorem d_Mo_apartOf_81 : decode m_Mo_apartOf.2.1 81 = .ok (.iload 5, 2) := by decide +kernel
theorem d_Mo_apartOf_83 : decode m_Mo_apartOf.2.1 83 = .ok (.ireturn, 1) := by decide +kernel
theorem d_Mo_apart_0 : decode m_Mo_apart.2.1 0 = .ok (.aload_n 0, 1) := by decide +kernel
theorem d_Mo_apart_1 : decode m_Mo_apart.2.1 1 = .ok (.iload_n 1, 1) := by decide +kernel
theorem d_Mo_apart_2 : decode m_Mo_apart.2.1 2 = .ok (.invokevirtual 168, 3) := by decide +kernel
set_option maxRecDepth 100000 in
theorem s_Mo_apart_2 {G : r_X} {n : Nat} {h : r_HI} {g : r_HR} {z : r_HL} {k : Nat} {v0 : Value} (hp : r_pk k = (0, 12)) (hk : k < n) : r_cl G m_Mo_apart m_Mo_isRing 2 (.ref (G.2.1 + k) :: [v0]) n h g z := r_clV d_Mo_apart_2 w_Mo_isRing (r_in 922 rfl rfl) a_Mo_isRing (r_inP 12 rfl rfl) n_Mo (by decide +kernel : r_mh m_Mo_isRing.1 1) hp hk (by decide)
theorem d_Mo_apart_5 : decode m_Mo_apart.2.1 5 = .ok (.ifCond .ne 6, 3) := by decide +kernel
theorem d_Mo_apart_8 : decode m_Mo_apart.2.1 8 = .ok (.bipush (-101), 2) := by decide +kernel
theorem d_Mo_apart_10 : decode m_Mo_apart.2.1 10 = .ok (.ireturn, 1) := by decide +kernel
theorem d_Mo_apart_11 : decode m_Mo_apart.2.1 11 = .ok (.iload_n 2, 1) := by decide +kernel
theorem d_Mo_apart_12 : decode m_Mo_apart.2.1 12 = .ok (.i2l, 1) := by decide +kernel
theorem d_Mo_apart_13 : decode m_Mo_apart.2.1 13 = .ok (.lconst 0, 1) := by decide +kernel
theorem d_Mo_apart_14 : decode m_Mo_apart.2.1 14 = .ok (.ldc2_w 209, 3) := by decide +kernel
theorem d_Mo_apart_17 : decode m_Mo_apart.2.1 17 = .ok (.invokestatic 55, 3) := by decide +kernel
set_option maxRecDepth 100000 in
theorem s_Mo_apart_17 {G : r_X} {n : Nat} {h : r_HI} {g : r_HR} {z : r_HL} {v0 v1 v2 : Value} : r_cl G m_Mo_apart m_Mo_in 17 [v0, v1, v2] n h g z := r_clS d_Mo_apart_17 w_Mo_in (r_in 880 rfl rfl) a_Mo_in n_Mo (by decide +kernel : r_mh m_Mo_in.1 3)
theorem d_Mo_apart_20 : decode m_Mo_apart.2.1 20 = .ok (.ifCond .eq 23, 3) := by decide +kernel
theorem d_Mo_apart_23 : decode m_Mo_apart.2.1 23 = .ok (.iload_n 3, 1) := by decide +kernel
theorem d_Mo_apart_24 : decode m_Mo_apart.2.1 24 = .ok (.i2l, 1) := by decide +kernel
theorem d_Mo_apart_25 : decode m_Mo_apart.2.1 25 = .ok (.lconst 0, 1) := by decide +kernel
theorem d_Mo_apart_26 : decode m_Mo_apart.2.1 26 = .ok (.lconst 1, 1) := by decide +kernel
theorem d_Mo_apart_27 : decode m_Mo_apart.2.1 27 = .ok (.invokestatic 55, 3) := by decide +kernel
set_option maxRecDepth 100000 in
theorem s_Mo_apart_27 {G : r_X} {n : Nat} {h : r_HI} {g : r_HR} {z : r_HL} {v0 v1 v2 : Value} : r_cl G m_Mo_apart m_Mo_in 27 [v0, v1, v2] n h g z := r_clS d_Mo_apart_27 w_Mo_in (r_in 880 rfl rfl) a_Mo_in n_Mo (by decide +kernel : r_mh m_Mo_in.1 3)
theorem d_Mo_apart_30 : decode m_Mo_apart.2.1 30 = .ok (.ifCond .eq 13, 3) := by decide +kernel
theorem d_Mo_apart_33 : decode m_Mo_apart.2.1 33 = .ok (.aload_n 0, 1) := by decide +kernel
theorem d_Mo_apart_34 : decode m_Mo_apart.2.1 34 = .ok (.iload_n 1, 1) := by decide +kernel
theorem d_Mo_apart_35 : decode m_Mo_apart.2.1 35 = .ok (.iload_n 2, 1) := by decide +kernel
theorem d_Mo_apart_36 : decode m_Mo_apart.2.1 36 = .ok (.iload_n 3, 1) := by decide +kernel
theorem d_Mo_apart_37 : decode m_Mo_apart.2.1 37 = .ok (.invokevirtual 265, 3) := by decide +kernel
set_option maxRecDepth 100000 in
theorem s_Mo_apart_37 {G : r_X} {n : Nat} {h : r_HI} {g : r_HR} {z : r_HL} {k : Nat} {v0 v1 v2 : Value} (hp : r_pk k = (0, 12)) (hk : k < n) : r_cl G m_Mo_apart m_Mo_apartOf 37 (.ref (G.2.1 + k) :: [v0, v1, v2]) n h g z := r_clV d_Mo_apart_37 w_Mo_apartOf (r_in 1120 rfl rfl) a_Mo_apartOf (r_inP 41 rfl rfl) n_Mo (by decide +kernel : r_mh m_Mo_apartOf.1 3) hp hk (by decide)
theorem d_Mo_apart_40 : decode m_Mo_apart.2.1 40 = .ok (.goto 5, 3) := by decide +kernel
theorem d_Mo_apart_43 : decode m_Mo_apart.2.1 43 = .ok (.bipush (-102), 2) := by decide +kernel
theorem d_Mo_apart_45 : decode m_Mo_apart.2.1 45 = .ok (.ireturn, 1) := by decide +kernel
theorem d_Mo_see_0 : decode m_Mo_see.2.1 0 = .ok (.iload_n 1, 1) := by decide +kernel
theorem d_Mo_see_1 : decode m_Mo_see.2.1 1 = .ok (.i2l, 1) := by decide +kernel
theorem d_Mo_see_2 : decode m_Mo_see.2.1 2 = .ok (.lconst 1, 1) := by decide +kernel
theorem d_Mo_see_3 : decode m_Mo_see.2.1 3 = .ok (.ldc2_w 211, 3) := by decide +kernel
theorem d_Mo_see_6 : decode m_Mo_see.2.1 6 = .ok (.invokestatic 55, 3) := by decide +kernel
set_option maxRecDepth 100000 in
theorem s_Mo_see_6 {G : r_X} {n : Nat} {h : r_HI} {g : r_HR} {z : r_HL} {v0 v1 v2 : Value} : r_cl G m_Mo_see m_Mo_in 6 [v0, v1, v2] n h g z := r_clS d_Mo_see_6 w_Mo_in (r_in 880 rfl rfl) a_Mo_in n_Mo (by decide +kernel : r_mh m_Mo_in.1 3)
theorem d_Mo_see_9 : decode m_Mo_see.2.1 9 = .ok (.ifCond .eq 15, 3) := by decide +kernel
theorem d_Mo_see_12 : decode m_Mo_see.2.1 12 = .ok (.iload_n 2, 1) := by decide +kernel
theorem d_Mo_see_13 : decode m_Mo_see.2.1 13 = .ok (.i2l, 1) := by decide +kernel
theorem d_Mo_see_14 : decode m_Mo_see.2.1 14 = .ok (.lconst 0, 1) := by decide +kernel
theorem d_Mo_see_15 : decode m_Mo_see.2.1 15 = .ok (.ldc2_w 207, 3) := by decide +kernel
theorem d_Mo_see_18 : decode m_Mo_see.2.1 18 = .ok (.invokestatic 55, 3) := by decide +kernel
set_option maxRecDepth 100000 in
theorem s_Mo_see_18 {G : r_X} {n : Nat} {h : r_HI} {g : r_HR} {z : r_HL} {v0 v1 v2 : Value} : r_cl G m_Mo_see m_Mo_in 18 [v0, v1, v2] n h g z := r_clS d_Mo_see_18 w_Mo_in (r_in 880 rfl rfl) a_Mo_in n_Mo (by decide +kernel : r_mh m_Mo_in.1 3)
theorem d_Mo_see_21 : decode m_Mo_see.2.1 21 = .ok (.ifCond .ne 6, 3) := by decide +kernel
theorem d_Mo_see_24 : decode m_Mo_see.2.1 24 = .ok (.bipush (-102), 2) := by decide +kernel
theorem d_Mo_see_26 : decode m_Mo_see.2.1 26 = .ok (.ireturn, 1) := by decide +kernel
theorem d_Mo_see_27 : decode m_Mo_see.2.1 27 = .ok (.aload_n 0, 1) := by decide +kernel
theorem d_Mo_see_28 : decode m_Mo_see.2.1 28 = .ok (.invokevirtual 184, 3) := by decide +kernel
set_option maxRecDepth 100000 in
theorem s_Mo_see_28 {G : r_X} {n : Nat} {h : r_HI} {g : r_HR} {z : r_HL} {k : Nat} (hp : r_pk k = (0, 12)) (hk : k < n) : r_cl G m_Mo_see m_Mo_lacks 28 (.ref (G.2.1 + k) :: []) n h g z := r_clV d_Mo_see_28 w_Mo_lacks (r_in 971 rfl rfl) a_Mo_lacks (r_inP 21 rfl rfl) n_Mo (by decide +kernel : r_mh m_Mo_lacks.1 0) hp hk (by decide)
theorem d_Mo_see_31 : decode m_Mo_see.2.1 31 = .ok (.ifCond .eq 6, 3) := by decide +kernel
theorem d_Mo_see_34 : decode m_Mo_see.2.1 34 = .ok (.bipush (-103), 2) := by decide +kernel
theorem d_Mo_see_36 : decode m_Mo_see.2.1 36 = .ok (.ireturn, 1) := by decide +kernel
theorem d_Mo_see_37 : decode m_Mo_see.2.1 37 = .ok (.aload_n 0, 1) := by decide +kernel
theorem d_Mo_see_38 : decode m_Mo_see.2.1 38 = .ok (.getfield 117, 3) := by decide +kernel
theorem d_Mo_see_41 : decode m_Mo_see.2.1 41 = .ok (.bipush 6, 2) := by decide +kernel
theorem d_Mo_see_43 : decode m_Mo_see.2.1 43 = .ok (.if_icmp .ne 6, 3) := by decide +kernel
theorem d_Mo_see_46 : decode m_Mo_see.2.1 46 = .ok (.bipush (-104), 2) := by decide +kernel
theorem d_Mo_see_48 : decode m_Mo_see.2.1 48 = .ok (.ireturn, 1) := by decide +kernel
theorem d_Mo_see_49 : decode m_Mo_see.2.1 49 = .ok (.aload_n 0, 1) := by decide +kernel
theorem d_Mo_see_50 : decode m_Mo_see.2.1 50 = .ok (.getfield 34, 3) := by decide +kernel
theorem d_Mo_see_53 : decode m_Mo_see.2.1 53 = .ok (.iconst 2, 1) := by decide +kernel
theorem d_Mo_see_54 : decode m_Mo_see.2.1 54 = .ok (.aload_n 0, 1) := by decide +kernel
theorem d_Mo_see_55 : decode m_Mo_see.2.1 55 = .ok (.getfield 117, 3) := by decide +kernel
theorem d_Mo_see_58 : decode m_Mo_see.2.1 58 = .ok (.imul, 1) := by decide +kernel
theorem d_Mo_see_59 : decode m_Mo_see.2.1 59 = .ok (.iload_n 1, 1) := by decide +kernel
theorem d_Mo_see_60 : decode m_Mo_see.2.1 60 = .ok (.iastore, 1) := by decide +kernel
theorem d_Mo_see_61 : decode m_Mo_see.2.1 61 = .ok (.aload_n 0, 1) := by decide +kernel
theorem d_Mo_see_62 : decode m_Mo_see.2.1 62 = .ok (.getfield 34, 3) := by decide +kernel
theorem d_Mo_see_65 : decode m_Mo_see.2.1 65 = .ok (.iconst 2, 1) := by decide +kernel
theorem d_Mo_see_66 : decode m_Mo_see.2.1 66 = .ok (.aload_n 0, 1) := by decide +kernel
theorem d_Mo_see_67 : decode m_Mo_see.2.1 67 = .ok (.getfield 117, 3) := by decide +kernel
theorem d_Mo_see_70 : decode m_Mo_see.2.1 70 = .ok (.imul, 1) := by decide +kernel
theorem d_Mo_see_71 : decode m_Mo_see.2.1 71 = .ok (.iconst 1, 1) := by decide +kernel
theorem d_Mo_see_72 : decode m_Mo_see.2.1 72 = .ok (.iadd, 1) := by decide +kernel
theorem d_Mo_see_73 : decode m_Mo_see.2.1 73 = .ok (.iload_n 2, 1) := by decide +kernel
theorem d_Mo_see_74 : decode m_Mo_see.2.1 74 = .ok (.iastore, 1) := by decide +kernel
theorem d_Mo_see_75 : decode m_Mo_see.2.1 75 = .ok (.aload_n 0, 1) := by decide +kernel
theorem d_Mo_see_76 : decode m_Mo_see.2.1 76 = .ok (.dup, 1) := by decide +kernel
theorem d_Mo_see_77 : decode m_Mo_see.2.1 77 = .ok (.getfield 117, 3) := by decide +kernel
theorem d_Mo_see_80 : decode m_Mo_see.2.1 80 = .ok (.iconst 1, 1) := by decide +kernel
theorem d_Mo_see_81 : decode m_Mo_see.2.1 81 = .ok (.iadd, 1) := by decide +kernel
theorem d_Mo_see_82 : decode m_Mo_see.2.1 82 = .ok (.putfield 117, 3) := by decide +kernel
theorem d_Mo_see_85 : decode m_Mo_see.2.1 85 = .ok (.aload_n 0, 1) := by decide +kernel
theorem d_Mo_see_86 : decode m_Mo_see.2.1 86 = .ok (.getfield 117, 3) := by decide +kernel
theorem d_Mo_see_89 : decode m_Mo_see.2.1 89 = .ok (.ireturn, 1) := by decide +kernel
theorem d_Mo_forget_0 : decode m_Mo_forget.2.1 0 = .ok (.aload_n 0, 1) := by decide +kernel
theorem d_Mo_forget_1 : decode m_Mo_forget.2.1 1 = .ok (.getfield 117, 3) := by decide +kernel
theorem d_Mo_forget_4 : decode m_Mo_forget.2.1 4 = .ok (.istore_n 1, 1) := by decide +kernel
theorem d_Mo_forget_5 : decode m_Mo_forget.2.1 5 = .ok (.aload_n 0, 1) := by decide +kernel
theorem d_Mo_forget_6 : decode m_Mo_forget.2.1 6 = .ok (.iconst 0, 1) := by decide +kernel
theorem d_Mo_forget_7 : decode m_Mo_forget.2.1 7 = .ok (.putfield 117, 3) := by decide +kernel
theorem d_Mo_forget_10 : decode m_Mo_forget.2.1 10 = .ok (.iload_n 1, 1) := by decide +kernel
theorem d_Mo_forget_11 : decode m_Mo_forget.2.1 11 = .ok (.ireturn, 1) := by decide +kernel
theorem d_Mo_stepsOf_0 : decode m_Mo_stepsOf.2.1 0 = .ok (.iconst 0, 1) := by decide +kernel
theorem d_Mo_stepsOf_1 : decode m_Mo_stepsOf.2.1 1 = .ok (.istore_n 1, 1) := by decide +kernel
theorem d_Mo_stepsOf_2 : decode m_Mo_stepsOf.2.1 2 = .ok (.iconst 1, 1) := by decide +kernel
theorem d_Mo_stepsOf_3 : decode m_Mo_stepsOf.2.1 3 = .ok (.istore_n 2, 1) := by decide +kernel
theorem d_Mo_stepsOf_4 : decode m_Mo_stepsOf.2.1 4 = .ok (.iload_n 2, 1) := by decide +kernel
theorem d_Mo_stepsOf_5 : decode m_Mo_stepsOf.2.1 5 = .ok (.bipush 10, 2) := by decide +kernel
theorem d_Mo_stepsOf_7 : decode m_Mo_stepsOf.2.1 7 = .ok (.if_icmp .ge 92, 3) := by decide +kernel
theorem d_Mo_stepsOf_10 : decode m_Mo_stepsOf.2.1 10 = .ok (.iconst 1, 1) := by decide +kernel
theorem d_Mo_stepsOf_11 : decode m_Mo_stepsOf.2.1 11 = .ok (.istore_n 3, 1) := by decide +kernel
theorem d_Mo_stepsOf_12 : decode m_Mo_stepsOf.2.1 12 = .ok (.iconst 0, 1) := by decide +kernel
theorem d_Mo_stepsOf_13 : decode m_Mo_stepsOf.2.1 13 = .ok (.istore 4, 2) := by decide +kernel
theorem d_Mo_stepsOf_15 : decode m_Mo_stepsOf.2.1 15 = .ok (.iload 4, 2) := by decide +kernel
theorem d_Mo_stepsOf_17 : decode m_Mo_stepsOf.2.1 17 = .ok (.iconst 2, 1) := by decide +kernel
theorem d_Mo_stepsOf_18 : decode m_Mo_stepsOf.2.1 18 = .ok (.aload_n 0, 1) := by decide +kernel
theorem d_Mo_stepsOf_19 : decode m_Mo_stepsOf.2.1 19 = .ok (.getfield 117, 3) := by decide +kernel
theorem d_Mo_stepsOf_22 : decode m_Mo_stepsOf.2.1 22 = .ok (.imul, 1) := by decide +kernel
theorem d_Mo_stepsOf_23 : decode m_Mo_stepsOf.2.1 23 = .ok (.if_icmp .ge 54, 3) := by decide +kernel
theorem d_Mo_stepsOf_26 : decode m_Mo_stepsOf.2.1 26 = .ok (.iload_n 3, 1) := by decide +kernel
theorem d_Mo_stepsOf_27 : decode m_Mo_stepsOf.2.1 27 = .ok (.ifCond .eq 42, 3) := by decide +kernel
theorem d_Mo_stepsOf_30 : decode m_Mo_stepsOf.2.1 30 = .ok (.aload_n 0, 1) := by decide +kernel
theorem d_Mo_stepsOf_31 : decode m_Mo_stepsOf.2.1 31 = .ok (.getfield 96, 3) := by decide +kernel
theorem d_Mo_stepsOf_34 : decode m_Mo_stepsOf.2.1 34 = .ok (.iload_n 2, 1) := by decide +kernel
theorem d_Mo_stepsOf_35 : decode m_Mo_stepsOf.2.1 35 = .ok (.aload_n 0, 1) := by decide +kernel
theorem d_Mo_stepsOf_36 : decode m_Mo_stepsOf.2.1 36 = .ok (.getfield 34, 3) := by decide +kernel
theorem d_Mo_stepsOf_39 : decode m_Mo_stepsOf.2.1 39 = .ok (.iload 4, 2) := by decide +kernel
theorem d_Mo_stepsOf_41 : decode m_Mo_stepsOf.2.1 41 = .ok (.iaload, 1) := by decide +kernel
theorem d_Mo_stepsOf_42 : decode m_Mo_stepsOf.2.1 42 = .ok (.imul, 1) := by decide +kernel
theorem d_Mo_stepsOf_43 : decode m_Mo_stepsOf.2.1 43 = .ok (.iadd, 1) := by decide +kernel
theorem d_Mo_stepsOf_44 : decode m_Mo_stepsOf.2.1 44 = .ok (.aload_n 0, 1) := by decide +kernel
theorem d_Mo_stepsOf_45 : decode m_Mo_stepsOf.2.1 45 = .ok (.getfield 34, 3) := by decide +kernel
theorem d_Mo_stepsOf_48 : decode m_Mo_stepsOf.2.1 48 = .ok (.iload 4, 2) := by decide +kernel
theorem d_Mo_stepsOf_50 : decode m_Mo_stepsOf.2.1 50 = .ok (.iconst 1, 1) := by decide +kernel
theorem d_Mo_stepsOf_51 : decode m_Mo_stepsOf.2.1 51 = .ok (.iadd, 1) := by decide +kernel
theorem d_Mo_stepsOf_52 : decode m_Mo_stepsOf.2.1 52 = .ok (.iaload, 1) := by decide +kernel
theorem d_Mo_stepsOf_53 : decode m_Mo_stepsOf.2.1 53 = .ok (.isub, 1) := by decide +kernel
theorem d_Mo_stepsOf_54 : decode m_Mo_stepsOf.2.1 54 = .ok (.i2l, 1) := by decide +kernel
theorem d_Mo_stepsOf_55 : decode m_Mo_stepsOf.2.1 55 = .ok (.ldc2_w 268, 3) := by decide +kernel
theorem d_Mo_stepsOf_58 : decode m_Mo_stepsOf.2.1 58 = .ok (.lconst 1, 1) := by decide +kernel
theorem d_Mo_stepsOf_59 : decode m_Mo_stepsOf.2.1 59 = .ok (.invokestatic 55, 3) := by decide +kernel
set_option maxRecDepth 100000 in
theorem s_Mo_stepsOf_59 {G : r_X} {n : Nat} {h : r_HI} {g : r_HR} {z : r_HL} {v0 v1 v2 : Value} : r_cl G m_Mo_stepsOf m_Mo_in 59 [v0, v1, v2] n h g z := r_clS d_Mo_stepsOf_59 w_Mo_in (r_in 880 rfl rfl) a_Mo_in n_Mo (by decide +kernel : r_mh m_Mo_in.1 3)
theorem d_Mo_stepsOf_62 : decode m_Mo_stepsOf.2.1 62 = .ok (.ifCond .eq 7, 3) := by decide +kernel
theorem d_Mo_stepsOf_65 : decode m_Mo_stepsOf.2.1 65 = .ok (.iconst 1, 1) := by decide +kernel
theorem d_Mo_stepsOf_66 : decode m_Mo_stepsOf.2.1 66 = .ok (.goto 4, 3) := by decide +kernel
theorem d_Mo_stepsOf_69 : decode m_Mo_stepsOf.2.1 69 = .ok (.iconst 0, 1) := by decide +kernel
theorem d_Mo_stepsOf_70 : decode m_Mo_stepsOf.2.1 70 = .ok (.istore_n 3, 1) := by decide +kernel
theorem d_Mo_stepsOf_71 : decode m_Mo_stepsOf.2.1 71 = .ok (.iinc 4 2, 3) := by decide +kernel
theorem d_Mo_stepsOf_74 : decode m_Mo_stepsOf.2.1 74 = .ok (.goto (-59), 3) := by decide +kernel
theorem d_Mo_stepsOf_77 : decode m_Mo_stepsOf.2.1 77 = .ok (.iload_n 1, 1) := by decide +kernel
theorem d_Mo_stepsOf_78 : decode m_Mo_stepsOf.2.1 78 = .ok (.iload_n 3, 1) := by decide +kernel
theorem d_Mo_stepsOf_79 : decode m_Mo_stepsOf.2.1 79 = .ok (.ifCond .eq 11, 3) := by decide +kernel
theorem d_Mo_stepsOf_82 : decode m_Mo_stepsOf.2.1 82 = .ok (.iconst 1, 1) := by decide +kernel
theorem d_Mo_stepsOf_83 : decode m_Mo_stepsOf.2.1 83 = .ok (.iload_n 2, 1) := by decide +kernel
theorem d_Mo_stepsOf_84 : decode m_Mo_stepsOf.2.1 84 = .ok (.iconst 1, 1) := by decide +kernel
theorem d_Mo_stepsOf_85 : decode m_Mo_stepsOf.2.1 85 = .ok (.isub, 1) := by decide +kernel
theorem d_Mo_stepsOf_86 : decode m_Mo_stepsOf.2.1 86 = .ok (.ishl, 1) := by decide +kernel
theorem d_Mo_stepsOf_87 : decode m_Mo_stepsOf.2.1 87 = .ok (.goto 4, 3) := by decide +kernel
theorem d_Mo_stepsOf_90 : decode m_Mo_stepsOf.2.1 90 = .ok (.iconst 0, 1) := by decide +kernel
theorem d_Mo_stepsOf_91 : decode m_Mo_stepsOf.2.1 91 = .ok (.ior, 1) := by decide +kernel
theorem d_Mo_stepsOf_92 : decode m_Mo_stepsOf.2.1 92 = .ok (.istore_n 1, 1) := by decide +kernel
theorem d_Mo_stepsOf_93 : decode m_Mo_stepsOf.2.1 93 = .ok (.iinc 2 1, 3) := by decide +kernel
theorem d_Mo_stepsOf_96 : decode m_Mo_stepsOf.2.1 96 = .ok (.goto (-92), 3) := by decide +kernel
theorem d_Mo_stepsOf_99 : decode m_Mo_stepsOf.2.1 99 = .ok (.iload_n 1, 1) := by decide +kernel
theorem d_Mo_stepsOf_100 : decode m_Mo_stepsOf.2.1 100 = .ok (.ireturn, 1) := by decide +kernel
theorem d_Mo_steps_0 : decode m_Mo_steps.2.1 0 = .ok (.aload_n 0, 1) := by decide +kernel
theorem d_Mo_steps_1 : decode m_Mo_steps.2.1 1 = .ok (.invokevirtual 184, 3) := by decide +kernel
set_option maxRecDepth 100000 in
theorem s_Mo_steps_1 {G : r_X} {n : Nat} {h : r_HI} {g : r_HR} {z : r_HL} {k : Nat} (hp : r_pk k = (0, 12)) (hk : k < n) : r_cl G m_Mo_steps m_Mo_lacks 1 (.ref (G.2.1 + k) :: []) n h g z := r_clV d_Mo_steps_1 w_Mo_lacks (r_in 971 rfl rfl) a_Mo_lacks (r_inP 21 rfl rfl) n_Mo (by decide +kernel : r_mh m_Mo_lacks.1 0) hp hk (by decide)
theorem d_Mo_steps_4 : decode m_Mo_steps.2.1 4 = .ok (.ifCond .eq 8, 3) := by decide +kernel
theorem d_Mo_steps_7 : decode m_Mo_steps.2.1 7 = .ok (.bipush (-103), 2) := by decide +kernel
theorem d_Mo_steps_9 : decode m_Mo_steps.2.1 9 = .ok (.goto 7, 3) := by decide +kernel
theorem d_Mo_steps_12 : decode m_Mo_steps.2.1 12 = .ok (.aload_n 0, 1) := by decide +kernel
theorem d_Mo_steps_13 : decode m_Mo_steps.2.1 13 = .ok (.invokevirtual 270, 3) := by decide +kernel
set_option maxRecDepth 100000 in
theorem s_Mo_steps_13 {G : r_X} {n : Nat} {h : r_HI} {g : r_HR} {z : r_HL} {k : Nat} (hp : r_pk k = (0, 12)) (hk : k < n) : r_cl G m_Mo_steps m_Mo_stepsOf 13 (.ref (G.2.1 + k) :: []) n h g z := r_clV d_Mo_steps_13 w_Mo_stepsOf (r_in 1143 rfl rfl) a_Mo_stepsOf (r_inP 43 rfl rfl) n_Mo (by decide +kernel : r_mh m_Mo_stepsOf.1 0) hp hk (by decide)
theorem d_Mo_steps_16 : decode m_Mo_steps.2.1 16 = .ok (.ireturn, 1) := by decide +kernel
theorem d_Mo_trialOf_0 : decode m_Mo_trialOf.2.1 0 = .ok (.aload_n 0, 1) := by decide +kernel
theorem d_Mo_trialOf_1 : decode m_Mo_trialOf.2.1 1 = .ok (.invokevirtual 270, 3) := by decide +kernel
set_option maxRecDepth 100000 in
theorem s_Mo_trialOf_1 {G : r_X} {n : Nat} {h : r_HI} {g : r_HR} {z : r_HL} {k : Nat} (hp : r_pk k = (0, 12)) (hk : k < n) : r_cl G m_Mo_trialOf m_Mo_stepsOf 1 (.ref (G.2.1 + k) :: []) n h g z := r_clV d_Mo_trialOf_1 w_Mo_stepsOf (r_in 1143 rfl rfl) a_Mo_stepsOf (r_inP 43 rfl rfl) n_Mo (by decide +kernel : r_mh m_Mo_stepsOf.1 0) hp hk (by decide)
theorem d_Mo_trialOf_4 : decode m_Mo_trialOf.2.1 4 = .ok (.istore_n 1, 1) := by decide +kernel
theorem d_Mo_trialOf_5 : decode m_Mo_trialOf.2.1 5 = .ok (.iconst (-1), 1) := by decide +kernel
theorem d_Mo_trialOf_6 : decode m_Mo_trialOf.2.1 6 = .ok (.istore_n 2, 1) := by decide +kernel
theorem d_Mo_trialOf_7 : decode m_Mo_trialOf.2.1 7 = .ok (.bipush 10, 2) := by decide +kernel
theorem d_Mo_trialOf_9 : decode m_Mo_trialOf.2.1 9 = .ok (.istore_n 3, 1) := by decide +kernel
theorem d_Mo_trialOf_10 : decode m_Mo_trialOf.2.1 10 = .ok (.iconst 1, 1) := by decide +kernel
theorem d_Mo_trialOf_11 : decode m_Mo_trialOf.2.1 11 = .ok (.istore 4, 2) := by decide +kernel
theorem d_Mo_trialOf_13 : decode m_Mo_trialOf.2.1 13 = .ok (.iload 4, 2) := by decide +kernel
theorem d_Mo_trialOf_15 : decode m_Mo_trialOf.2.1 15 = .ok (.bipush 10, 2) := by decide +kernel
theorem d_Mo_trialOf_17 : decode m_Mo_trialOf.2.1 17 = .ok (.if_icmp .ge 137, 3) := by decide +kernel
theorem d_Mo_trialOf_20 : decode m_Mo_trialOf.2.1 20 = .ok (.iload_n 1, 1) := by decide +kernel
theorem d_Mo_trialOf_21 : decode m_Mo_trialOf.2.1 21 = .ok (.ifCond .eq 133, 3) := by decide +kernel
theorem d_Mo_trialOf_24 : decode m_Mo_trialOf.2.1 24 = .ok (.iconst 0, 1) := by decide +kernel
theorem d_Mo_trialOf_25 : decode m_Mo_trialOf.2.1 25 = .ok (.istore 5, 2) := by decide +kernel
theorem d_Mo_trialOf_27 : decode m_Mo_trialOf.2.1 27 = .ok (.iconst 0, 1) := by decide +kernel
theorem d_Mo_trialOf_28 : decode m_Mo_trialOf.2.1 28 = .ok (.istore 6, 2) := by decide +kernel
theorem d_Mo_trialOf_30 : decode m_Mo_trialOf.2.1 30 = .ok (.iload 6, 2) := by decide +kernel
theorem d_Mo_trialOf_32 : decode m_Mo_trialOf.2.1 32 = .ok (.bipush 9, 2) := by decide +kernel
theorem d_Mo_trialOf_34 : decode m_Mo_trialOf.2.1 34 = .ok (.if_icmp .ge 88, 3) := by decide +kernel
theorem d_Mo_trialOf_37 : decode m_Mo_trialOf.2.1 37 = .ok (.iconst 0, 1) := by decide +kernel
theorem d_Mo_trialOf_38 : decode m_Mo_trialOf.2.1 38 = .ok (.istore 7, 2) := by decide +kernel
theorem d_Mo_trialOf_40 : decode m_Mo_trialOf.2.1 40 = .ok (.iconst 0, 1) := by decide +kernel
theorem d_Mo_trialOf_41 : decode m_Mo_trialOf.2.1 41 = .ok (.istore 8, 2) := by decide +kernel
theorem d_Mo_trialOf_43 : decode m_Mo_trialOf.2.1 43 = .ok (.iload 8, 2) := by decide +kernel
theorem d_Mo_trialOf_45 : decode m_Mo_trialOf.2.1 45 = .ok (.bipush 9, 2) := by decide +kernel
theorem d_Mo_trialOf_47 : decode m_Mo_trialOf.2.1 47 = .ok (.if_icmp .ge 43, 3) := by decide +kernel
theorem d_Mo_trialOf_50 : decode m_Mo_trialOf.2.1 50 = .ok (.iload 7, 2) := by decide +kernel
theorem d_Mo_trialOf_52 : decode m_Mo_trialOf.2.1 52 = .ok (.iload 6, 2) := by decide +kernel
theorem d_Mo_trialOf_54 : decode m_Mo_trialOf.2.1 54 = .ok (.iload 8, 2) := by decide +kernel
theorem d_Mo_trialOf_56 : decode m_Mo_trialOf.2.1 56 = .ok (.isub, 1) := by decide +kernel
theorem d_Mo_trialOf_57 : decode m_Mo_trialOf.2.1 57 = .ok (.iload 4, 2) := by decide +kernel
theorem d_Mo_trialOf_59 : decode m_Mo_trialOf.2.1 59 = .ok (.imul, 1) := by decide +kernel
theorem d_Mo_trialOf_60 : decode m_Mo_trialOf.2.1 60 = .ok (.i2l, 1) := by decide +kernel
theorem d_Mo_trialOf_61 : decode m_Mo_trialOf.2.1 61 = .ok (.ldc2_w 268, 3) := by decide +kernel
theorem d_Mo_trialOf_64 : decode m_Mo_trialOf.2.1 64 = .ok (.lconst 1, 1) := by decide +kernel
theorem d_Mo_trialOf_65 : decode m_Mo_trialOf.2.1 65 = .ok (.invokestatic 55, 3) := by decide +kernel
set_option maxRecDepth 100000 in
theorem s_Mo_trialOf_65 {G : r_X} {n : Nat} {h : r_HI} {g : r_HR} {z : r_HL} {v0 v1 v2 : Value} : r_cl G m_Mo_trialOf m_Mo_in 65 [v0, v1, v2] n h g z := r_clS d_Mo_trialOf_65 w_Mo_in (r_in 880 rfl rfl) a_Mo_in n_Mo (by decide +kernel : r_mh m_Mo_in.1 3)
theorem d_Mo_trialOf_68 : decode m_Mo_trialOf.2.1 68 = .ok (.ifCond .eq 12, 3) := by decide +kernel
theorem d_Mo_trialOf_71 : decode m_Mo_trialOf.2.1 71 = .ok (.iload_n 1, 1) := by decide +kernel
theorem d_Mo_trialOf_72 : decode m_Mo_trialOf.2.1 72 = .ok (.iload 8, 2) := by decide +kernel
theorem d_Mo_trialOf_74 : decode m_Mo_trialOf.2.1 74 = .ok (.ishr, 1) := by decide +kernel
theorem d_Mo_trialOf_75 : decode m_Mo_trialOf.2.1 75 = .ok (.iconst 1, 1) := by decide +kernel
theorem d_Mo_trialOf_76 : decode m_Mo_trialOf.2.1 76 = .ok (.iand, 1) := by decide +kernel
theorem d_Mo_trialOf_77 : decode m_Mo_trialOf.2.1 77 = .ok (.goto 4, 3) := by decide +kernel
theorem d_Mo_trialOf_80 : decode m_Mo_trialOf.2.1 80 = .ok (.iconst 0, 1) := by decide +kernel
theorem d_Mo_trialOf_81 : decode m_Mo_trialOf.2.1 81 = .ok (.iadd, 1) := by decide +kernel
theorem d_Mo_trialOf_82 : decode m_Mo_trialOf.2.1 82 = .ok (.istore 7, 2) := by decide +kernel
theorem d_Mo_trialOf_84 : decode m_Mo_trialOf.2.1 84 = .ok (.iinc 8 1, 3) := by decide +kernel
theorem d_Mo_trialOf_87 : decode m_Mo_trialOf.2.1 87 = .ok (.goto (-44), 3) := by decide +kernel
theorem d_Mo_trialOf_90 : decode m_Mo_trialOf.2.1 90 = .ok (.iload_n 1, 1) := by decide +kernel
theorem d_Mo_trialOf_91 : decode m_Mo_trialOf.2.1 91 = .ok (.iload 6, 2) := by decide +kernel
theorem d_Mo_trialOf_93 : decode m_Mo_trialOf.2.1 93 = .ok (.ishr, 1) := by decide +kernel
theorem d_Mo_trialOf_94 : decode m_Mo_trialOf.2.1 94 = .ok (.iconst 1, 1) := by decide +kernel
theorem d_Mo_trialOf_95 : decode m_Mo_trialOf.2.1 95 = .ok (.iand, 1) := by decide +kernel
theorem d_Mo_trialOf_96 : decode m_Mo_trialOf.2.1 96 = .ok (.iconst 1, 1) := by decide +kernel
theorem d_Mo_trialOf_97 : decode m_Mo_trialOf.2.1 97 = .ok (.if_icmp .ne 15, 3) := by decide +kernel
theorem d_Mo_trialOf_100 : decode m_Mo_trialOf.2.1 100 = .ok (.iload 7, 2) := by decide +kernel
theorem d_Mo_trialOf_102 : decode m_Mo_trialOf.2.1 102 = .ok (.iload 5, 2) := by decide +kernel
theorem d_Mo_trialOf_104 : decode m_Mo_trialOf.2.1 104 = .ok (.if_icmp .le 8, 3) := by decide +kernel
theorem d_Mo_trialOf_107 : decode m_Mo_trialOf.2.1 107 = .ok (.iload 7, 2) := by decide +kernel
theorem d_Mo_trialOf_109 : decode m_Mo_trialOf.2.1 109 = .ok (.goto 5, 3) := by decide +kernel
theorem d_Mo_trialOf_112 : decode m_Mo_trialOf.2.1 112 = .ok (.iload 5, 2) := by decide +kernel
theorem d_Mo_trialOf_114 : decode m_Mo_trialOf.2.1 114 = .ok (.istore 5, 2) := by decide +kernel
theorem d_Mo_trialOf_116 : decode m_Mo_trialOf.2.1 116 = .ok (.iinc 6 1, 3) := by decide +kernel
theorem d_Mo_trialOf_119 : decode m_Mo_trialOf.2.1 119 = .ok (.goto (-89), 3) := by decide +kernel
theorem d_Mo_trialOf_122 : decode m_Mo_trialOf.2.1 122 = .ok (.iload 5, 2) := by decide +kernel
theorem d_Mo_trialOf_124 : decode m_Mo_trialOf.2.1 124 = .ok (.iload_n 3, 1) := by decide +kernel
theorem d_Mo_trialOf_125 : decode m_Mo_trialOf.2.1 125 = .ok (.if_icmp .ge 8, 3) := by decide +kernel
theorem d_Mo_trialOf_128 : decode m_Mo_trialOf.2.1 128 = .ok (.iload 4, 2) := by decide +kernel
theorem d_Mo_trialOf_130 : decode m_Mo_trialOf.2.1 130 = .ok (.goto 4, 3) := by decide +kernel
theorem d_Mo_trialOf_133 : decode m_Mo_trialOf.2.1 133 = .ok (.iload_n 2, 1) := by decide +kernel
theorem d_Mo_trialOf_134 : decode m_Mo_trialOf.2.1 134 = .ok (.istore_n 2, 1) := by decide +kernel
theorem d_Mo_trialOf_135 : decode m_Mo_trialOf.2.1 135 = .ok (.iload 5, 2) := by decide +kernel
theorem d_Mo_trialOf_137 : decode m_Mo_trialOf.2.1 137 = .ok (.iload_n 3, 1) := by decide +kernel
theorem d_Mo_trialOf_138 : decode m_Mo_trialOf.2.1 138 = .ok (.if_icmp .ge 8, 3) := by decide +kernel
theorem d_Mo_trialOf_141 : decode m_Mo_trialOf.2.1 141 = .ok (.iload 5, 2) := by decide +kernel
theorem d_Mo_trialOf_143 : decode m_Mo_trialOf.2.1 143 = .ok (.goto 4, 3) := by decide +kernel
theorem d_Mo_trialOf_146 : decode m_Mo_trialOf.2.1 146 = .ok (.iload_n 3, 1) := by decide +kernel
theorem d_Mo_trialOf_147 : decode m_Mo_trialOf.2.1 147 = .ok (.istore_n 3, 1) := by decide +kernel
theorem d_Mo_trialOf_148 : decode m_Mo_trialOf.2.1 148 = .ok (.iinc 4 1, 3) := by decide +kernel
theorem d_Mo_trialOf_151 : decode m_Mo_trialOf.2.1 151 = .ok (.goto (-138), 3) := by decide +kernel
theorem d_Mo_trialOf_154 : decode m_Mo_trialOf.2.1 154 = .ok (.iload_n 2, 1) := by decide +kernel
theorem d_Mo_trialOf_155 : decode m_Mo_trialOf.2.1 155 = .ok (.ireturn, 1) := by decide +kernel
theorem d_Mo_trial_0 : decode m_Mo_trial.2.1 0 = .ok (.aload_n 0, 1) := by decide +kernel
theorem d_Mo_trial_1 : decode m_Mo_trial.2.1 1 = .ok (.invokevirtual 184, 3) := by decide +kernel
set_option maxRecDepth 100000 in
theorem s_Mo_trial_1 {G : r_X} {n : Nat} {h : r_HI} {g : r_HR} {z : r_HL} {k : Nat} (hp : r_pk k = (0, 12)) (hk : k < n) : r_cl G m_Mo_trial m_Mo_lacks 1 (.ref (G.2.1 + k) :: []) n h g z := r_clV d_Mo_trial_1 w_Mo_lacks (r_in 971 rfl rfl) a_Mo_lacks (r_inP 21 rfl rfl) n_Mo (by decide +kernel : r_mh m_Mo_lacks.1 0) hp hk (by decide)
theorem d_Mo_trial_4 : decode m_Mo_trial.2.1 4 = .ok (.ifCond .eq 8, 3) := by decide +kernel
theorem d_Mo_trial_7 : decode m_Mo_trial.2.1 7 = .ok (.bipush (-103), 2) := by decide +kernel
theorem d_Mo_trial_9 : decode m_Mo_trial.2.1 9 = .ok (.goto 7, 3) := by decide +kernel
theorem d_Mo_trial_12 : decode m_Mo_trial.2.1 12 = .ok (.aload_n 0, 1) := by decide +kernel
theorem d_Mo_trial_13 : decode m_Mo_trial.2.1 13 = .ok (.invokevirtual 273, 3) := by decide +kernel
set_option maxRecDepth 100000 in
theorem s_Mo_trial_13 {G : r_X} {n : Nat} {h : r_HI} {g : r_HR} {z : r_HL} {k : Nat} (hp : r_pk k = (0, 12)) (hk : k < n) : r_cl G m_Mo_trial m_Mo_trialOf 13 (.ref (G.2.1 + k) :: []) n h g z := r_clV d_Mo_trial_13 w_Mo_trialOf (r_in 1152 rfl rfl) a_Mo_trialOf (r_inP 44 rfl rfl) n_Mo (by decide +kernel : r_mh m_Mo_trialOf.1 0) hp hk (by decide)
theorem d_Mo_trial_16 : decode m_Mo_trial.2.1 16 = .ok (.ireturn, 1) := by decide +kernel
theorem d_Mo_draw_0 : decode m_Mo_draw.2.1 0 = .ok (.aload_n 0, 1) := by decide +kernel
theorem d_Mo_draw_1 : decode m_Mo_draw.2.1 1 = .ok (.ldc2_w 276, 3) := by decide +kernel
theorem d_Mo_draw_4 : decode m_Mo_draw.2.1 4 = .ok (.aload_n 0, 1) := by decide +kernel
theorem d_Mo_draw_5 : decode m_Mo_draw.2.1 5 = .ok (.getfield 278, 3) := by decide +kernel
theorem d_Mo_draw_8 : decode m_Mo_draw.2.1 8 = .ok (.i2l, 1) := by decide +kernel
theorem d_Mo_draw_9 : decode m_Mo_draw.2.1 9 = .ok (.lmul, 1) := by decide +kernel
theorem d_Mo_draw_10 : decode m_Mo_draw.2.1 10 = .ok (.ldc2_w 281, 3) := by decide +kernel
theorem d_Mo_draw_13 : decode m_Mo_draw.2.1 13 = .ok (.ladd, 1) := by decide +kernel
theorem d_Mo_draw_14 : decode m_Mo_draw.2.1 14 = .ok (.ldc2_w 283, 3) := by decide +kernel
theorem d_Mo_draw_17 : decode m_Mo_draw.2.1 17 = .ok (.land, 1) := by decide +kernel
theorem d_Mo_draw_18 : decode m_Mo_draw.2.1 18 = .ok (.l2i, 1) := by decide +kernel
theorem d_Mo_draw_19 : decode m_Mo_draw.2.1 19 = .ok (.putfield 278, 3) := by decide +kernel
theorem d_Mo_draw_22 : decode m_Mo_draw.2.1 22 = .ok (.aload_n 0, 1) := by decide +kernel
theorem d_Mo_draw_23 : decode m_Mo_draw.2.1 23 = .ok (.getfield 278, 3) := by decide +kernel
theorem d_Mo_draw_26 : decode m_Mo_draw.2.1 26 = .ok (.ldc_w 285, 3) := by decide +kernel
theorem d_Mo_draw_29 : decode m_Mo_draw.2.1 29 = .ok (.idiv, 1) := by decide +kernel
theorem d_Mo_draw_30 : decode m_Mo_draw.2.1 30 = .ok (.iload_n 1, 1) := by decide +kernel
theorem d_Mo_draw_31 : decode m_Mo_draw.2.1 31 = .ok (.irem, 1) := by decide +kernel
theorem d_Mo_draw_32 : decode m_Mo_draw.2.1 32 = .ok (.ireturn, 1) := by decide +kernel
theorem d_Mo_days_0 : decode m_Mo_days.2.1 0 = .ok (.iload_n 1, 1) := by decide +kernel
theorem d_Mo_days_1 : decode m_Mo_days.2.1 1 = .ok (.i2l, 1) := by decide +kernel
theorem d_Mo_days_2 : decode m_Mo_days.2.1 2 = .ok (.lconst 1, 1) := by decide +kernel
theorem d_Mo_days_3 : decode m_Mo_days.2.1 3 = .ok (.ldc2_w 286, 3) := by decide +kernel
theorem d_Mo_days_6 : decode m_Mo_days.2.1 6 = .ok (.invokestatic 55, 3) := by decide +kernel
set_option maxRecDepth 100000 in
theorem s_Mo_days_6 {G : r_X} {n : Nat} {h : r_HI} {g : r_HR} {z : r_HL} {v0 v1 v2 : Value} : r_cl G m_Mo_days m_Mo_in 6 [v0, v1, v2] n h g z := r_clS d_Mo_days_6 w_Mo_in (r_in 880 rfl rfl) a_Mo_in n_Mo (by decide +kernel : r_mh m_Mo_in.1 3)
theorem d_Mo_days_9 : decode m_Mo_days.2.1 9 = .ok (.ifCond .eq 19, 3) := by decide +kernel
theorem d_Mo_days_12 : decode m_Mo_days.2.1 12 = .ok (.iload_n 2, 1) := by decide +kernel
theorem d_Mo_days_13 : decode m_Mo_days.2.1 13 = .ok (.ifCond .lt 15, 3) := by decide +kernel
theorem d_Mo_days_16 : decode m_Mo_days.2.1 16 = .ok (.iload_n 3, 1) := by decide +kernel
theorem d_Mo_days_17 : decode m_Mo_days.2.1 17 = .ok (.i2l, 1) := by decide +kernel
theorem d_Mo_days_18 : decode m_Mo_days.2.1 18 = .ok (.lconst 0, 1) := by decide +kernel
theorem d_Mo_days_19 : decode m_Mo_days.2.1 19 = .ok (.ldc2_w 253, 3) := by decide +kernel
theorem d_Mo_days_22 : decode m_Mo_days.2.1 22 = .ok (.invokestatic 55, 3) := by decide +kernel
set_option maxRecDepth 100000 in
theorem s_Mo_days_22 {G : r_X} {n : Nat} {h : r_HI} {g : r_HR} {z : r_HL} {v0 v1 v2 : Value} : r_cl G m_Mo_days m_Mo_in 22 [v0, v1, v2] n h g z := r_clS d_Mo_days_22 w_Mo_in (r_in 880 rfl rfl) a_Mo_in n_Mo (by decide +kernel : r_mh m_Mo_in.1 3)
theorem d_Mo_days_25 : decode m_Mo_days.2.1 25 = .ok (.ifCond .ne 6, 3) := by decide +kernel
theorem d_Mo_days_28 : decode m_Mo_days.2.1 28 = .ok (.bipush (-102), 2) := by decide +kernel
theorem d_Mo_days_30 : decode m_Mo_days.2.1 30 = .ok (.ireturn, 1) := by decide +kernel
theorem d_Mo_days_31 : decode m_Mo_days.2.1 31 = .ok (.aload_n 0, 1) := by decide +kernel
theorem d_Mo_days_32 : decode m_Mo_days.2.1 32 = .ok (.invokevirtual 184, 3) := by decide +kernel
set_option maxRecDepth 100000 in
theorem s_Mo_days_32 {G : r_X} {n : Nat} {h : r_HI} {g : r_HR} {z : r_HL} {k : Nat} (hp : r_pk k = (0, 12)) (hk : k < n) : r_cl G m_Mo_days m_Mo_lacks 32 (.ref (G.2.1 + k) :: []) n h g z := r_clV d_Mo_days_32 w_Mo_lacks (r_in 971 rfl rfl) a_Mo_lacks (r_inP 21 rfl rfl) n_Mo (by decide +kernel : r_mh m_Mo_lacks.1 0) hp hk (by decide)
theorem d_Mo_days_35 : decode m_Mo_days.2.1 35 = .ok (.ifCond .eq 6, 3) := by decide +kernel
theorem d_Mo_days_38 : decode m_Mo_days.2.1 38 = .ok (.bipush (-103), 2) := by decide +kernel
theorem d_Mo_days_40 : decode m_Mo_days.2.1 40 = .ok (.ireturn, 1) := by decide +kernel
theorem d_Mo_days_41 : decode m_Mo_days.2.1 41 = .ok (.aload_n 0, 1) := by decide +kernel
theorem d_Mo_days_42 : decode m_Mo_days.2.1 42 = .ok (.iload_n 2, 1) := by decide +kernel
theorem d_Mo_days_43 : decode m_Mo_days.2.1 43 = .ok (.putfield 278, 3) := by decide +kernel
theorem d_Mo_days_46 : decode m_Mo_days.2.1 46 = .ok (.aload_n 0, 1) := by decide +kernel
theorem d_Mo_days_47 : decode m_Mo_days.2.1 47 = .ok (.invokevirtual 174, 3) := by decide +kernel
set_option maxRecDepth 100000 in
theorem s_Mo_days_47 {G : r_X} {n : Nat} {h : r_HI} {g : r_HR} {z : r_HL} {k : Nat} (hp : r_pk k = (0, 12)) (hk : k < n) : r_cl G m_Mo_days m_Mo_begin 47 (.ref (G.2.1 + k) :: []) n h g z := r_clV d_Mo_days_47 w_Mo_begin (r_in 951 rfl rfl) a_Mo_begin (r_inP 18 rfl rfl) n_Mo (by decide +kernel : r_mh m_Mo_begin.1 0) hp hk (by decide)
theorem d_Mo_days_50 : decode m_Mo_days.2.1 50 = .ok (.aload_n 0, 1) := by decide +kernel
theorem d_Mo_days_51 : decode m_Mo_days.2.1 51 = .ok (.iconst 0, 1) := by decide +kernel
theorem d_Mo_days_52 : decode m_Mo_days.2.1 52 = .ok (.putfield 139, 3) := by decide +kernel
theorem d_Mo_days_55 : decode m_Mo_days.2.1 55 = .ok (.iconst 0, 1) := by decide +kernel
theorem d_Mo_days_56 : decode m_Mo_days.2.1 56 = .ok (.istore 4, 2) := by decide +kernel
theorem d_Mo_days_58 : decode m_Mo_days.2.1 58 = .ok (.iconst 0, 1) := by decide +kernel
theorem d_Mo_days_59 : decode m_Mo_days.2.1 59 = .ok (.istore 5, 2) := by decide +kernel
theorem d_Mo_days_61 : decode m_Mo_days.2.1 61 = .ok (.iload 5, 2) := by decide +kernel
theorem d_Mo_days_63 : decode m_Mo_days.2.1 63 = .ok (.iload_n 1, 1) := by decide +kernel
theorem d_Mo_days_64 : decode m_Mo_days.2.1 64 = .ok (.if_icmp .ge 66, 3) := by decide +kernel
theorem d_Mo_days_67 : decode m_Mo_days.2.1 67 = .ok (.aload_n 0, 1) := by decide +kernel
theorem d_Mo_days_68 : decode m_Mo_days.2.1 68 = .ok (.aload_n 0, 1) := by decide +kernel
theorem d_Mo_days_69 : decode m_Mo_days.2.1 69 = .ok (.getfield 93, 3) := by decide +kernel
theorem d_Mo_days_72 : decode m_Mo_days.2.1 72 = .ok (.invokevirtual 288, 3) := by decide +kernel
set_option maxRecDepth 100000 in
theorem s_Mo_days_72 {G : r_X} {n : Nat} {h : r_HI} {g : r_HR} {z : r_HL} {k : Nat} {v0 : Value} (hp : r_pk k = (0, 12)) (hk : k < n) : r_cl G m_Mo_days m_Mo_draw 72 (.ref (G.2.1 + k) :: [v0]) n h g z := r_clV d_Mo_days_72 w_Mo_draw (r_in 1161 rfl rfl) a_Mo_draw (r_inP 45 rfl rfl) n_Mo (by decide +kernel : r_mh m_Mo_draw.1 1) hp hk (by decide)
theorem d_Mo_days_75 : decode m_Mo_days.2.1 75 = .ok (.istore 6, 2) := by decide +kernel
theorem d_Mo_days_77 : decode m_Mo_days.2.1 77 = .ok (.aload_n 0, 1) := by decide +kernel
theorem d_Mo_days_78 : decode m_Mo_days.2.1 78 = .ok (.iload 6, 2) := by decide +kernel
theorem d_Mo_days_80 : decode m_Mo_days.2.1 80 = .ok (.aload_n 0, 1) := by decide +kernel
theorem d_Mo_days_81 : decode m_Mo_days.2.1 81 = .ok (.aload_n 0, 1) := by decide +kernel
theorem d_Mo_days_82 : decode m_Mo_days.2.1 82 = .ok (.getfield 13, 3) := by decide +kernel
theorem d_Mo_days_85 : decode m_Mo_days.2.1 85 = .ok (.iload 6, 2) := by decide +kernel
theorem d_Mo_days_87 : decode m_Mo_days.2.1 87 = .ok (.iaload, 1) := by decide +kernel
theorem d_Mo_days_88 : decode m_Mo_days.2.1 88 = .ok (.invokevirtual 288, 3) := by decide +kernel
set_option maxRecDepth 100000 in
theorem s_Mo_days_88 {G : r_X} {n : Nat} {h : r_HI} {g : r_HR} {z : r_HL} {k : Nat} {v0 : Value} (hp : r_pk k = (0, 12)) (hk : k < n) : r_cl G m_Mo_days m_Mo_draw 88 (.ref (G.2.1 + k) :: [v0]) n h g z := r_clV d_Mo_days_88 w_Mo_draw (r_in 1161 rfl rfl) a_Mo_draw (r_inP 45 rfl rfl) n_Mo (by decide +kernel : r_mh m_Mo_draw.1 1) hp hk (by decide)
theorem d_Mo_days_91 : decode m_Mo_days.2.1 91 = .ok (.invokevirtual 194, 3) := by decide +kernel
set_option maxRecDepth 100000 in
theorem s_Mo_days_91 {G : r_X} {n : Nat} {h : r_HI} {g : r_HR} {z : r_HL} {k : Nat} {v0 v1 : Value} (hp : r_pk k = (0, 12)) (hk : k < n) : r_cl G m_Mo_days m_Mo_askThen 91 (.ref (G.2.1 + k) :: [v0, v1]) n h g z := r_clV d_Mo_days_91 w_Mo_askThen (r_in 1007 rfl rfl) a_Mo_askThen (r_inP 28 rfl rfl) n_Mo (by decide +kernel : r_mh m_Mo_askThen.1 2) hp hk (by decide)
theorem d_Mo_days_94 : decode m_Mo_days.2.1 94 = .ok (.pop, 1) := by decide +kernel
theorem d_Mo_days_95 : decode m_Mo_days.2.1 95 = .ok (.iload 4, 2) := by decide +kernel
theorem d_Mo_days_97 : decode m_Mo_days.2.1 97 = .ok (.aload_n 0, 1) := by decide +kernel
theorem d_Mo_days_98 : decode m_Mo_days.2.1 98 = .ok (.getfield 139, 3) := by decide +kernel
theorem d_Mo_days_101 : decode m_Mo_days.2.1 101 = .ok (.iconst 2, 1) := by decide +kernel
theorem d_Mo_days_102 : decode m_Mo_days.2.1 102 = .ok (.if_icmp .le 18, 3) := by decide +kernel
theorem d_Mo_days_105 : decode m_Mo_days.2.1 105 = .ok (.aload_n 0, 1) := by decide +kernel
theorem d_Mo_days_106 : decode m_Mo_days.2.1 106 = .ok (.aload_n 0, 1) := by decide +kernel
theorem d_Mo_days_107 : decode m_Mo_days.2.1 107 = .ok (.aload_n 0, 1) := by decide +kernel
theorem d_Mo_days_108 : decode m_Mo_days.2.1 108 = .ok (.getfield 102, 3) := by decide +kernel
theorem d_Mo_days_111 : decode m_Mo_days.2.1 111 = .ok (.invokevirtual 188, 3) := by decide +kernel
set_option maxRecDepth 100000 in
theorem s_Mo_days_111 {G : r_X} {n : Nat} {h : r_HI} {g : r_HR} {z : r_HL} {k : Nat} {v0 : Value} (hp : r_pk k = (0, 12)) (hk : k < n) : r_cl G m_Mo_days m_Mo_nextThen 111 (.ref (G.2.1 + k) :: [v0]) n h g z := r_clV d_Mo_days_111 w_Mo_nextThen (r_in 983 rfl rfl) a_Mo_nextThen (r_inP 23 rfl rfl) n_Mo (by decide +kernel : r_mh m_Mo_nextThen.1 1) hp hk (by decide)
theorem d_Mo_days_114 : decode m_Mo_days.2.1 114 = .ok (.invokevirtual 200, 3) := by decide +kernel
set_option maxRecDepth 100000 in
theorem s_Mo_days_114 {G : r_X} {n : Nat} {h : r_HI} {g : r_HR} {z : r_HL} {k : Nat} {v0 : Value} (hp : r_pk k = (0, 12)) (hk : k < n) : r_cl G m_Mo_days m_Mo_goTo 114 (.ref (G.2.1 + k) :: [v0]) n h g z := r_clV d_Mo_days_114 w_Mo_goTo (r_in 1023 rfl rfl) a_Mo_goTo (r_inP 31 rfl rfl) n_Mo (by decide +kernel : r_mh m_Mo_goTo.1 1) hp hk (by decide)
theorem d_Mo_days_117 : decode m_Mo_days.2.1 117 = .ok (.goto 4, 3) := by decide +kernel
theorem d_Mo_days_120 : decode m_Mo_days.2.1 120 = .ok (.iconst 0, 1) := by decide +kernel
theorem d_Mo_days_121 : decode m_Mo_days.2.1 121 = .ok (.iadd, 1) := by decide +kernel
theorem d_Mo_days_122 : decode m_Mo_days.2.1 122 = .ok (.istore 4, 2) := by decide +kernel
theorem d_Mo_days_124 : decode m_Mo_days.2.1 124 = .ok (.iinc 5 1, 3) := by decide +kernel
theorem d_Mo_days_127 : decode m_Mo_days.2.1 127 = .ok (.goto (-66), 3) := by decide +kernel
theorem d_Mo_days_130 : decode m_Mo_days.2.1 130 = .ok (.aload_n 0, 1) := by decide +kernel
theorem d_Mo_days_131 : decode m_Mo_days.2.1 131 = .ok (.getfield 139, 3) := by decide +kernel
theorem d_Mo_days_134 : decode m_Mo_days.2.1 134 = .ok (.ifCond .le 23, 3) := by decide +kernel
theorem d_Mo_days_137 : decode m_Mo_days.2.1 137 = .ok (.iload 4, 2) := by decide +kernel
theorem d_Mo_days_139 : decode m_Mo_days.2.1 139 = .ok (.aload_n 0, 1) := by decide +kernel
theorem d_Mo_days_140 : decode m_Mo_days.2.1 140 = .ok (.aload_n 0, 1) := by decide +kernel
theorem d_Mo_days_141 : decode m_Mo_days.2.1 141 = .ok (.aload_n 0, 1) := by decide +kernel
theorem d_Mo_days_142 : decode m_Mo_days.2.1 142 = .ok (.getfield 102, 3) := by decide +kernel
theorem d_Mo_days_145 : decode m_Mo_days.2.1 145 = .ok (.invokevirtual 188, 3) := by decide +kernel
set_option maxRecDepth 100000 in
theorem s_Mo_days_145 {G : r_X} {n : Nat} {h : r_HI} {g : r_HR} {z : r_HL} {k : Nat} {v0 : Value} (hp : r_pk k = (0, 12)) (hk : k < n) : r_cl G m_Mo_days m_Mo_nextThen 145 (.ref (G.2.1 + k) :: [v0]) n h g z := r_clV d_Mo_days_145 w_Mo_nextThen (r_in 983 rfl rfl) a_Mo_nextThen (r_inP 23 rfl rfl) n_Mo (by decide +kernel : r_mh m_Mo_nextThen.1 1) hp hk (by decide)
theorem d_Mo_days_148 : decode m_Mo_days.2.1 148 = .ok (.invokevirtual 200, 3) := by decide +kernel
set_option maxRecDepth 100000 in
theorem s_Mo_days_148 {G : r_X} {n : Nat} {h : r_HI} {g : r_HR} {z : r_HL} {k : Nat} {v0 : Value} (hp : r_pk k = (0, 12)) (hk : k < n) : r_cl G m_Mo_days m_Mo_goTo 148 (.ref (G.2.1 + k) :: [v0]) n h g z := r_clV d_Mo_days_148 w_Mo_goTo (r_in 1023 rfl rfl) a_Mo_goTo (r_inP 31 rfl rfl) n_Mo (by decide +kernel : r_mh m_Mo_goTo.1 1) hp hk (by decide)
theorem d_Mo_days_151 : decode m_Mo_days.2.1 151 = .ok (.iadd, 1) := by decide +kernel
theorem d_Mo_days_152 : decode m_Mo_days.2.1 152 = .ok (.istore 4, 2) := by decide +kernel
theorem d_Mo_days_154 : decode m_Mo_days.2.1 154 = .ok (.goto (-24), 3) := by decide +kernel
theorem d_Mo_days_157 : decode m_Mo_days.2.1 157 = .ok (.iload_n 3, 1) := by decide +kernel
theorem d_Mo_days_158 : decode m_Mo_days.2.1 158 = .ok (.ifCond .ne 10, 3) := by decide +kernel
theorem d_Mo_days_161 : decode m_Mo_days.2.1 161 = .ok (.aload_n 0, 1) := by decide +kernel
theorem d_Mo_days_162 : decode m_Mo_days.2.1 162 = .ok (.getfield 130, 3) := by decide +kernel
theorem d_Mo_days_165 : decode m_Mo_days.2.1 165 = .ok (.goto 17, 3) := by decide +kernel
theorem d_Mo_days_168 : decode m_Mo_days.2.1 168 = .ok (.iload_n 3, 1) := by decide +kernel
theorem d_Mo_days_169 : decode m_Mo_days.2.1 169 = .ok (.iconst 1, 1) := by decide +kernel
theorem d_Mo_days_170 : decode m_Mo_days.2.1 170 = .ok (.if_icmp .ne 8, 3) := by decide +kernel
theorem d_Mo_days_173 : decode m_Mo_days.2.1 173 = .ok (.iload 4, 2) := by decide +kernel
theorem d_Mo_days_175 : decode m_Mo_days.2.1 175 = .ok (.goto 7, 3) := by decide +kernel
theorem d_Mo_days_178 : decode m_Mo_days.2.1 178 = .ok (.aload_n 0, 1) := by decide +kernel
theorem d_Mo_days_179 : decode m_Mo_days.2.1 179 = .ok (.getfield 278, 3) := by decide +kernel
theorem d_Mo_days_182 : decode m_Mo_days.2.1 182 = .ok (.ireturn, 1) := by decide +kernel
theorem d_Mo_image_0 : decode m_Mo_image.2.1 0 = .ok (.aload_n 0, 1) := by decide +kernel
theorem d_Mo_image_1 : decode m_Mo_image.2.1 1 = .ok (.invokevirtual 184, 3) := by decide +kernel
set_option maxRecDepth 100000 in
theorem s_Mo_image_1 {G : r_X} {n : Nat} {h : r_HI} {g : r_HR} {z : r_HL} {k : Nat} (hp : r_pk k = (0, 12)) (hk : k < n) : r_cl G m_Mo_image m_Mo_lacks 1 (.ref (G.2.1 + k) :: []) n h g z := r_clV d_Mo_image_1 w_Mo_lacks (r_in 971 rfl rfl) a_Mo_lacks (r_inP 21 rfl rfl) n_Mo (by decide +kernel : r_mh m_Mo_lacks.1 0) hp hk (by decide)
theorem d_Mo_image_4 : decode m_Mo_image.2.1 4 = .ok (.ifCond .eq 6, 3) := by decide +kernel
theorem d_Mo_image_7 : decode m_Mo_image.2.1 7 = .ok (.bipush (-103), 2) := by decide +kernel
theorem d_Mo_image_9 : decode m_Mo_image.2.1 9 = .ok (.ireturn, 1) := by decide +kernel
theorem d_Mo_image_10 : decode m_Mo_image.2.1 10 = .ok (.aload_n 0, 1) := by decide +kernel
theorem d_Mo_image_11 : decode m_Mo_image.2.1 11 = .ok (.getfield 16, 3) := by decide +kernel
theorem d_Mo_image_14 : decode m_Mo_image.2.1 14 = .ok (.aload_n 0, 1) := by decide +kernel
theorem d_Mo_image_15 : decode m_Mo_image.2.1 15 = .ok (.getfield 37, 3) := by decide +kernel
theorem d_Mo_image_18 : decode m_Mo_image.2.1 18 = .ok (.invokestatic 142, 3) := by decide +kernel
set_option maxRecDepth 100000 in
theorem s_Mo_image_18 {G : r_X} {n : Nat} {h : r_HI} {g : r_HR} {z : r_HL} {v0 v1 : Value} : r_cl G m_Mo_image m_Mo_copy 18 [v0, v1] n h g z := r_clS d_Mo_image_18 w_Mo_copy (r_in 955 rfl rfl) a_Mo_copy n_Mo (by decide +kernel : r_mh m_Mo_copy.1 2)
theorem d_Mo_image_21 : decode m_Mo_image.2.1 21 = .ok (.aload_n 0, 1) := by decide +kernel
theorem d_Mo_image_22 : decode m_Mo_image.2.1 22 = .ok (.getfield 19, 3) := by decide +kernel
theorem d_Mo_image_25 : decode m_Mo_image.2.1 25 = .ok (.aload_n 0, 1) := by decide +kernel
theorem d_Mo_image_26 : decode m_Mo_image.2.1 26 = .ok (.getfield 40, 3) := by decide +kernel
theorem d_Mo_image_29 : decode m_Mo_image.2.1 29 = .ok (.invokestatic 142, 3) := by decide +kernel
set_option maxRecDepth 100000 in
theorem s_Mo_image_29 {G : r_X} {n : Nat} {h : r_HI} {g : r_HR} {z : r_HL} {v0 v1 : Value} : r_cl G m_Mo_image m_Mo_copy 29 [v0, v1] n h g z := r_clS d_Mo_image_29 w_Mo_copy (r_in 955 rfl rfl) a_Mo_copy n_Mo (by decide +kernel : r_mh m_Mo_copy.1 2)
theorem d_Mo_image_32 : decode m_Mo_image.2.1 32 = .ok (.aload_n 0, 1) := by decide +kernel
theorem d_Mo_image_33 : decode m_Mo_image.2.1 33 = .ok (.getfield 31, 3) := by decide +kernel
theorem d_Mo_image_36 : decode m_Mo_image.2.1 36 = .ok (.aload_n 0, 1) := by decide +kernel
theorem d_Mo_image_37 : decode m_Mo_image.2.1 37 = .ok (.getfield 43, 3) := by decide +kernel
theorem d_Mo_image_40 : decode m_Mo_image.2.1 40 = .ok (.invokestatic 142, 3) := by decide +kernel
set_option maxRecDepth 100000 in
theorem s_Mo_image_40 {G : r_X} {n : Nat} {h : r_HI} {g : r_HR} {z : r_HL} {v0 v1 : Value} : r_cl G m_Mo_image m_Mo_copy 40 [v0, v1] n h g z := r_clS d_Mo_image_40 w_Mo_copy (r_in 955 rfl rfl) a_Mo_copy n_Mo (by decide +kernel : r_mh m_Mo_copy.1 2)
theorem d_Mo_image_43 : decode m_Mo_image.2.1 43 = .ok (.aload_n 0, 1) := by decide +kernel
theorem d_Mo_image_44 : decode m_Mo_image.2.1 44 = .ok (.getfield 34, 3) := by decide +kernel
theorem d_Mo_image_47 : decode m_Mo_image.2.1 47 = .ok (.aload_n 0, 1) := by decide +kernel
theorem d_Mo_image_48 : decode m_Mo_image.2.1 48 = .ok (.getfield 46, 3) := by decide +kernel
theorem d_Mo_image_51 : decode m_Mo_image.2.1 51 = .ok (.invokestatic 142, 3) := by decide +kernel
set_option maxRecDepth 100000 in
theorem s_Mo_image_51 {G : r_X} {n : Nat} {h : r_HI} {g : r_HR} {z : r_HL} {v0 v1 : Value} : r_cl G m_Mo_image m_Mo_copy 51 [v0, v1] n h g z := r_clS d_Mo_image_51 w_Mo_copy (r_in 955 rfl rfl) a_Mo_copy n_Mo (by decide +kernel : r_mh m_Mo_copy.1 2)
theorem d_Mo_image_54 : decode m_Mo_image.2.1 54 = .ok (.aload_n 0, 1) := by decide +kernel
theorem d_Mo_image_55 : decode m_Mo_image.2.1 55 = .ok (.aload_n 0, 1) := by decide +kernel
theorem d_Mo_image_56 : decode m_Mo_image.2.1 56 = .ok (.getfield 102, 3) := by decide +kernel
theorem d_Mo_image_59 : decode m_Mo_image.2.1 59 = .ok (.putfield 291, 3) := by decide +kernel
theorem d_Mo_image_62 : decode m_Mo_image.2.1 62 = .ok (.aload_n 0, 1) := by decide +kernel
theorem d_Mo_image_63 : decode m_Mo_image.2.1 63 = .ok (.aload_n 0, 1) := by decide +kernel
theorem d_Mo_image_64 : decode m_Mo_image.2.1 64 = .ok (.getfield 96, 3) := by decide +kernel
theorem d_Mo_image_67 : decode m_Mo_image.2.1 67 = .ok (.putfield 294, 3) := by decide +kernel
theorem d_Mo_image_70 : decode m_Mo_image.2.1 70 = .ok (.aload_n 0, 1) := by decide +kernel
theorem d_Mo_image_71 : decode m_Mo_image.2.1 71 = .ok (.aload_n 0, 1) := by decide +kernel
theorem d_Mo_image_72 : decode m_Mo_image.2.1 72 = .ok (.getfield 99, 3) := by decide +kernel
theorem d_Mo_image_75 : decode m_Mo_image.2.1 75 = .ok (.putfield 297, 3) := by decide +kernel
theorem d_Mo_image_78 : decode m_Mo_image.2.1 78 = .ok (.aload_n 0, 1) := by decide +kernel
theorem d_Mo_image_79 : decode m_Mo_image.2.1 79 = .ok (.aload_n 0, 1) := by decide +kernel
theorem d_Mo_image_80 : decode m_Mo_image.2.1 80 = .ok (.getfield 105, 3) := by decide +kernel
theorem d_Mo_image_83 : decode m_Mo_image.2.1 83 = .ok (.putfield 300, 3) := by decide +kernel
theorem d_Mo_image_86 : decode m_Mo_image.2.1 86 = .ok (.aload_n 0, 1) := by decide +kernel
theorem d_Mo_image_87 : decode m_Mo_image.2.1 87 = .ok (.aload_n 0, 1) := by decide +kernel
theorem d_Mo_image_88 : decode m_Mo_image.2.1 88 = .ok (.getfield 108, 3) := by decide +kernel
theorem d_Mo_image_91 : decode m_Mo_image.2.1 91 = .ok (.putfield 303, 3) := by decide +kernel
theorem d_Mo_image_94 : decode m_Mo_image.2.1 94 = .ok (.aload_n 0, 1) := by decide +kernel
theorem d_Mo_image_95 : decode m_Mo_image.2.1 95 = .ok (.aload_n 0, 1) := by decide +kernel
theorem d_Mo_image_96 : decode m_Mo_image.2.1 96 = .ok (.getfield 111, 3) := by decide +kernel
theorem d_Mo_image_99 : decode m_Mo_image.2.1 99 = .ok (.putfield 306, 3) := by decide +kernel
theorem d_Mo_image_102 : decode m_Mo_image.2.1 102 = .ok (.aload_n 0, 1) := by decide +kernel
theorem d_Mo_image_103 : decode m_Mo_image.2.1 103 = .ok (.aload_n 0, 1) := by decide +kernel
theorem d_Mo_image_104 : decode m_Mo_image.2.1 104 = .ok (.getfield 114, 3) := by decide +kernel
theorem d_Mo_image_107 : decode m_Mo_image.2.1 107 = .ok (.putfield 309, 3) := by decide +kernel
theorem d_Mo_image_110 : decode m_Mo_image.2.1 110 = .ok (.aload_n 0, 1) := by decide +kernel
theorem d_Mo_image_111 : decode m_Mo_image.2.1 111 = .ok (.aload_n 0, 1) := by decide +kernel
theorem d_Mo_image_112 : decode m_Mo_image.2.1 112 = .ok (.getfield 117, 3) := by decide +kernel
theorem d_Mo_image_115 : decode m_Mo_image.2.1 115 = .ok (.putfield 312, 3) := by decide +kernel
theorem d_Mo_image_118 : decode m_Mo_image.2.1 118 = .ok (.aload_n 0, 1) := by decide +kernel
theorem d_Mo_image_119 : decode m_Mo_image.2.1 119 = .ok (.aload_n 0, 1) := by decide +kernel
theorem d_Mo_image_120 : decode m_Mo_image.2.1 120 = .ok (.getfield 120, 3) := by decide +kernel
theorem d_Mo_image_123 : decode m_Mo_image.2.1 123 = .ok (.putfield 49, 3) := by decide +kernel
theorem d_Mo_image_126 : decode m_Mo_image.2.1 126 = .ok (.aload_n 0, 1) := by decide +kernel
theorem d_Mo_image_127 : decode m_Mo_image.2.1 127 = .ok (.getfield 105, 3) := by decide +kernel
theorem d_Mo_image_130 : decode m_Mo_image.2.1 130 = .ok (.ireturn, 1) := by decide +kernel
theorem d_Mo_restore_0 : decode m_Mo_restore.2.1 0 = .ok (.aload_n 0, 1) := by decide +kernel
theorem d_Mo_restore_1 : decode m_Mo_restore.2.1 1 = .ok (.getfield 49, 3) := by decide +kernel
theorem d_Mo_restore_4 : decode m_Mo_restore.2.1 4 = .ok (.aload_n 0, 1) := by decide +kernel
theorem d_Mo_restore_5 : decode m_Mo_restore.2.1 5 = .ok (.getfield 120, 3) := by decide +kernel
theorem d_Mo_restore_8 : decode m_Mo_restore.2.1 8 = .ok (.if_icmp .eq 6, 3) := by decide +kernel
theorem d_Mo_restore_11 : decode m_Mo_restore.2.1 11 = .ok (.bipush (-103), 2) := by decide +kernel
theorem d_Mo_restore_13 : decode m_Mo_restore.2.1 13 = .ok (.ireturn, 1) := by decide +kernel
theorem d_Mo_restore_14 : decode m_Mo_restore.2.1 14 = .ok (.aload_n 0, 1) := by decide +kernel
theorem d_Mo_restore_15 : decode m_Mo_restore.2.1 15 = .ok (.getfield 37, 3) := by decide +kernel
theorem d_Mo_restore_18 : decode m_Mo_restore.2.1 18 = .ok (.aload_n 0, 1) := by decide +kernel
theorem d_Mo_restore_19 : decode m_Mo_restore.2.1 19 = .ok (.getfield 16, 3) := by decide +kernel
theorem d_Mo_restore_22 : decode m_Mo_restore.2.1 22 = .ok (.invokestatic 142, 3) := by decide +kernel
set_option maxRecDepth 100000 in
theorem s_Mo_restore_22 {G : r_X} {n : Nat} {h : r_HI} {g : r_HR} {z : r_HL} {v0 v1 : Value} : r_cl G m_Mo_restore m_Mo_copy 22 [v0, v1] n h g z := r_clS d_Mo_restore_22 w_Mo_copy (r_in 955 rfl rfl) a_Mo_copy n_Mo (by decide +kernel : r_mh m_Mo_copy.1 2)
theorem d_Mo_restore_25 : decode m_Mo_restore.2.1 25 = .ok (.aload_n 0, 1) := by decide +kernel
theorem d_Mo_restore_26 : decode m_Mo_restore.2.1 26 = .ok (.getfield 40, 3) := by decide +kernel
theorem d_Mo_restore_29 : decode m_Mo_restore.2.1 29 = .ok (.aload_n 0, 1) := by decide +kernel
theorem d_Mo_restore_30 : decode m_Mo_restore.2.1 30 = .ok (.getfield 19, 3) := by decide +kernel
theorem d_Mo_restore_33 : decode m_Mo_restore.2.1 33 = .ok (.invokestatic 142, 3) := by decide +kernel
set_option maxRecDepth 100000 in
theorem s_Mo_restore_33 {G : r_X} {n : Nat} {h : r_HI} {g : r_HR} {z : r_HL} {v0 v1 : Value} : r_cl G m_Mo_restore m_Mo_copy 33 [v0, v1] n h g z := r_clS d_Mo_restore_33 w_Mo_copy (r_in 955 rfl rfl) a_Mo_copy n_Mo (by decide +kernel : r_mh m_Mo_copy.1 2)
theorem d_Mo_restore_36 : decode m_Mo_restore.2.1 36 = .ok (.aload_n 0, 1) := by decide +kernel
theorem d_Mo_restore_37 : decode m_Mo_restore.2.1 37 = .ok (.getfield 43, 3) := by decide +kernel
theorem d_Mo_restore_40 : decode m_Mo_restore.2.1 40 = .ok (.aload_n 0, 1) := by decide +kernel
theorem d_Mo_restore_41 : decode m_Mo_restore.2.1 41 = .ok (.getfield 31, 3) := by decide +kernel
theorem d_Mo_restore_44 : decode m_Mo_restore.2.1 44 = .ok (.invokestatic 142, 3) := by decide +kernel
set_option maxRecDepth 100000 in
theorem s_Mo_restore_44 {G : r_X} {n : Nat} {h : r_HI} {g : r_HR} {z : r_HL} {v0 v1 : Value} : r_cl G m_Mo_restore m_Mo_copy 44 [v0, v1] n h g z := r_clS d_Mo_restore_44 w_Mo_copy (r_in 955 rfl rfl) a_Mo_copy n_Mo (by decide +kernel : r_mh m_Mo_copy.1 2)
theorem d_Mo_restore_47 : decode m_Mo_restore.2.1 47 = .ok (.aload_n 0, 1) := by decide +kernel
theorem d_Mo_restore_48 : decode m_Mo_restore.2.1 48 = .ok (.getfield 46, 3) := by decide +kernel
theorem d_Mo_restore_51 : decode m_Mo_restore.2.1 51 = .ok (.aload_n 0, 1) := by decide +kernel
theorem d_Mo_restore_52 : decode m_Mo_restore.2.1 52 = .ok (.getfield 34, 3) := by decide +kernel
theorem d_Mo_restore_55 : decode m_Mo_restore.2.1 55 = .ok (.invokestatic 142, 3) := by decide +kernel
set_option maxRecDepth 100000 in
theorem s_Mo_restore_55 {G : r_X} {n : Nat} {h : r_HI} {g : r_HR} {z : r_HL} {v0 v1 : Value} : r_cl G m_Mo_restore m_Mo_copy 55 [v0, v1] n h g z := r_clS d_Mo_restore_55 w_Mo_copy (r_in 955 rfl rfl) a_Mo_copy n_Mo (by decide +kernel : r_mh m_Mo_copy.1 2)
theorem d_Mo_restore_58 : decode m_Mo_restore.2.1 58 = .ok (.aload_n 0, 1) := by decide +kernel
theorem d_Mo_restore_59 : decode m_Mo_restore.2.1 59 = .ok (.aload_n 0, 1) := by decide +kernel
theorem d_Mo_restore_60 : decode m_Mo_restore.2.1 60 = .ok (.getfield 291, 3) := by decide +kernel
theorem d_Mo_restore_63 : decode m_Mo_restore.2.1 63 = .ok (.putfield 102, 3) := by decide +kernel
theorem d_Mo_restore_66 : decode m_Mo_restore.2.1 66 = .ok (.aload_n 0, 1) := by decide +kernel
theorem d_Mo_restore_67 : decode m_Mo_restore.2.1 67 = .ok (.aload_n 0, 1) := by decide +kernel
theorem d_Mo_restore_68 : decode m_Mo_restore.2.1 68 = .ok (.getfield 294, 3) := by decide +kernel
theorem d_Mo_restore_71 : decode m_Mo_restore.2.1 71 = .ok (.putfield 96, 3) := by decide +kernel
theorem d_Mo_restore_74 : decode m_Mo_restore.2.1 74 = .ok (.aload_n 0, 1) := by decide +kernel
theorem d_Mo_restore_75 : decode m_Mo_restore.2.1 75 = .ok (.aload_n 0, 1) := by decide +kernel
theorem d_Mo_restore_76 : decode m_Mo_restore.2.1 76 = .ok (.getfield 297, 3) := by decide +kernel
theorem d_Mo_restore_79 : decode m_Mo_restore.2.1 79 = .ok (.putfield 99, 3) := by decide +kernel
theorem d_Mo_restore_82 : decode m_Mo_restore.2.1 82 = .ok (.aload_n 0, 1) := by decide +kernel
theorem d_Mo_restore_83 : decode m_Mo_restore.2.1 83 = .ok (.aload_n 0, 1) := by decide +kernel
theorem d_Mo_restore_84 : decode m_Mo_restore.2.1 84 = .ok (.getfield 300, 3) := by decide +kernel
theorem d_Mo_restore_87 : decode m_Mo_restore.2.1 87 = .ok (.putfield 105, 3) := by decide +kernel
theorem d_Mo_restore_90 : decode m_Mo_restore.2.1 90 = .ok (.aload_n 0, 1) := by decide +kernel
theorem d_Mo_restore_91 : decode m_Mo_restore.2.1 91 = .ok (.aload_n 0, 1) := by decide +kernel
theorem d_Mo_restore_92 : decode m_Mo_restore.2.1 92 = .ok (.getfield 303, 3) := by decide +kernel
theorem d_Mo_restore_95 : decode m_Mo_restore.2.1 95 = .ok (.putfield 108, 3) := by decide +kernel
theorem d_Mo_restore_98 : decode m_Mo_restore.2.1 98 = .ok (.aload_n 0, 1) := by decide +kernel
theorem d_Mo_restore_99 : decode m_Mo_restore.2.1 99 = .ok (.aload_n 0, 1) := by decide +kernel
theorem d_Mo_restore_100 : decode m_Mo_restore.2.1 100 = .ok (.getfield 306, 3) := by decide +kernel
theorem d_Mo_restore_103 : decode m_Mo_restore.2.1 103 = .ok (.putfield 111, 3) := by decide +kernel
theorem d_Mo_restore_106 : decode m_Mo_restore.2.1 106 = .ok (.aload_n 0, 1) := by decide +kernel
theorem d_Mo_restore_107 : decode m_Mo_restore.2.1 107 = .ok (.aload_n 0, 1) := by decide +kernel
theorem d_Mo_restore_108 : decode m_Mo_restore.2.1 108 = .ok (.getfield 309, 3) := by decide +kernel
theorem d_Mo_restore_111 : decode m_Mo_restore.2.1 111 = .ok (.putfield 114, 3) := by decide +kernel
theorem d_Mo_restore_114 : decode m_Mo_restore.2.1 114 = .ok (.aload_n 0, 1) := by decide +kernel
theorem d_Mo_restore_115 : decode m_Mo_restore.2.1 115 = .ok (.aload_n 0, 1) := by decide +kernel
theorem d_Mo_restore_116 : decode m_Mo_restore.2.1 116 = .ok (.getfield 312, 3) := by decide +kernel
theorem d_Mo_restore_119 : decode m_Mo_restore.2.1 119 = .ok (.putfield 117, 3) := by decide +kernel
theorem d_Mo_restore_122 : decode m_Mo_restore.2.1 122 = .ok (.aload_n 0, 1) := by decide +kernel
theorem d_Mo_restore_123 : decode m_Mo_restore.2.1 123 = .ok (.getfield 105, 3) := by decide +kernel
theorem d_Mo_restore_126 : decode m_Mo_restore.2.1 126 = .ok (.ireturn, 1) := by decide +kernel
theorem d_Mo_placesAll_0 : decode m_Mo_placesAll.2.1 0 = .ok (.iconst 0, 1) := by decide +kernel
theorem d_Mo_placesAll_1 : decode m_Mo_placesAll.2.1 1 = .ok (.istore_n 1, 1) := by decide +kernel
theorem d_Mo_placesAll_2 : decode m_Mo_placesAll.2.1 2 = .ok (.iconst 0, 1) := by decide +kernel
theorem d_Mo_placesAll_3 : decode m_Mo_placesAll.2.1 3 = .ok (.istore_n 2, 1) := by decide +kernel
theorem d_Mo_placesAll_4 : decode m_Mo_placesAll.2.1 4 = .ok (.iload_n 2, 1) := by decide +kernel
theorem d_Mo_placesAll_5 : decode m_Mo_placesAll.2.1 5 = .ok (.aload_n 0, 1) := by decide +kernel
theorem d_Mo_placesAll_6 : decode m_Mo_placesAll.2.1 6 = .ok (.getfield 93, 3) := by decide +kernel
theorem d_Mo_placesAll_9 : decode m_Mo_placesAll.2.1 9 = .ok (.if_icmp .ge 18, 3) := by decide +kernel
theorem d_Mo_placesAll_12 : decode m_Mo_placesAll.2.1 12 = .ok (.iload_n 1, 1) := by decide +kernel
theorem d_Mo_placesAll_13 : decode m_Mo_placesAll.2.1 13 = .ok (.aload_n 0, 1) := by decide +kernel
theorem d_Mo_placesAll_14 : decode m_Mo_placesAll.2.1 14 = .ok (.getfield 13, 3) := by decide +kernel
theorem d_Mo_placesAll_17 : decode m_Mo_placesAll.2.1 17 = .ok (.iload_n 2, 1) := by decide +kernel
theorem d_Mo_placesAll_18 : decode m_Mo_placesAll.2.1 18 = .ok (.iaload, 1) := by decide +kernel
theorem d_Mo_placesAll_19 : decode m_Mo_placesAll.2.1 19 = .ok (.iadd, 1) := by decide +kernel
theorem d_Mo_placesAll_20 : decode m_Mo_placesAll.2.1 20 = .ok (.istore_n 1, 1) := by decide +kernel
theorem d_Mo_placesAll_21 : decode m_Mo_placesAll.2.1 21 = .ok (.iinc 2 1, 3) := by decide +kernel
theorem d_Mo_placesAll_24 : decode m_Mo_placesAll.2.1 24 = .ok (.goto (-20), 3) := by decide +kernel
theorem d_Mo_placesAll_27 : decode m_Mo_placesAll.2.1 27 = .ok (.iload_n 1, 1) := by decide +kernel
theorem d_Mo_placesAll_28 : decode m_Mo_placesAll.2.1 28 = .ok (.ireturn, 1) := by decide +kernel
theorem d_Mo_countOf_0 : decode m_Mo_countOf.2.1 0 = .ok (.iload_n 1, 1) := by decide +kernel
theorem d_Mo_countOf_1 : decode m_Mo_countOf.2.1 1 = .ok (.tableswitch 132 0 12 #[67, 72, 77, 82, 87, 92, 97, 102, 107, 112, 117, 122, 127], 67) := by decide +kernel
theorem d_Mo_countOf_68 : decode m_Mo_countOf.2.1 68 = .ok (.aload_n 0, 1) := by decide +kernel
theorem d_Mo_countOf_69 : decode m_Mo_countOf.2.1 69 = .ok (.getfield 93, 3) := by decide +kernel
theorem d_Mo_countOf_72 : decode m_Mo_countOf.2.1 72 = .ok (.ireturn, 1) := by decide +kernel
theorem d_Mo_countOf_73 : decode m_Mo_countOf.2.1 73 = .ok (.aload_n 0, 1) := by decide +kernel
theorem d_Mo_countOf_74 : decode m_Mo_countOf.2.1 74 = .ok (.invokevirtual 315, 3) := by decide +kernel
set_option maxRecDepth 100000 in
theorem s_Mo_countOf_74 {G : r_X} {n : Nat} {h : r_HI} {g : r_HR} {z : r_HL} {k : Nat} (hp : r_pk k = (0, 12)) (hk : k < n) : r_cl G m_Mo_countOf m_Mo_placesAll 74 (.ref (G.2.1 + k) :: []) n h g z := r_clV d_Mo_countOf_74 w_Mo_placesAll (r_in 1185 rfl rfl) a_Mo_placesAll (r_inP 47 rfl rfl) n_Mo (by decide +kernel : r_mh m_Mo_placesAll.1 0) hp hk (by decide)
theorem d_Mo_countOf_77 : decode m_Mo_countOf.2.1 77 = .ok (.ireturn, 1) := by decide +kernel
theorem d_Mo_countOf_78 : decode m_Mo_countOf.2.1 78 = .ok (.aload_n 0, 1) := by decide +kernel
theorem d_Mo_countOf_79 : decode m_Mo_countOf.2.1 79 = .ok (.getfield 105, 3) := by decide +kernel
theorem d_Mo_countOf_82 : decode m_Mo_countOf.2.1 82 = .ok (.ireturn, 1) := by decide +kernel
theorem d_Mo_countOf_83 : decode m_Mo_countOf.2.1 83 = .ok (.aload_n 0, 1) := by decide +kernel
theorem d_Mo_countOf_84 : decode m_Mo_countOf.2.1 84 = .ok (.getfield 108, 3) := by decide +kernel
theorem d_Mo_countOf_87 : decode m_Mo_countOf.2.1 87 = .ok (.ireturn, 1) := by decide +kernel
theorem d_Mo_countOf_88 : decode m_Mo_countOf.2.1 88 = .ok (.aload_n 0, 1) := by decide +kernel
theorem d_Mo_countOf_89 : decode m_Mo_countOf.2.1 89 = .ok (.getfield 111, 3) := by decide +kernel
theorem d_Mo_countOf_92 : decode m_Mo_countOf.2.1 92 = .ok (.ireturn, 1) := by decide +kernel
theorem d_Mo_countOf_93 : decode m_Mo_countOf.2.1 93 = .ok (.aload_n 0, 1) := by decide +kernel
theorem d_Mo_countOf_94 : decode m_Mo_countOf.2.1 94 = .ok (.getfield 114, 3) := by decide +kernel
theorem d_Mo_countOf_97 : decode m_Mo_countOf.2.1 97 = .ok (.ireturn, 1) := by decide +kernel
theorem d_Mo_countOf_98 : decode m_Mo_countOf.2.1 98 = .ok (.aload_n 0, 1) := by decide +kernel
theorem d_Mo_countOf_99 : decode m_Mo_countOf.2.1 99 = .ok (.getfield 96, 3) := by decide +kernel
theorem d_Mo_countOf_102 : decode m_Mo_countOf.2.1 102 = .ok (.ireturn, 1) := by decide +kernel
theorem d_Mo_countOf_103 : decode m_Mo_countOf.2.1 103 = .ok (.aload_n 0, 1) := by decide +kernel
theorem d_Mo_countOf_104 : decode m_Mo_countOf.2.1 104 = .ok (.getfield 99, 3) := by decide +kernel
theorem d_Mo_countOf_107 : decode m_Mo_countOf.2.1 107 = .ok (.ireturn, 1) := by decide +kernel
theorem d_Mo_countOf_108 : decode m_Mo_countOf.2.1 108 = .ok (.aload_n 0, 1) := by decide +kernel
theorem d_Mo_countOf_109 : decode m_Mo_countOf.2.1 109 = .ok (.invokevirtual 242, 3) := by decide +kernel
set_option maxRecDepth 100000 in
theorem s_Mo_countOf_109 {G : r_X} {n : Nat} {h : r_HI} {g : r_HR} {z : r_HL} {k : Nat} (hp : r_pk k = (0, 12)) (hk : k < n) : r_cl G m_Mo_countOf m_Mo_things 109 (.ref (G.2.1 + k) :: []) n h g z := r_clV d_Mo_countOf_109 w_Mo_things (r_in 1099 rfl rfl) a_Mo_things (r_inP 38 rfl rfl) n_Mo (by decide +kernel : r_mh m_Mo_things.1 0) hp hk (by decide)
theorem d_Mo_countOf_112 : decode m_Mo_countOf.2.1 112 = .ok (.ireturn, 1) := by decide +kernel
theorem d_Mo_countOf_113 : decode m_Mo_countOf.2.1 113 = .ok (.aload_n 0, 1) := by decide +kernel
theorem d_Mo_countOf_114 : decode m_Mo_countOf.2.1 114 = .ok (.getfield 117, 3) := by decide +kernel
theorem d_Mo_countOf_117 : decode m_Mo_countOf.2.1 117 = .ok (.ireturn, 1) := by decide +kernel
theorem d_Mo_countOf_118 : decode m_Mo_countOf.2.1 118 = .ok (.aload_n 0, 1) := by decide +kernel
theorem d_Mo_countOf_119 : decode m_Mo_countOf.2.1 119 = .ok (.getfield 59, 3) := by decide +kernel
theorem d_Mo_countOf_122 : decode m_Mo_countOf.2.1 122 = .ok (.ireturn, 1) := by decide +kernel
theorem d_Mo_countOf_123 : decode m_Mo_countOf.2.1 123 = .ok (.aload_n 0, 1) := by decide +kernel
theorem d_Mo_countOf_124 : decode m_Mo_countOf.2.1 124 = .ok (.getfield 120, 3) := by decide +kernel
theorem d_Mo_countOf_127 : decode m_Mo_countOf.2.1 127 = .ok (.ireturn, 1) := by decide +kernel
theorem d_Mo_countOf_128 : decode m_Mo_countOf.2.1 128 = .ok (.aload_n 0, 1) := by decide +kernel
theorem d_Mo_countOf_129 : decode m_Mo_countOf.2.1 129 = .ok (.getfield 234, 3) := by decide +kernel
theorem d_Mo_countOf_132 : decode m_Mo_countOf.2.1 132 = .ok (.ireturn, 1) := by decide +kernel
theorem d_Mo_countOf_133 : decode m_Mo_countOf.2.1 133 = .ok (.bipush (-102), 2) := by decide +kernel
theorem d_Mo_countOf_135 : decode m_Mo_countOf.2.1 135 = .ok (.ireturn, 1) := by decide +kernel
theorem d_Mo_count_0 : decode m_Mo_count.2.1 0 = .ok (.aload_n 0, 1) := by decide +kernel
theorem d_Mo_count_1 : decode m_Mo_count.2.1 1 = .ok (.iload_n 1, 1) := by decide +kernel
theorem d_Mo_count_2 : decode m_Mo_count.2.1 2 = .ok (.invokevirtual 318, 3) := by decide +kernel
set_option maxRecDepth 100000 in
theorem s_Mo_count_2 {G : r_X} {n : Nat} {h : r_HI} {g : r_HR} {z : r_HL} {k : Nat} {v0 : Value} (hp : r_pk k = (0, 12)) (hk : k < n) : r_cl G m_Mo_count m_Mo_countOf 2 (.ref (G.2.1 + k) :: [v0]) n h g z := r_clV d_Mo_count_2 w_Mo_countOf (r_in 1181 rfl rfl) a_Mo_countOf (r_inP 46 rfl rfl) n_Mo (by decide +kernel : r_mh m_Mo_countOf.1 1) hp hk (by decide)
theorem d_Mo_count_5 : decode m_Mo_count.2.1 5 = .ok (.ireturn, 1) := by decide +kernel
theorem d_Mo_say_0 : decode m_Mo_say.2.1 0 = .ok (.aload_n 0, 1) := by decide +kernel
theorem d_Mo_say_1 : decode m_Mo_say.2.1 1 = .ok (.ldc2_w 321, 3) := by decide +kernel
theorem d_Mo_say_4 : decode m_Mo_say.2.1 4 = .ok (.aload_n 0, 1) := by decide +kernel
theorem d_Mo_say_5 : decode m_Mo_say.2.1 5 = .ok (.getfield 323, 3) := by decide +kernel
theorem d_Mo_say_8 : decode m_Mo_say.2.1 8 = .ok (.lmul, 1) := by decide +kernel
theorem d_Mo_say_9 : decode m_Mo_say.2.1 9 = .ok (.lload_n 1, 1) := by decide +kernel
theorem d_Mo_say_10 : decode m_Mo_say.2.1 10 = .ok (.ladd, 1) := by decide +kernel
theorem d_Mo_say_11 : decode m_Mo_say.2.1 11 = .ok (.putfield 323, 3) := by decide +kernel
theorem d_Mo_say_14 : decode m_Mo_say.2.1 14 = .ok (.return_, 1) := by decide +kernel
theorem d_Mo_sayPlate_0 : decode m_Mo_sayPlate.2.1 0 = .ok (.aload_n 0, 1) := by decide +kernel
theorem d_Mo_sayPlate_1 : decode m_Mo_sayPlate.2.1 1 = .ok (.aload_n 0, 1) := by decide +kernel
theorem d_Mo_sayPlate_2 : decode m_Mo_sayPlate.2.1 2 = .ok (.getfield 102, 3) := by decide +kernel
theorem d_Mo_sayPlate_5 : decode m_Mo_sayPlate.2.1 5 = .ok (.i2l, 1) := by decide +kernel
theorem d_Mo_sayPlate_6 : decode m_Mo_sayPlate.2.1 6 = .ok (.invokevirtual 327, 3) := by decide +kernel
set_option maxRecDepth 100000 in
theorem s_Mo_sayPlate_6 {G : r_X} {n : Nat} {h : r_HI} {g : r_HR} {z : r_HL} {k : Nat} {v0 : Value} (hp : r_pk k = (0, 12)) (hk : k < n) : r_cl G m_Mo_sayPlate m_Mo_say 6 (.ref (G.2.1 + k) :: [v0]) n h g z := r_clV d_Mo_sayPlate_6 w_Mo_say (r_in 1194 rfl rfl) a_Mo_say (r_inP 48 rfl rfl) n_Mo (by decide +kernel : r_mh m_Mo_say.1 1) hp hk (by decide)
theorem d_Mo_sayPlate_9 : decode m_Mo_sayPlate.2.1 9 = .ok (.aload_n 0, 1) := by decide +kernel
theorem d_Mo_sayPlate_10 : decode m_Mo_sayPlate.2.1 10 = .ok (.aload_n 0, 1) := by decide +kernel
theorem d_Mo_sayPlate_11 : decode m_Mo_sayPlate.2.1 11 = .ok (.invokevirtual 191, 3) := by decide +kernel
set_option maxRecDepth 100000 in
theorem s_Mo_sayPlate_11 {G : r_X} {n : Nat} {h : r_HI} {g : r_HR} {z : r_HL} {k : Nat} (hp : r_pk k = (0, 12)) (hk : k < n) : r_cl G m_Mo_sayPlate m_Mo_nextOf 11 (.ref (G.2.1 + k) :: []) n h g z := r_clV d_Mo_sayPlate_11 w_Mo_nextOf (r_in 979 rfl rfl) a_Mo_nextOf (r_inP 22 rfl rfl) n_Mo (by decide +kernel : r_mh m_Mo_nextOf.1 0) hp hk (by decide)
theorem d_Mo_sayPlate_14 : decode m_Mo_sayPlate.2.1 14 = .ok (.i2l, 1) := by decide +kernel
theorem d_Mo_sayPlate_15 : decode m_Mo_sayPlate.2.1 15 = .ok (.invokevirtual 327, 3) := by decide +kernel
set_option maxRecDepth 100000 in
theorem s_Mo_sayPlate_15 {G : r_X} {n : Nat} {h : r_HI} {g : r_HR} {z : r_HL} {k : Nat} {v0 : Value} (hp : r_pk k = (0, 12)) (hk : k < n) : r_cl G m_Mo_sayPlate m_Mo_say 15 (.ref (G.2.1 + k) :: [v0]) n h g z := r_clV d_Mo_sayPlate_15 w_Mo_say (r_in 1194 rfl rfl) a_Mo_say (r_inP 48 rfl rfl) n_Mo (by decide +kernel : r_mh m_Mo_say.1 1) hp hk (by decide)
theorem d_Mo_sayPlate_18 : decode m_Mo_sayPlate.2.1 18 = .ok (.iconst 0, 1) := by decide +kernel
theorem d_Mo_sayPlate_19 : decode m_Mo_sayPlate.2.1 19 = .ok (.istore_n 1, 1) := by decide +kernel
theorem d_Mo_sayPlate_20 : decode m_Mo_sayPlate.2.1 20 = .ok (.iload_n 1, 1) := by decide +kernel
theorem d_Mo_sayPlate_21 : decode m_Mo_sayPlate.2.1 21 = .ok (.iconst 5, 1) := by decide +kernel
theorem d_Mo_sayPlate_22 : decode m_Mo_sayPlate.2.1 22 = .ok (.if_icmp .ge 31, 3) := by decide +kernel
theorem d_Mo_sayPlate_25 : decode m_Mo_sayPlate.2.1 25 = .ok (.aload_n 0, 1) := by decide +kernel
theorem d_Mo_sayPlate_26 : decode m_Mo_sayPlate.2.1 26 = .ok (.aload_n 0, 1) := by decide +kernel
theorem d_Mo_sayPlate_27 : decode m_Mo_sayPlate.2.1 27 = .ok (.iload_n 1, 1) := by decide +kernel
theorem d_Mo_sayPlate_28 : decode m_Mo_sayPlate.2.1 28 = .ok (.iconst 0, 1) := by decide +kernel
theorem d_Mo_sayPlate_29 : decode m_Mo_sayPlate.2.1 29 = .ok (.invokevirtual 213, 3) := by decide +kernel
set_option maxRecDepth 100000 in
theorem s_Mo_sayPlate_29 {G : r_X} {n : Nat} {h : r_HI} {g : r_HR} {z : r_HL} {k : Nat} {v0 v1 : Value} (hp : r_pk k = (0, 12)) (hk : k < n) : r_cl G m_Mo_sayPlate m_Mo_runOf 29 (.ref (G.2.1 + k) :: [v0, v1]) n h g z := r_clV d_Mo_sayPlate_29 w_Mo_runOf (r_in 1055 rfl rfl) a_Mo_runOf (r_inP 32 rfl rfl) n_Mo (by decide +kernel : r_mh m_Mo_runOf.1 2) hp hk (by decide)
theorem d_Mo_sayPlate_32 : decode m_Mo_sayPlate.2.1 32 = .ok (.i2l, 1) := by decide +kernel
theorem d_Mo_sayPlate_33 : decode m_Mo_sayPlate.2.1 33 = .ok (.invokevirtual 327, 3) := by decide +kernel
set_option maxRecDepth 100000 in
theorem s_Mo_sayPlate_33 {G : r_X} {n : Nat} {h : r_HI} {g : r_HR} {z : r_HL} {k : Nat} {v0 : Value} (hp : r_pk k = (0, 12)) (hk : k < n) : r_cl G m_Mo_sayPlate m_Mo_say 33 (.ref (G.2.1 + k) :: [v0]) n h g z := r_clV d_Mo_sayPlate_33 w_Mo_say (r_in 1194 rfl rfl) a_Mo_say (r_inP 48 rfl rfl) n_Mo (by decide +kernel : r_mh m_Mo_say.1 1) hp hk (by decide)
theorem d_Mo_sayPlate_36 : decode m_Mo_sayPlate.2.1 36 = .ok (.aload_n 0, 1) := by decide +kernel
theorem d_Mo_sayPlate_37 : decode m_Mo_sayPlate.2.1 37 = .ok (.aload_n 0, 1) := by decide +kernel
theorem d_Mo_sayPlate_38 : decode m_Mo_sayPlate.2.1 38 = .ok (.iload_n 1, 1) := by decide +kernel
theorem d_Mo_sayPlate_39 : decode m_Mo_sayPlate.2.1 39 = .ok (.iconst 1, 1) := by decide +kernel
theorem d_Mo_sayPlate_40 : decode m_Mo_sayPlate.2.1 40 = .ok (.invokevirtual 213, 3) := by decide +kernel
set_option maxRecDepth 100000 in
theorem s_Mo_sayPlate_40 {G : r_X} {n : Nat} {h : r_HI} {g : r_HR} {z : r_HL} {k : Nat} {v0 v1 : Value} (hp : r_pk k = (0, 12)) (hk : k < n) : r_cl G m_Mo_sayPlate m_Mo_runOf 40 (.ref (G.2.1 + k) :: [v0, v1]) n h g z := r_clV d_Mo_sayPlate_40 w_Mo_runOf (r_in 1055 rfl rfl) a_Mo_runOf (r_inP 32 rfl rfl) n_Mo (by decide +kernel : r_mh m_Mo_runOf.1 2) hp hk (by decide)
theorem d_Mo_sayPlate_43 : decode m_Mo_sayPlate.2.1 43 = .ok (.i2l, 1) := by decide +kernel
theorem d_Mo_sayPlate_44 : decode m_Mo_sayPlate.2.1 44 = .ok (.invokevirtual 327, 3) := by decide +kernel
set_option maxRecDepth 100000 in
theorem s_Mo_sayPlate_44 {G : r_X} {n : Nat} {h : r_HI} {g : r_HR} {z : r_HL} {k : Nat} {v0 : Value} (hp : r_pk k = (0, 12)) (hk : k < n) : r_cl G m_Mo_sayPlate m_Mo_say 44 (.ref (G.2.1 + k) :: [v0]) n h g z := r_clV d_Mo_sayPlate_44 w_Mo_say (r_in 1194 rfl rfl) a_Mo_say (r_inP 48 rfl rfl) n_Mo (by decide +kernel : r_mh m_Mo_say.1 1) hp hk (by decide)
theorem d_Mo_sayPlate_47 : decode m_Mo_sayPlate.2.1 47 = .ok (.iinc 1 1, 3) := by decide +kernel
theorem d_Mo_sayPlate_50 : decode m_Mo_sayPlate.2.1 50 = .ok (.goto (-30), 3) := by decide +kernel
theorem d_Mo_sayPlate_53 : decode m_Mo_sayPlate.2.1 53 = .ok (.aload_n 0, 1) := by decide +kernel
theorem d_Mo_sayPlate_54 : decode m_Mo_sayPlate.2.1 54 = .ok (.aload_n 0, 1) := by decide +kernel
theorem d_Mo_sayPlate_55 : decode m_Mo_sayPlate.2.1 55 = .ok (.iconst 0, 1) := by decide +kernel
theorem d_Mo_sayPlate_56 : decode m_Mo_sayPlate.2.1 56 = .ok (.iconst 1, 1) := by decide +kernel
theorem d_Mo_sayPlate_57 : decode m_Mo_sayPlate.2.1 57 = .ok (.iconst 0, 1) := by decide +kernel
theorem d_Mo_sayPlate_58 : decode m_Mo_sayPlate.2.1 58 = .ok (.invokevirtual 255, 3) := by decide +kernel
set_option maxRecDepth 100000 in
theorem s_Mo_sayPlate_58 {G : r_X} {n : Nat} {h : r_HI} {g : r_HR} {z : r_HL} {k : Nat} {v0 v1 v2 : Value} (hp : r_pk k = (0, 12)) (hk : k < n) : r_cl G m_Mo_sayPlate m_Mo_behindOf 58 (.ref (G.2.1 + k) :: [v0, v1, v2]) n h g z := r_clV d_Mo_sayPlate_58 w_Mo_behindOf (r_in 1112 rfl rfl) a_Mo_behindOf (r_inP 40 rfl rfl) n_Mo (by decide +kernel : r_mh m_Mo_behindOf.1 3) hp hk (by decide)
theorem d_Mo_sayPlate_61 : decode m_Mo_sayPlate.2.1 61 = .ok (.i2l, 1) := by decide +kernel
theorem d_Mo_sayPlate_62 : decode m_Mo_sayPlate.2.1 62 = .ok (.invokevirtual 327, 3) := by decide +kernel
set_option maxRecDepth 100000 in
theorem s_Mo_sayPlate_62 {G : r_X} {n : Nat} {h : r_HI} {g : r_HR} {z : r_HL} {k : Nat} {v0 : Value} (hp : r_pk k = (0, 12)) (hk : k < n) : r_cl G m_Mo_sayPlate m_Mo_say 62 (.ref (G.2.1 + k) :: [v0]) n h g z := r_clV d_Mo_sayPlate_62 w_Mo_say (r_in 1194 rfl rfl) a_Mo_say (r_inP 48 rfl rfl) n_Mo (by decide +kernel : r_mh m_Mo_say.1 1) hp hk (by decide)
theorem d_Mo_sayPlate_65 : decode m_Mo_sayPlate.2.1 65 = .ok (.aload_n 0, 1) := by decide +kernel
theorem d_Mo_sayPlate_66 : decode m_Mo_sayPlate.2.1 66 = .ok (.aload_n 0, 1) := by decide +kernel
theorem d_Mo_sayPlate_67 : decode m_Mo_sayPlate.2.1 67 = .ok (.iconst 0, 1) := by decide +kernel
theorem d_Mo_sayPlate_68 : decode m_Mo_sayPlate.2.1 68 = .ok (.iconst 1, 1) := by decide +kernel
theorem d_Mo_sayPlate_69 : decode m_Mo_sayPlate.2.1 69 = .ok (.iconst 1, 1) := by decide +kernel
theorem d_Mo_sayPlate_70 : decode m_Mo_sayPlate.2.1 70 = .ok (.invokevirtual 255, 3) := by decide +kernel
set_option maxRecDepth 100000 in
theorem s_Mo_sayPlate_70 {G : r_X} {n : Nat} {h : r_HI} {g : r_HR} {z : r_HL} {k : Nat} {v0 v1 v2 : Value} (hp : r_pk k = (0, 12)) (hk : k < n) : r_cl G m_Mo_sayPlate m_Mo_behindOf 70 (.ref (G.2.1 + k) :: [v0, v1, v2]) n h g z := r_clV d_Mo_sayPlate_70 w_Mo_behindOf (r_in 1112 rfl rfl) a_Mo_behindOf (r_inP 40 rfl rfl) n_Mo (by decide +kernel : r_mh m_Mo_behindOf.1 3) hp hk (by decide)
theorem d_Mo_sayPlate_73 : decode m_Mo_sayPlate.2.1 73 = .ok (.i2l, 1) := by decide +kernel
theorem d_Mo_sayPlate_74 : decode m_Mo_sayPlate.2.1 74 = .ok (.invokevirtual 327, 3) := by decide +kernel
set_option maxRecDepth 100000 in
theorem s_Mo_sayPlate_74 {G : r_X} {n : Nat} {h : r_HI} {g : r_HR} {z : r_HL} {k : Nat} {v0 : Value} (hp : r_pk k = (0, 12)) (hk : k < n) : r_cl G m_Mo_sayPlate m_Mo_say 74 (.ref (G.2.1 + k) :: [v0]) n h g z := r_clV d_Mo_sayPlate_74 w_Mo_say (r_in 1194 rfl rfl) a_Mo_say (r_inP 48 rfl rfl) n_Mo (by decide +kernel : r_mh m_Mo_say.1 1) hp hk (by decide)
theorem d_Mo_sayPlate_77 : decode m_Mo_sayPlate.2.1 77 = .ok (.aload_n 0, 1) := by decide +kernel
theorem d_Mo_sayPlate_78 : decode m_Mo_sayPlate.2.1 78 = .ok (.aload_n 0, 1) := by decide +kernel
theorem d_Mo_sayPlate_79 : decode m_Mo_sayPlate.2.1 79 = .ok (.iconst 0, 1) := by decide +kernel
theorem d_Mo_sayPlate_80 : decode m_Mo_sayPlate.2.1 80 = .ok (.iconst 1, 1) := by decide +kernel
theorem d_Mo_sayPlate_81 : decode m_Mo_sayPlate.2.1 81 = .ok (.iconst 2, 1) := by decide +kernel
theorem d_Mo_sayPlate_82 : decode m_Mo_sayPlate.2.1 82 = .ok (.invokevirtual 255, 3) := by decide +kernel
set_option maxRecDepth 100000 in
theorem s_Mo_sayPlate_82 {G : r_X} {n : Nat} {h : r_HI} {g : r_HR} {z : r_HL} {k : Nat} {v0 v1 v2 : Value} (hp : r_pk k = (0, 12)) (hk : k < n) : r_cl G m_Mo_sayPlate m_Mo_behindOf 82 (.ref (G.2.1 + k) :: [v0, v1, v2]) n h g z := r_clV d_Mo_sayPlate_82 w_Mo_behindOf (r_in 1112 rfl rfl) a_Mo_behindOf (r_inP 40 rfl rfl) n_Mo (by decide +kernel : r_mh m_Mo_behindOf.1 3) hp hk (by decide)
theorem d_Mo_sayPlate_85 : decode m_Mo_sayPlate.2.1 85 = .ok (.i2l, 1) := by decide +kernel
theorem d_Mo_sayPlate_86 : decode m_Mo_sayPlate.2.1 86 = .ok (.invokevirtual 327, 3) := by decide +kernel
set_option maxRecDepth 100000 in
theorem s_Mo_sayPlate_86 {G : r_X} {n : Nat} {h : r_HI} {g : r_HR} {z : r_HL} {k : Nat} {v0 : Value} (hp : r_pk k = (0, 12)) (hk : k < n) : r_cl G m_Mo_sayPlate m_Mo_say 86 (.ref (G.2.1 + k) :: [v0]) n h g z := r_clV d_Mo_sayPlate_86 w_Mo_say (r_in 1194 rfl rfl) a_Mo_say (r_inP 48 rfl rfl) n_Mo (by decide +kernel : r_mh m_Mo_say.1 1) hp hk (by decide)
theorem d_Mo_sayPlate_89 : decode m_Mo_sayPlate.2.1 89 = .ok (.aload_n 0, 1) := by decide +kernel
theorem d_Mo_sayPlate_90 : decode m_Mo_sayPlate.2.1 90 = .ok (.aload_n 0, 1) := by decide +kernel
theorem d_Mo_sayPlate_91 : decode m_Mo_sayPlate.2.1 91 = .ok (.iconst 0, 1) := by decide +kernel
theorem d_Mo_sayPlate_92 : decode m_Mo_sayPlate.2.1 92 = .ok (.invokevirtual 250, 3) := by decide +kernel
set_option maxRecDepth 100000 in
theorem s_Mo_sayPlate_92 {G : r_X} {n : Nat} {h : r_HI} {g : r_HR} {z : r_HL} {k : Nat} {v0 : Value} (hp : r_pk k = (0, 12)) (hk : k < n) : r_cl G m_Mo_sayPlate m_Mo_layOf 92 (.ref (G.2.1 + k) :: [v0]) n h g z := r_clV d_Mo_sayPlate_92 w_Mo_layOf (r_in 1095 rfl rfl) a_Mo_layOf (r_inP 37 rfl rfl) n_Mo (by decide +kernel : r_mh m_Mo_layOf.1 1) hp hk (by decide)
theorem d_Mo_sayPlate_95 : decode m_Mo_sayPlate.2.1 95 = .ok (.i2l, 1) := by decide +kernel
theorem d_Mo_sayPlate_96 : decode m_Mo_sayPlate.2.1 96 = .ok (.invokevirtual 327, 3) := by decide +kernel
set_option maxRecDepth 100000 in
theorem s_Mo_sayPlate_96 {G : r_X} {n : Nat} {h : r_HI} {g : r_HR} {z : r_HL} {k : Nat} {v0 : Value} (hp : r_pk k = (0, 12)) (hk : k < n) : r_cl G m_Mo_sayPlate m_Mo_say 96 (.ref (G.2.1 + k) :: [v0]) n h g z := r_clV d_Mo_sayPlate_96 w_Mo_say (r_in 1194 rfl rfl) a_Mo_say (r_inP 48 rfl rfl) n_Mo (by decide +kernel : r_mh m_Mo_say.1 1) hp hk (by decide)
theorem d_Mo_sayPlate_99 : decode m_Mo_sayPlate.2.1 99 = .ok (.iconst 0, 1) := by decide +kernel
theorem d_Mo_sayPlate_100 : decode m_Mo_sayPlate.2.1 100 = .ok (.istore_n 1, 1) := by decide +kernel
theorem d_Mo_sayPlate_101 : decode m_Mo_sayPlate.2.1 101 = .ok (.iload_n 1, 1) := by decide +kernel
theorem d_Mo_sayPlate_102 : decode m_Mo_sayPlate.2.1 102 = .ok (.bipush 6, 2) := by decide +kernel
theorem d_Mo_sayPlate_104 : decode m_Mo_sayPlate.2.1 104 = .ok (.if_icmp .ge 22, 3) := by decide +kernel
theorem d_Mo_sayPlate_107 : decode m_Mo_sayPlate.2.1 107 = .ok (.aload_n 0, 1) := by decide +kernel
theorem d_Mo_sayPlate_108 : decode m_Mo_sayPlate.2.1 108 = .ok (.aload_n 0, 1) := by decide +kernel
theorem d_Mo_sayPlate_109 : decode m_Mo_sayPlate.2.1 109 = .ok (.bipush 10, 2) := by decide +kernel
theorem d_Mo_sayPlate_111 : decode m_Mo_sayPlate.2.1 111 = .ok (.iload_n 1, 1) := by decide +kernel
theorem d_Mo_sayPlate_112 : decode m_Mo_sayPlate.2.1 112 = .ok (.iadd, 1) := by decide +kernel
theorem d_Mo_sayPlate_113 : decode m_Mo_sayPlate.2.1 113 = .ok (.invokevirtual 250, 3) := by decide +kernel
set_option maxRecDepth 100000 in
theorem s_Mo_sayPlate_113 {G : r_X} {n : Nat} {h : r_HI} {g : r_HR} {z : r_HL} {k : Nat} {v0 : Value} (hp : r_pk k = (0, 12)) (hk : k < n) : r_cl G m_Mo_sayPlate m_Mo_layOf 113 (.ref (G.2.1 + k) :: [v0]) n h g z := r_clV d_Mo_sayPlate_113 w_Mo_layOf (r_in 1095 rfl rfl) a_Mo_layOf (r_inP 37 rfl rfl) n_Mo (by decide +kernel : r_mh m_Mo_layOf.1 1) hp hk (by decide)
theorem d_Mo_sayPlate_116 : decode m_Mo_sayPlate.2.1 116 = .ok (.i2l, 1) := by decide +kernel
theorem d_Mo_sayPlate_117 : decode m_Mo_sayPlate.2.1 117 = .ok (.invokevirtual 327, 3) := by decide +kernel
set_option maxRecDepth 100000 in
theorem s_Mo_sayPlate_117 {G : r_X} {n : Nat} {h : r_HI} {g : r_HR} {z : r_HL} {k : Nat} {v0 : Value} (hp : r_pk k = (0, 12)) (hk : k < n) : r_cl G m_Mo_sayPlate m_Mo_say 117 (.ref (G.2.1 + k) :: [v0]) n h g z := r_clV d_Mo_sayPlate_117 w_Mo_say (r_in 1194 rfl rfl) a_Mo_say (r_inP 48 rfl rfl) n_Mo (by decide +kernel : r_mh m_Mo_say.1 1) hp hk (by decide)
theorem d_Mo_sayPlate_120 : decode m_Mo_sayPlate.2.1 120 = .ok (.iinc 1 1, 3) := by decide +kernel
theorem d_Mo_sayPlate_123 : decode m_Mo_sayPlate.2.1 123 = .ok (.goto (-22), 3) := by decide +kernel
theorem d_Mo_sayPlate_126 : decode m_Mo_sayPlate.2.1 126 = .ok (.aload_n 0, 1) := by decide +kernel
theorem d_Mo_sayPlate_127 : decode m_Mo_sayPlate.2.1 127 = .ok (.aload_n 0, 1) := by decide +kernel
theorem d_Mo_sayPlate_128 : decode m_Mo_sayPlate.2.1 128 = .ok (.invokevirtual 270, 3) := by decide +kernel
set_option maxRecDepth 100000 in
theorem s_Mo_sayPlate_128 {G : r_X} {n : Nat} {h : r_HI} {g : r_HR} {z : r_HL} {k : Nat} (hp : r_pk k = (0, 12)) (hk : k < n) : r_cl G m_Mo_sayPlate m_Mo_stepsOf 128 (.ref (G.2.1 + k) :: []) n h g z := r_clV d_Mo_sayPlate_128 w_Mo_stepsOf (r_in 1143 rfl rfl) a_Mo_stepsOf (r_inP 43 rfl rfl) n_Mo (by decide +kernel : r_mh m_Mo_stepsOf.1 0) hp hk (by decide)
theorem d_Mo_sayPlate_131 : decode m_Mo_sayPlate.2.1 131 = .ok (.i2l, 1) := by decide +kernel
theorem d_Mo_sayPlate_132 : decode m_Mo_sayPlate.2.1 132 = .ok (.invokevirtual 327, 3) := by decide +kernel
set_option maxRecDepth 100000 in
theorem s_Mo_sayPlate_132 {G : r_X} {n : Nat} {h : r_HI} {g : r_HR} {z : r_HL} {k : Nat} {v0 : Value} (hp : r_pk k = (0, 12)) (hk : k < n) : r_cl G m_Mo_sayPlate m_Mo_say 132 (.ref (G.2.1 + k) :: [v0]) n h g z := r_clV d_Mo_sayPlate_132 w_Mo_say (r_in 1194 rfl rfl) a_Mo_say (r_inP 48 rfl rfl) n_Mo (by decide +kernel : r_mh m_Mo_say.1 1) hp hk (by decide)
theorem d_Mo_sayPlate_135 : decode m_Mo_sayPlate.2.1 135 = .ok (.aload_n 0, 1) := by decide +kernel
theorem d_Mo_sayPlate_136 : decode m_Mo_sayPlate.2.1 136 = .ok (.aload_n 0, 1) := by decide +kernel
theorem d_Mo_sayPlate_137 : decode m_Mo_sayPlate.2.1 137 = .ok (.invokevirtual 273, 3) := by decide +kernel
set_option maxRecDepth 100000 in
theorem s_Mo_sayPlate_137 {G : r_X} {n : Nat} {h : r_HI} {g : r_HR} {z : r_HL} {k : Nat} (hp : r_pk k = (0, 12)) (hk : k < n) : r_cl G m_Mo_sayPlate m_Mo_trialOf 137 (.ref (G.2.1 + k) :: []) n h g z := r_clV d_Mo_sayPlate_137 w_Mo_trialOf (r_in 1152 rfl rfl) a_Mo_trialOf (r_inP 44 rfl rfl) n_Mo (by decide +kernel : r_mh m_Mo_trialOf.1 0) hp hk (by decide)
theorem d_Mo_sayPlate_140 : decode m_Mo_sayPlate.2.1 140 = .ok (.i2l, 1) := by decide +kernel
theorem d_Mo_sayPlate_141 : decode m_Mo_sayPlate.2.1 141 = .ok (.invokevirtual 327, 3) := by decide +kernel
set_option maxRecDepth 100000 in
theorem s_Mo_sayPlate_141 {G : r_X} {n : Nat} {h : r_HI} {g : r_HR} {z : r_HL} {k : Nat} {v0 : Value} (hp : r_pk k = (0, 12)) (hk : k < n) : r_cl G m_Mo_sayPlate m_Mo_say 141 (.ref (G.2.1 + k) :: [v0]) n h g z := r_clV d_Mo_sayPlate_141 w_Mo_say (r_in 1194 rfl rfl) a_Mo_say (r_inP 48 rfl rfl) n_Mo (by decide +kernel : r_mh m_Mo_say.1 1) hp hk (by decide)
theorem d_Mo_sayPlate_144 : decode m_Mo_sayPlate.2.1 144 = .ok (.return_, 1) := by decide +kernel
theorem d_Mo_digest_0 : decode m_Mo_digest.2.1 0 = .ok (.aload_n 0, 1) := by decide +kernel
theorem d_Mo_digest_1 : decode m_Mo_digest.2.1 1 = .ok (.ldc2_w 331, 3) := by decide +kernel
theorem d_Mo_digest_4 : decode m_Mo_digest.2.1 4 = .ok (.putfield 323, 3) := by decide +kernel
theorem d_Mo_digest_7 : decode m_Mo_digest.2.1 7 = .ok (.iconst 0, 1) := by decide +kernel
theorem d_Mo_digest_8 : decode m_Mo_digest.2.1 8 = .ok (.istore_n 1, 1) := by decide +kernel
theorem d_Mo_digest_9 : decode m_Mo_digest.2.1 9 = .ok (.iload_n 1, 1) := by decide +kernel
theorem d_Mo_digest_10 : decode m_Mo_digest.2.1 10 = .ok (.aload_n 0, 1) := by decide +kernel
theorem d_Mo_digest_11 : decode m_Mo_digest.2.1 11 = .ok (.getfield 93, 3) := by decide +kernel
theorem d_Mo_digest_14 : decode m_Mo_digest.2.1 14 = .ok (.if_icmp .ge 57, 3) := by decide +kernel
theorem d_Mo_digest_17 : decode m_Mo_digest.2.1 17 = .ok (.iconst 0, 1) := by decide +kernel
theorem d_Mo_digest_18 : decode m_Mo_digest.2.1 18 = .ok (.istore_n 2, 1) := by decide +kernel
theorem d_Mo_digest_19 : decode m_Mo_digest.2.1 19 = .ok (.iload_n 2, 1) := by decide +kernel
theorem d_Mo_digest_20 : decode m_Mo_digest.2.1 20 = .ok (.iconst 5, 1) := by decide +kernel
theorem d_Mo_digest_21 : decode m_Mo_digest.2.1 21 = .ok (.if_icmp .ge 20, 3) := by decide +kernel
theorem d_Mo_digest_24 : decode m_Mo_digest.2.1 24 = .ok (.aload_n 0, 1) := by decide +kernel
theorem d_Mo_digest_25 : decode m_Mo_digest.2.1 25 = .ok (.aload_n 0, 1) := by decide +kernel
theorem d_Mo_digest_26 : decode m_Mo_digest.2.1 26 = .ok (.iload_n 1, 1) := by decide +kernel
theorem d_Mo_digest_27 : decode m_Mo_digest.2.1 27 = .ok (.iload_n 2, 1) := by decide +kernel
theorem d_Mo_digest_28 : decode m_Mo_digest.2.1 28 = .ok (.invokevirtual 171, 3) := by decide +kernel
set_option maxRecDepth 100000 in
theorem s_Mo_digest_28 {G : r_X} {n : Nat} {h : r_HI} {g : r_HR} {z : r_HL} {k : Nat} {v0 v1 : Value} (hp : r_pk k = (0, 12)) (hk : k < n) : r_cl G m_Mo_digest m_Mo_tellRing 28 (.ref (G.2.1 + k) :: [v0, v1]) n h g z := r_clV d_Mo_digest_28 w_Mo_tellRing (r_in 926 rfl rfl) a_Mo_tellRing (r_inP 13 rfl rfl) n_Mo (by decide +kernel : r_mh m_Mo_tellRing.1 2) hp hk (by decide)
theorem d_Mo_digest_31 : decode m_Mo_digest.2.1 31 = .ok (.i2l, 1) := by decide +kernel
theorem d_Mo_digest_32 : decode m_Mo_digest.2.1 32 = .ok (.invokevirtual 327, 3) := by decide +kernel
set_option maxRecDepth 100000 in
theorem s_Mo_digest_32 {G : r_X} {n : Nat} {h : r_HI} {g : r_HR} {z : r_HL} {k : Nat} {v0 : Value} (hp : r_pk k = (0, 12)) (hk : k < n) : r_cl G m_Mo_digest m_Mo_say 32 (.ref (G.2.1 + k) :: [v0]) n h g z := r_clV d_Mo_digest_32 w_Mo_say (r_in 1194 rfl rfl) a_Mo_say (r_inP 48 rfl rfl) n_Mo (by decide +kernel : r_mh m_Mo_say.1 1) hp hk (by decide)
theorem d_Mo_digest_35 : decode m_Mo_digest.2.1 35 = .ok (.iinc 2 1, 3) := by decide +kernel
theorem d_Mo_digest_38 : decode m_Mo_digest.2.1 38 = .ok (.goto (-19), 3) := by decide +kernel
theorem d_Mo_digest_41 : decode m_Mo_digest.2.1 41 = .ok (.aload_n 0, 1) := by decide +kernel
theorem d_Mo_digest_42 : decode m_Mo_digest.2.1 42 = .ok (.aload_n 0, 1) := by decide +kernel
theorem d_Mo_digest_43 : decode m_Mo_digest.2.1 43 = .ok (.iload_n 1, 1) := by decide +kernel
theorem d_Mo_digest_44 : decode m_Mo_digest.2.1 44 = .ok (.iconst 5, 1) := by decide +kernel
theorem d_Mo_digest_45 : decode m_Mo_digest.2.1 45 = .ok (.iconst 0, 1) := by decide +kernel
theorem d_Mo_digest_46 : decode m_Mo_digest.2.1 46 = .ok (.invokevirtual 265, 3) := by decide +kernel
set_option maxRecDepth 100000 in
theorem s_Mo_digest_46 {G : r_X} {n : Nat} {h : r_HI} {g : r_HR} {z : r_HL} {k : Nat} {v0 v1 v2 : Value} (hp : r_pk k = (0, 12)) (hk : k < n) : r_cl G m_Mo_digest m_Mo_apartOf 46 (.ref (G.2.1 + k) :: [v0, v1, v2]) n h g z := r_clV d_Mo_digest_46 w_Mo_apartOf (r_in 1120 rfl rfl) a_Mo_apartOf (r_inP 41 rfl rfl) n_Mo (by decide +kernel : r_mh m_Mo_apartOf.1 3) hp hk (by decide)
theorem d_Mo_digest_49 : decode m_Mo_digest.2.1 49 = .ok (.i2l, 1) := by decide +kernel
theorem d_Mo_digest_50 : decode m_Mo_digest.2.1 50 = .ok (.invokevirtual 327, 3) := by decide +kernel
set_option maxRecDepth 100000 in
theorem s_Mo_digest_50 {G : r_X} {n : Nat} {h : r_HI} {g : r_HR} {z : r_HL} {k : Nat} {v0 : Value} (hp : r_pk k = (0, 12)) (hk : k < n) : r_cl G m_Mo_digest m_Mo_say 50 (.ref (G.2.1 + k) :: [v0]) n h g z := r_clV d_Mo_digest_50 w_Mo_say (r_in 1194 rfl rfl) a_Mo_say (r_inP 48 rfl rfl) n_Mo (by decide +kernel : r_mh m_Mo_say.1 1) hp hk (by decide)
theorem d_Mo_digest_53 : decode m_Mo_digest.2.1 53 = .ok (.aload_n 0, 1) := by decide +kernel
theorem d_Mo_digest_54 : decode m_Mo_digest.2.1 54 = .ok (.aload_n 0, 1) := by decide +kernel
theorem d_Mo_digest_55 : decode m_Mo_digest.2.1 55 = .ok (.iload_n 1, 1) := by decide +kernel
theorem d_Mo_digest_56 : decode m_Mo_digest.2.1 56 = .ok (.iconst 5, 1) := by decide +kernel
theorem d_Mo_digest_57 : decode m_Mo_digest.2.1 57 = .ok (.iconst 1, 1) := by decide +kernel
theorem d_Mo_digest_58 : decode m_Mo_digest.2.1 58 = .ok (.invokevirtual 265, 3) := by decide +kernel
set_option maxRecDepth 100000 in
theorem s_Mo_digest_58 {G : r_X} {n : Nat} {h : r_HI} {g : r_HR} {z : r_HL} {k : Nat} {v0 v1 v2 : Value} (hp : r_pk k = (0, 12)) (hk : k < n) : r_cl G m_Mo_digest m_Mo_apartOf 58 (.ref (G.2.1 + k) :: [v0, v1, v2]) n h g z := r_clV d_Mo_digest_58 w_Mo_apartOf (r_in 1120 rfl rfl) a_Mo_apartOf (r_inP 41 rfl rfl) n_Mo (by decide +kernel : r_mh m_Mo_apartOf.1 3) hp hk (by decide)
theorem d_Mo_digest_61 : decode m_Mo_digest.2.1 61 = .ok (.i2l, 1) := by decide +kernel
theorem d_Mo_digest_62 : decode m_Mo_digest.2.1 62 = .ok (.invokevirtual 327, 3) := by decide +kernel
set_option maxRecDepth 100000 in
theorem s_Mo_digest_62 {G : r_X} {n : Nat} {h : r_HI} {g : r_HR} {z : r_HL} {k : Nat} {v0 : Value} (hp : r_pk k = (0, 12)) (hk : k < n) : r_cl G m_Mo_digest m_Mo_say 62 (.ref (G.2.1 + k) :: [v0]) n h g z := r_clV d_Mo_digest_62 w_Mo_say (r_in 1194 rfl rfl) a_Mo_say (r_inP 48 rfl rfl) n_Mo (by decide +kernel : r_mh m_Mo_say.1 1) hp hk (by decide)
theorem d_Mo_digest_65 : decode m_Mo_digest.2.1 65 = .ok (.iinc 1 1, 3) := by decide +kernel
theorem d_Mo_digest_68 : decode m_Mo_digest.2.1 68 = .ok (.goto (-59), 3) := by decide +kernel
theorem d_Mo_digest_71 : decode m_Mo_digest.2.1 71 = .ok (.iconst 0, 1) := by decide +kernel
theorem d_Mo_digest_72 : decode m_Mo_digest.2.1 72 = .ok (.istore_n 1, 1) := by decide +kernel
theorem d_Mo_digest_73 : decode m_Mo_digest.2.1 73 = .ok (.iload_n 1, 1) := by decide +kernel
theorem d_Mo_digest_74 : decode m_Mo_digest.2.1 74 = .ok (.aload_n 0, 1) := by decide +kernel
theorem d_Mo_digest_75 : decode m_Mo_digest.2.1 75 = .ok (.getfield 114, 3) := by decide +kernel
theorem d_Mo_digest_78 : decode m_Mo_digest.2.1 78 = .ok (.if_icmp .ge 33, 3) := by decide +kernel
theorem d_Mo_digest_81 : decode m_Mo_digest.2.1 81 = .ok (.iconst 0, 1) := by decide +kernel
theorem d_Mo_digest_82 : decode m_Mo_digest.2.1 82 = .ok (.istore_n 2, 1) := by decide +kernel
theorem d_Mo_digest_83 : decode m_Mo_digest.2.1 83 = .ok (.iload_n 2, 1) := by decide +kernel
theorem d_Mo_digest_84 : decode m_Mo_digest.2.1 84 = .ok (.iconst 4, 1) := by decide +kernel
theorem d_Mo_digest_85 : decode m_Mo_digest.2.1 85 = .ok (.if_icmp .ge 20, 3) := by decide +kernel
theorem d_Mo_digest_88 : decode m_Mo_digest.2.1 88 = .ok (.aload_n 0, 1) := by decide +kernel
theorem d_Mo_digest_89 : decode m_Mo_digest.2.1 89 = .ok (.aload_n 0, 1) := by decide +kernel
theorem d_Mo_digest_90 : decode m_Mo_digest.2.1 90 = .ok (.iload_n 1, 1) := by decide +kernel
theorem d_Mo_digest_91 : decode m_Mo_digest.2.1 91 = .ok (.iload_n 2, 1) := by decide +kernel
theorem d_Mo_digest_92 : decode m_Mo_digest.2.1 92 = .ok (.invokevirtual 179, 3) := by decide +kernel
set_option maxRecDepth 100000 in
theorem s_Mo_digest_92 {G : r_X} {n : Nat} {h : r_HI} {g : r_HR} {z : r_HL} {k : Nat} {v0 v1 : Value} (hp : r_pk k = (0, 12)) (hk : k < n) : r_cl G m_Mo_digest m_Mo_tellAsked 92 (.ref (G.2.1 + k) :: [v0, v1]) n h g z := r_clV d_Mo_digest_92 w_Mo_tellAsked (r_in 947 rfl rfl) a_Mo_tellAsked (r_inP 17 rfl rfl) n_Mo (by decide +kernel : r_mh m_Mo_tellAsked.1 2) hp hk (by decide)
theorem d_Mo_digest_95 : decode m_Mo_digest.2.1 95 = .ok (.i2l, 1) := by decide +kernel
theorem d_Mo_digest_96 : decode m_Mo_digest.2.1 96 = .ok (.invokevirtual 327, 3) := by decide +kernel
set_option maxRecDepth 100000 in
theorem s_Mo_digest_96 {G : r_X} {n : Nat} {h : r_HI} {g : r_HR} {z : r_HL} {k : Nat} {v0 : Value} (hp : r_pk k = (0, 12)) (hk : k < n) : r_cl G m_Mo_digest m_Mo_say 96 (.ref (G.2.1 + k) :: [v0]) n h g z := r_clV d_Mo_digest_96 w_Mo_say (r_in 1194 rfl rfl) a_Mo_say (r_inP 48 rfl rfl) n_Mo (by decide +kernel : r_mh m_Mo_say.1 1) hp hk (by decide)
theorem d_Mo_digest_99 : decode m_Mo_digest.2.1 99 = .ok (.iinc 2 1, 3) := by decide +kernel
theorem d_Mo_digest_102 : decode m_Mo_digest.2.1 102 = .ok (.goto (-19), 3) := by decide +kernel
theorem d_Mo_digest_105 : decode m_Mo_digest.2.1 105 = .ok (.iinc 1 1, 3) := by decide +kernel
theorem d_Mo_digest_108 : decode m_Mo_digest.2.1 108 = .ok (.goto (-35), 3) := by decide +kernel
theorem d_Mo_digest_111 : decode m_Mo_digest.2.1 111 = .ok (.aload_n 0, 1) := by decide +kernel
theorem d_Mo_digest_112 : decode m_Mo_digest.2.1 112 = .ok (.invokevirtual 184, 3) := by decide +kernel
set_option maxRecDepth 100000 in
theorem s_Mo_digest_112 {G : r_X} {n : Nat} {h : r_HI} {g : r_HR} {z : r_HL} {k : Nat} (hp : r_pk k = (0, 12)) (hk : k < n) : r_cl G m_Mo_digest m_Mo_lacks 112 (.ref (G.2.1 + k) :: []) n h g z := r_clV d_Mo_digest_112 w_Mo_lacks (r_in 971 rfl rfl) a_Mo_lacks (r_inP 21 rfl rfl) n_Mo (by decide +kernel : r_mh m_Mo_lacks.1 0) hp hk (by decide)
theorem d_Mo_digest_115 : decode m_Mo_digest.2.1 115 = .ok (.ifCond .ne 7, 3) := by decide +kernel
theorem d_Mo_digest_118 : decode m_Mo_digest.2.1 118 = .ok (.aload_n 0, 1) := by decide +kernel
theorem d_Mo_digest_119 : decode m_Mo_digest.2.1 119 = .ok (.invokevirtual 333, 3) := by decide +kernel
set_option maxRecDepth 100000 in
theorem s_Mo_digest_119 {G : r_X} {n : Nat} {h : r_HI} {g : r_HR} {z : r_HL} {k : Nat} (hp : r_pk k = (0, 12)) (hk : k < n) : r_cl G m_Mo_digest m_Mo_sayPlate 119 (.ref (G.2.1 + k) :: []) n h g z := r_clV d_Mo_digest_119 w_Mo_sayPlate (r_in 1199 rfl rfl) a_Mo_sayPlate (r_inP 49 rfl rfl) n_Mo (by decide +kernel : r_mh m_Mo_sayPlate.1 0) hp hk (by decide)
theorem d_Mo_digest_122 : decode m_Mo_digest.2.1 122 = .ok (.iconst 0, 1) := by decide +kernel
theorem d_Mo_digest_123 : decode m_Mo_digest.2.1 123 = .ok (.istore_n 1, 1) := by decide +kernel
theorem d_Mo_digest_124 : decode m_Mo_digest.2.1 124 = .ok (.iload_n 1, 1) := by decide +kernel
theorem d_Mo_digest_125 : decode m_Mo_digest.2.1 125 = .ok (.aload_n 0, 1) := by decide +kernel
theorem d_Mo_digest_126 : decode m_Mo_digest.2.1 126 = .ok (.getfield 59, 3) := by decide +kernel
theorem d_Mo_digest_129 : decode m_Mo_digest.2.1 129 = .ok (.if_icmp .ge 20, 3) := by decide +kernel
theorem d_Mo_digest_132 : decode m_Mo_digest.2.1 132 = .ok (.aload_n 0, 1) := by decide +kernel
theorem d_Mo_digest_133 : decode m_Mo_digest.2.1 133 = .ok (.aload_n 0, 1) := by decide +kernel
theorem d_Mo_digest_134 : decode m_Mo_digest.2.1 134 = .ok (.getfield 7, 3) := by decide +kernel
theorem d_Mo_digest_137 : decode m_Mo_digest.2.1 137 = .ok (.iload_n 1, 1) := by decide +kernel
theorem d_Mo_digest_138 : decode m_Mo_digest.2.1 138 = .ok (.iaload, 1) := by decide +kernel
theorem d_Mo_digest_139 : decode m_Mo_digest.2.1 139 = .ok (.i2l, 1) := by decide +kernel
theorem d_Mo_digest_140 : decode m_Mo_digest.2.1 140 = .ok (.invokevirtual 327, 3) := by decide +kernel
set_option maxRecDepth 100000 in
theorem s_Mo_digest_140 {G : r_X} {n : Nat} {h : r_HI} {g : r_HR} {z : r_HL} {k : Nat} {v0 : Value} (hp : r_pk k = (0, 12)) (hk : k < n) : r_cl G m_Mo_digest m_Mo_say 140 (.ref (G.2.1 + k) :: [v0]) n h g z := r_clV d_Mo_digest_140 w_Mo_say (r_in 1194 rfl rfl) a_Mo_say (r_inP 48 rfl rfl) n_Mo (by decide +kernel : r_mh m_Mo_say.1 1) hp hk (by decide)
theorem d_Mo_digest_143 : decode m_Mo_digest.2.1 143 = .ok (.iinc 1 1, 3) := by decide +kernel
theorem d_Mo_digest_146 : decode m_Mo_digest.2.1 146 = .ok (.goto (-22), 3) := by decide +kernel
theorem d_Mo_digest_149 : decode m_Mo_digest.2.1 149 = .ok (.iconst 0, 1) := by decide +kernel
theorem d_Mo_digest_150 : decode m_Mo_digest.2.1 150 = .ok (.istore_n 1, 1) := by decide +kernel
theorem d_Mo_digest_151 : decode m_Mo_digest.2.1 151 = .ok (.iload_n 1, 1) := by decide +kernel
theorem d_Mo_digest_152 : decode m_Mo_digest.2.1 152 = .ok (.bipush 13, 2) := by decide +kernel
theorem d_Mo_digest_154 : decode m_Mo_digest.2.1 154 = .ok (.if_icmp .ge 19, 3) := by decide +kernel
theorem d_Mo_digest_157 : decode m_Mo_digest.2.1 157 = .ok (.aload_n 0, 1) := by decide +kernel
theorem d_Mo_digest_158 : decode m_Mo_digest.2.1 158 = .ok (.aload_n 0, 1) := by decide +kernel
theorem d_Mo_digest_159 : decode m_Mo_digest.2.1 159 = .ok (.iload_n 1, 1) := by decide +kernel
theorem d_Mo_digest_160 : decode m_Mo_digest.2.1 160 = .ok (.invokevirtual 318, 3) := by decide +kernel
set_option maxRecDepth 100000 in
theorem s_Mo_digest_160 {G : r_X} {n : Nat} {h : r_HI} {g : r_HR} {z : r_HL} {k : Nat} {v0 : Value} (hp : r_pk k = (0, 12)) (hk : k < n) : r_cl G m_Mo_digest m_Mo_countOf 160 (.ref (G.2.1 + k) :: [v0]) n h g z := r_clV d_Mo_digest_160 w_Mo_countOf (r_in 1181 rfl rfl) a_Mo_countOf (r_inP 46 rfl rfl) n_Mo (by decide +kernel : r_mh m_Mo_countOf.1 1) hp hk (by decide)
theorem d_Mo_digest_163 : decode m_Mo_digest.2.1 163 = .ok (.i2l, 1) := by decide +kernel
theorem d_Mo_digest_164 : decode m_Mo_digest.2.1 164 = .ok (.invokevirtual 327, 3) := by decide +kernel
set_option maxRecDepth 100000 in
theorem s_Mo_digest_164 {G : r_X} {n : Nat} {h : r_HI} {g : r_HR} {z : r_HL} {k : Nat} {v0 : Value} (hp : r_pk k = (0, 12)) (hk : k < n) : r_cl G m_Mo_digest m_Mo_say 164 (.ref (G.2.1 + k) :: [v0]) n h g z := r_clV d_Mo_digest_164 w_Mo_say (r_in 1194 rfl rfl) a_Mo_say (r_inP 48 rfl rfl) n_Mo (by decide +kernel : r_mh m_Mo_say.1 1) hp hk (by decide)
theorem d_Mo_digest_167 : decode m_Mo_digest.2.1 167 = .ok (.iinc 1 1, 3) := by decide +kernel
theorem d_Mo_digest_170 : decode m_Mo_digest.2.1 170 = .ok (.goto (-19), 3) := by decide +kernel
theorem d_Mo_digest_173 : decode m_Mo_digest.2.1 173 = .ok (.aload_n 0, 1) := by decide +kernel
theorem d_Mo_digest_174 : decode m_Mo_digest.2.1 174 = .ok (.getfield 323, 3) := by decide +kernel
theorem d_Mo_digest_177 : decode m_Mo_digest.2.1 177 = .ok (.lreturn, 1) := by decide +kernel
theorem d_Jm_floorMod_0 : decode m_Jm_floorMod.2.1 0 = .ok (.iload_n 0, 1) := by decide +kernel
theorem d_Jm_floorMod_1 : decode m_Jm_floorMod.2.1 1 = .ok (.iload_n 1, 1) := by decide +kernel
theorem d_Jm_floorMod_2 : decode m_Jm_floorMod.2.1 2 = .ok (.irem, 1) := by decide +kernel
theorem d_Jm_floorMod_3 : decode m_Jm_floorMod.2.1 3 = .ok (.istore_n 2, 1) := by decide +kernel
theorem d_Jm_floorMod_4 : decode m_Jm_floorMod.2.1 4 = .ok (.iload_n 0, 1) := by decide +kernel
theorem d_Jm_floorMod_5 : decode m_Jm_floorMod.2.1 5 = .ok (.iload_n 1, 1) := by decide +kernel
theorem d_Jm_floorMod_6 : decode m_Jm_floorMod.2.1 6 = .ok (.ixor, 1) := by decide +kernel
theorem d_Jm_floorMod_7 : decode m_Jm_floorMod.2.1 7 = .ok (.ifCond .ge 11, 3) := by decide +kernel
theorem d_Jm_floorMod_10 : decode m_Jm_floorMod.2.1 10 = .ok (.iload_n 2, 1) := by decide +kernel
theorem d_Jm_floorMod_11 : decode m_Jm_floorMod.2.1 11 = .ok (.ifCond .eq 7, 3) := by decide +kernel
theorem d_Jm_floorMod_14 : decode m_Jm_floorMod.2.1 14 = .ok (.iload_n 2, 1) := by decide +kernel
theorem d_Jm_floorMod_15 : decode m_Jm_floorMod.2.1 15 = .ok (.iload_n 1, 1) := by decide +kernel
theorem d_Jm_floorMod_16 : decode m_Jm_floorMod.2.1 16 = .ok (.iadd, 1) := by decide +kernel
theorem d_Jm_floorMod_17 : decode m_Jm_floorMod.2.1 17 = .ok (.ireturn, 1) := by decide +kernel
theorem d_Jm_floorMod_18 : decode m_Jm_floorMod.2.1 18 = .ok (.iload_n 2, 1) := by decide +kernel
theorem d_Jm_floorMod_19 : decode m_Jm_floorMod.2.1 19 = .ok (.ireturn, 1) := by decide +kernel
theorem d_Jm_abs_0 : decode m_Jm_abs.2.1 0 = .ok (.iload_n 0, 1) := by decide +kernel
theorem d_Jm_abs_1 : decode m_Jm_abs.2.1 1 = .ok (.ifCond .ge 8, 3) := by decide +kernel
theorem d_Jm_abs_4 : decode m_Jm_abs.2.1 4 = .ok (.iload_n 0, 1) := by decide +kernel
theorem d_Jm_abs_5 : decode m_Jm_abs.2.1 5 = .ok (.ineg, 1) := by decide +kernel
theorem d_Jm_abs_6 : decode m_Jm_abs.2.1 6 = .ok (.goto 4, 3) := by decide +kernel
theorem d_Jm_abs_9 : decode m_Jm_abs.2.1 9 = .ok (.iload_n 0, 1) := by decide +kernel
theorem d_Jm_abs_10 : decode m_Jm_abs.2.1 10 = .ok (.ireturn, 1) := by decide +kernel
theorem d_Jm_max_0 : decode m_Jm_max.2.1 0 = .ok (.iload_n 0, 1) := by decide +kernel
theorem d_Jm_max_1 : decode m_Jm_max.2.1 1 = .ok (.iload_n 1, 1) := by decide +kernel
theorem d_Jm_max_2 : decode m_Jm_max.2.1 2 = .ok (.if_icmp .lt 7, 3) := by decide +kernel
theorem d_Jm_max_5 : decode m_Jm_max.2.1 5 = .ok (.iload_n 0, 1) := by decide +kernel
theorem d_Jm_max_6 : decode m_Jm_max.2.1 6 = .ok (.goto 4, 3) := by decide +kernel
theorem d_Jm_max_9 : decode m_Jm_max.2.1 9 = .ok (.iload_n 1, 1) := by decide +kernel
theorem d_Jm_max_10 : decode m_Jm_max.2.1 10 = .ok (.ireturn, 1) := by decide +kernel
theorem d_Jm_min_0 : decode m_Jm_min.2.1 0 = .ok (.iload_n 0, 1) := by decide +kernel
theorem d_Jm_min_1 : decode m_Jm_min.2.1 1 = .ok (.iload_n 1, 1) := by decide +kernel
theorem d_Jm_min_2 : decode m_Jm_min.2.1 2 = .ok (.if_icmp .gt 7, 3) := by decide +kernel
theorem d_Jm_min_5 : decode m_Jm_min.2.1 5 = .ok (.iload_n 0, 1) := by decide +kernel
theorem d_Jm_min_6 : decode m_Jm_min.2.1 6 = .ok (.goto 4, 3) := by decide +kernel
theorem d_Jm_min_9 : decode m_Jm_min.2.1 9 = .ok (.iload_n 1, 1) := by decide +kernel
theorem d_Jm_min_10 : decode m_Jm_min.2.1 10 = .ok (.ireturn, 1) := by decide +kernel
