theorem d_Ra_image_0 : decode m_Ra_image.2.1 0 = .ok (.aload_n 0, 1) := by decide +kernel
theorem d_Ra_image_1 : decode m_Ra_image.2.1 1 = .ok (.invokevirtual 183, 3) := by decide +kernel
set_option maxRecDepth 100000 in
theorem s_Ra_image_1 {G : r_X} {n : Nat} {h : r_HI} {g : r_HR} {z : r_HL} {k : Nat} (hp : r_pk k = (0, 11)) (hk : k < n) : r_cl G m_Ra_image m_Ra_hasPlate 1 (.ref (G.2.1 + k) :: []) n h g z := r_clV d_Ra_image_1 w_Ra_hasPlate (r_in 411 rfl rfl) a_Ra_hasPlate (r_inP 1 rfl rfl) n_Ra (by decide +kernel : r_mh m_Ra_hasPlate.1 0) hp hk (by decide)
theorem d_Ra_image_4 : decode m_Ra_image.2.1 4 = .ok (.ifCond .ne 6, 3) := by decide +kernel
theorem d_Ra_image_7 : decode m_Ra_image.2.1 7 = .ok (.bipush (-103), 2) := by decide +kernel
theorem d_Ra_image_9 : decode m_Ra_image.2.1 9 = .ok (.ireturn, 1) := by decide +kernel
theorem d_Ra_image_10 : decode m_Ra_image.2.1 10 = .ok (.aload_n 0, 1) := by decide +kernel
theorem d_Ra_image_11 : decode m_Ra_image.2.1 11 = .ok (.getfield 69, 3) := by decide +kernel
theorem d_Ra_image_14 : decode m_Ra_image.2.1 14 = .ok (.aload_n 0, 1) := by decide +kernel
theorem d_Ra_image_15 : decode m_Ra_image.2.1 15 = .ok (.getfield 19, 3) := by decide +kernel
theorem d_Ra_image_18 : decode m_Ra_image.2.1 18 = .ok (.invokevirtual 274, 3) := by decide +kernel
set_option maxRecDepth 100000 in
theorem s_Ra_image_18 {G : r_X} {n : Nat} {h : r_HI} {g : r_HR} {z : r_HL} {k : Nat} {v0 : Value} (hp : r_pk k = (0, 1)) (hk : k < n) : r_cl G m_Ra_image m_Di_copyFrom 18 (.ref (G.2.1 + k) :: [v0]) n h g z := r_clV d_Ra_image_18 w_Di_copyFrom (r_in 689 rfl rfl) a_Di_copyFrom (r_in 691 rfl rfl) n_Di (by decide +kernel : r_mh m_Di_copyFrom.1 1) hp hk (by decide)
theorem d_Ra_image_21 : decode m_Ra_image.2.1 21 = .ok (.aload_n 0, 1) := by decide +kernel
theorem d_Ra_image_22 : decode m_Ra_image.2.1 22 = .ok (.getfield 72, 3) := by decide +kernel
theorem d_Ra_image_25 : decode m_Ra_image.2.1 25 = .ok (.aload_n 0, 1) := by decide +kernel
theorem d_Ra_image_26 : decode m_Ra_image.2.1 26 = .ok (.getfield 28, 3) := by decide +kernel
theorem d_Ra_image_29 : decode m_Ra_image.2.1 29 = .ok (.invokevirtual 222, 3) := by decide +kernel
set_option maxRecDepth 100000 in
theorem s_Ra_image_29 {G : r_X} {n : Nat} {h : r_HI} {g : r_HR} {z : r_HL} {k : Nat} {v0 : Value} (hp : r_pk k = (0, 0)) (hk : k < n) : r_cl G m_Ra_image m_Dk_copyFrom 29 (.ref (G.2.1 + k) :: [v0]) n h g z := r_clV d_Ra_image_29 w_Dk_copyFrom (r_in 539 rfl rfl) a_Dk_copyFrom (r_in 541 rfl rfl) n_Dk (by decide +kernel : r_mh m_Dk_copyFrom.1 1) hp hk (by decide)
theorem d_Ra_image_32 : decode m_Ra_image.2.1 32 = .ok (.aload_n 0, 1) := by decide +kernel
theorem d_Ra_image_33 : decode m_Ra_image.2.1 33 = .ok (.getfield 75, 3) := by decide +kernel
theorem d_Ra_image_36 : decode m_Ra_image.2.1 36 = .ok (.aload_n 0, 1) := by decide +kernel
theorem d_Ra_image_37 : decode m_Ra_image.2.1 37 = .ok (.getfield 35, 3) := by decide +kernel
theorem d_Ra_image_40 : decode m_Ra_image.2.1 40 = .ok (.invokevirtual 276, 3) := by decide +kernel
set_option maxRecDepth 100000 in
theorem s_Ra_image_40 {G : r_X} {n : Nat} {h : r_HI} {g : r_HR} {z : r_HL} {k : Nat} {v0 : Value} (hp : r_pk k = (0, 10)) (hk : k < n) : r_cl G m_Ra_image m_Th_copyFrom 40 (.ref (G.2.1 + k) :: [v0]) n h g z := r_clV d_Ra_image_40 w_Th_copyFrom (r_in 694 rfl rfl) a_Th_copyFrom (r_in 696 rfl rfl) n_Th (by decide +kernel : r_mh m_Th_copyFrom.1 1) hp hk (by decide)
theorem d_Ra_image_43 : decode m_Ra_image.2.1 43 = .ok (.aload_n 0, 1) := by decide +kernel
theorem d_Ra_image_44 : decode m_Ra_image.2.1 44 = .ok (.getfield 78, 3) := by decide +kernel
theorem d_Ra_image_47 : decode m_Ra_image.2.1 47 = .ok (.aload_n 0, 1) := by decide +kernel
theorem d_Ra_image_48 : decode m_Ra_image.2.1 48 = .ok (.getfield 42, 3) := by decide +kernel
theorem d_Ra_image_51 : decode m_Ra_image.2.1 51 = .ok (.invokevirtual 279, 3) := by decide +kernel
set_option maxRecDepth 100000 in
theorem s_Ra_image_51 {G : r_X} {n : Nat} {h : r_HI} {g : r_HR} {z : r_HL} {k : Nat} {v0 : Value} (hp : r_pk k = (0, 7)) (hk : k < n) : r_cl G m_Ra_image m_Si_copyFrom 51 (.ref (G.2.1 + k) :: [v0]) n h g z := r_clV d_Ra_image_51 w_Si_copyFrom (r_in 698 rfl rfl) a_Si_copyFrom (r_in 700 rfl rfl) n_Si (by decide +kernel : r_mh m_Si_copyFrom.1 1) hp hk (by decide)
theorem d_Ra_image_54 : decode m_Ra_image.2.1 54 = .ok (.aload_n 0, 1) := by decide +kernel
theorem d_Ra_image_55 : decode m_Ra_image.2.1 55 = .ok (.aload_n 0, 1) := by decide +kernel
theorem d_Ra_image_56 : decode m_Ra_image.2.1 56 = .ok (.getfield 65, 3) := by decide +kernel
theorem d_Ra_image_59 : decode m_Ra_image.2.1 59 = .ok (.putfield 81, 3) := by decide +kernel
theorem d_Ra_image_62 : decode m_Ra_image.2.1 62 = .ok (.aload_n 0, 1) := by decide +kernel
theorem d_Ra_image_63 : decode m_Ra_image.2.1 63 = .ok (.iconst 1, 1) := by decide +kernel
theorem d_Ra_image_64 : decode m_Ra_image.2.1 64 = .ok (.putfield 84, 3) := by decide +kernel
theorem d_Ra_image_67 : decode m_Ra_image.2.1 67 = .ok (.aload_n 0, 1) := by decide +kernel
theorem d_Ra_image_68 : decode m_Ra_image.2.1 68 = .ok (.getfield 28, 3) := by decide +kernel
theorem d_Ra_image_71 : decode m_Ra_image.2.1 71 = .ok (.getfield 205, 3) := by decide +kernel
theorem d_Ra_image_74 : decode m_Ra_image.2.1 74 = .ok (.ireturn, 1) := by decide +kernel
theorem d_Ra_restore_0 : decode m_Ra_restore.2.1 0 = .ok (.aload_n 0, 1) := by decide +kernel
theorem d_Ra_restore_1 : decode m_Ra_restore.2.1 1 = .ok (.getfield 84, 3) := by decide +kernel
theorem d_Ra_restore_4 : decode m_Ra_restore.2.1 4 = .ok (.ifCond .ne 6, 3) := by decide +kernel
theorem d_Ra_restore_7 : decode m_Ra_restore.2.1 7 = .ok (.bipush (-103), 2) := by decide +kernel
theorem d_Ra_restore_9 : decode m_Ra_restore.2.1 9 = .ok (.ireturn, 1) := by decide +kernel
theorem d_Ra_restore_10 : decode m_Ra_restore.2.1 10 = .ok (.aload_n 0, 1) := by decide +kernel
theorem d_Ra_restore_11 : decode m_Ra_restore.2.1 11 = .ok (.getfield 19, 3) := by decide +kernel
theorem d_Ra_restore_14 : decode m_Ra_restore.2.1 14 = .ok (.aload_n 0, 1) := by decide +kernel
theorem d_Ra_restore_15 : decode m_Ra_restore.2.1 15 = .ok (.getfield 69, 3) := by decide +kernel
theorem d_Ra_restore_18 : decode m_Ra_restore.2.1 18 = .ok (.invokevirtual 274, 3) := by decide +kernel
set_option maxRecDepth 100000 in
theorem s_Ra_restore_18 {G : r_X} {n : Nat} {h : r_HI} {g : r_HR} {z : r_HL} {k : Nat} {v0 : Value} (hp : r_pk k = (0, 1)) (hk : k < n) : r_cl G m_Ra_restore m_Di_copyFrom 18 (.ref (G.2.1 + k) :: [v0]) n h g z := r_clV d_Ra_restore_18 w_Di_copyFrom (r_in 689 rfl rfl) a_Di_copyFrom (r_in 691 rfl rfl) n_Di (by decide +kernel : r_mh m_Di_copyFrom.1 1) hp hk (by decide)
theorem d_Ra_restore_21 : decode m_Ra_restore.2.1 21 = .ok (.aload_n 0, 1) := by decide +kernel
theorem d_Ra_restore_22 : decode m_Ra_restore.2.1 22 = .ok (.getfield 28, 3) := by decide +kernel
theorem d_Ra_restore_25 : decode m_Ra_restore.2.1 25 = .ok (.aload_n 0, 1) := by decide +kernel
theorem d_Ra_restore_26 : decode m_Ra_restore.2.1 26 = .ok (.getfield 72, 3) := by decide +kernel
theorem d_Ra_restore_29 : decode m_Ra_restore.2.1 29 = .ok (.invokevirtual 222, 3) := by decide +kernel
set_option maxRecDepth 100000 in
theorem s_Ra_restore_29 {G : r_X} {n : Nat} {h : r_HI} {g : r_HR} {z : r_HL} {k : Nat} {v0 : Value} (hp : r_pk k = (0, 0)) (hk : k < n) : r_cl G m_Ra_restore m_Dk_copyFrom 29 (.ref (G.2.1 + k) :: [v0]) n h g z := r_clV d_Ra_restore_29 w_Dk_copyFrom (r_in 539 rfl rfl) a_Dk_copyFrom (r_in 541 rfl rfl) n_Dk (by decide +kernel : r_mh m_Dk_copyFrom.1 1) hp hk (by decide)
theorem d_Ra_restore_32 : decode m_Ra_restore.2.1 32 = .ok (.aload_n 0, 1) := by decide +kernel
theorem d_Ra_restore_33 : decode m_Ra_restore.2.1 33 = .ok (.getfield 35, 3) := by decide +kernel
theorem d_Ra_restore_36 : decode m_Ra_restore.2.1 36 = .ok (.aload_n 0, 1) := by decide +kernel
theorem d_Ra_restore_37 : decode m_Ra_restore.2.1 37 = .ok (.getfield 75, 3) := by decide +kernel
theorem d_Ra_restore_40 : decode m_Ra_restore.2.1 40 = .ok (.invokevirtual 276, 3) := by decide +kernel
set_option maxRecDepth 100000 in
theorem s_Ra_restore_40 {G : r_X} {n : Nat} {h : r_HI} {g : r_HR} {z : r_HL} {k : Nat} {v0 : Value} (hp : r_pk k = (0, 10)) (hk : k < n) : r_cl G m_Ra_restore m_Th_copyFrom 40 (.ref (G.2.1 + k) :: [v0]) n h g z := r_clV d_Ra_restore_40 w_Th_copyFrom (r_in 694 rfl rfl) a_Th_copyFrom (r_in 696 rfl rfl) n_Th (by decide +kernel : r_mh m_Th_copyFrom.1 1) hp hk (by decide)
theorem d_Ra_restore_43 : decode m_Ra_restore.2.1 43 = .ok (.aload_n 0, 1) := by decide +kernel
theorem d_Ra_restore_44 : decode m_Ra_restore.2.1 44 = .ok (.getfield 42, 3) := by decide +kernel
theorem d_Ra_restore_47 : decode m_Ra_restore.2.1 47 = .ok (.aload_n 0, 1) := by decide +kernel
theorem d_Ra_restore_48 : decode m_Ra_restore.2.1 48 = .ok (.getfield 78, 3) := by decide +kernel
theorem d_Ra_restore_51 : decode m_Ra_restore.2.1 51 = .ok (.invokevirtual 279, 3) := by decide +kernel
set_option maxRecDepth 100000 in
theorem s_Ra_restore_51 {G : r_X} {n : Nat} {h : r_HI} {g : r_HR} {z : r_HL} {k : Nat} {v0 : Value} (hp : r_pk k = (0, 7)) (hk : k < n) : r_cl G m_Ra_restore m_Si_copyFrom 51 (.ref (G.2.1 + k) :: [v0]) n h g z := r_clV d_Ra_restore_51 w_Si_copyFrom (r_in 698 rfl rfl) a_Si_copyFrom (r_in 700 rfl rfl) n_Si (by decide +kernel : r_mh m_Si_copyFrom.1 1) hp hk (by decide)
theorem d_Ra_restore_54 : decode m_Ra_restore.2.1 54 = .ok (.aload_n 0, 1) := by decide +kernel
theorem d_Ra_restore_55 : decode m_Ra_restore.2.1 55 = .ok (.aload_n 0, 1) := by decide +kernel
theorem d_Ra_restore_56 : decode m_Ra_restore.2.1 56 = .ok (.getfield 81, 3) := by decide +kernel
theorem d_Ra_restore_59 : decode m_Ra_restore.2.1 59 = .ok (.putfield 65, 3) := by decide +kernel
theorem d_Ra_restore_62 : decode m_Ra_restore.2.1 62 = .ok (.aload_n 0, 1) := by decide +kernel
theorem d_Ra_restore_63 : decode m_Ra_restore.2.1 63 = .ok (.getfield 28, 3) := by decide +kernel
theorem d_Ra_restore_66 : decode m_Ra_restore.2.1 66 = .ok (.getfield 205, 3) := by decide +kernel
theorem d_Ra_restore_69 : decode m_Ra_restore.2.1 69 = .ok (.ireturn, 1) := by decide +kernel
theorem d_Ra_count_0 : decode m_Ra_count.2.1 0 = .ok (.iload_n 1, 1) := by decide +kernel
theorem d_Ra_count_1 : decode m_Ra_count.2.1 1 = .ok (.tableswitch 180 0 12 #[67, 75, 83, 91, 99, 122, 130, 138, 146, 154, 162, 170, 175], 67) := by decide +kernel
theorem d_Ra_count_68 : decode m_Ra_count.2.1 68 = .ok (.aload_n 0, 1) := by decide +kernel
theorem d_Ra_count_69 : decode m_Ra_count.2.1 69 = .ok (.getfield 19, 3) := by decide +kernel
theorem d_Ra_count_72 : decode m_Ra_count.2.1 72 = .ok (.getfield 140, 3) := by decide +kernel
theorem d_Ra_count_75 : decode m_Ra_count.2.1 75 = .ok (.ireturn, 1) := by decide +kernel
theorem d_Ra_count_76 : decode m_Ra_count.2.1 76 = .ok (.aload_n 0, 1) := by decide +kernel
theorem d_Ra_count_77 : decode m_Ra_count.2.1 77 = .ok (.getfield 19, 3) := by decide +kernel
theorem d_Ra_count_80 : decode m_Ra_count.2.1 80 = .ok (.invokevirtual 282, 3) := by decide +kernel
set_option maxRecDepth 100000 in
theorem s_Ra_count_80 {G : r_X} {n : Nat} {h : r_HI} {g : r_HR} {z : r_HL} {k : Nat} (hp : r_pk k = (0, 1)) (hk : k < n) : r_cl G m_Ra_count m_Di_allPlaces 80 (.ref (G.2.1 + k) :: []) n h g z := r_clV d_Ra_count_80 w_Di_allPlaces (r_in 711 rfl rfl) a_Di_allPlaces (r_in 713 rfl rfl) n_Di (by decide +kernel : r_mh m_Di_allPlaces.1 0) hp hk (by decide)
theorem d_Ra_count_83 : decode m_Ra_count.2.1 83 = .ok (.ireturn, 1) := by decide +kernel
theorem d_Ra_count_84 : decode m_Ra_count.2.1 84 = .ok (.aload_n 0, 1) := by decide +kernel
theorem d_Ra_count_85 : decode m_Ra_count.2.1 85 = .ok (.getfield 28, 3) := by decide +kernel
theorem d_Ra_count_88 : decode m_Ra_count.2.1 88 = .ok (.getfield 205, 3) := by decide +kernel
theorem d_Ra_count_91 : decode m_Ra_count.2.1 91 = .ok (.ireturn, 1) := by decide +kernel
theorem d_Ra_count_92 : decode m_Ra_count.2.1 92 = .ok (.aload_n 0, 1) := by decide +kernel
theorem d_Ra_count_93 : decode m_Ra_count.2.1 93 = .ok (.getfield 28, 3) := by decide +kernel
theorem d_Ra_count_96 : decode m_Ra_count.2.1 96 = .ok (.getfield 162, 3) := by decide +kernel
theorem d_Ra_count_99 : decode m_Ra_count.2.1 99 = .ok (.ireturn, 1) := by decide +kernel
theorem d_Ra_count_100 : decode m_Ra_count.2.1 100 = .ok (.aload_n 0, 1) := by decide +kernel
theorem d_Ra_count_101 : decode m_Ra_count.2.1 101 = .ok (.invokevirtual 183, 3) := by decide +kernel
set_option maxRecDepth 100000 in
theorem s_Ra_count_101 {G : r_X} {n : Nat} {h : r_HI} {g : r_HR} {z : r_HL} {k : Nat} (hp : r_pk k = (0, 11)) (hk : k < n) : r_cl G m_Ra_count m_Ra_hasPlate 101 (.ref (G.2.1 + k) :: []) n h g z := r_clV d_Ra_count_101 w_Ra_hasPlate (r_in 411 rfl rfl) a_Ra_hasPlate (r_inP 1 rfl rfl) n_Ra (by decide +kernel : r_mh m_Ra_hasPlate.1 0) hp hk (by decide)
theorem d_Ra_count_104 : decode m_Ra_count.2.1 104 = .ok (.ifCond .eq 17, 3) := by decide +kernel
theorem d_Ra_count_107 : decode m_Ra_count.2.1 107 = .ok (.aload_n 0, 1) := by decide +kernel
theorem d_Ra_count_108 : decode m_Ra_count.2.1 108 = .ok (.getfield 28, 3) := by decide +kernel
theorem d_Ra_count_111 : decode m_Ra_count.2.1 111 = .ok (.getfield 285, 3) := by decide +kernel
theorem d_Ra_count_114 : decode m_Ra_count.2.1 114 = .ok (.ifCond .eq 7, 3) := by decide +kernel
theorem d_Ra_count_117 : decode m_Ra_count.2.1 117 = .ok (.iconst 1, 1) := by decide +kernel
theorem d_Ra_count_118 : decode m_Ra_count.2.1 118 = .ok (.goto 4, 3) := by decide +kernel
theorem d_Ra_count_121 : decode m_Ra_count.2.1 121 = .ok (.iconst 0, 1) := by decide +kernel
theorem d_Ra_count_122 : decode m_Ra_count.2.1 122 = .ok (.ireturn, 1) := by decide +kernel
theorem d_Ra_count_123 : decode m_Ra_count.2.1 123 = .ok (.aload_n 0, 1) := by decide +kernel
theorem d_Ra_count_124 : decode m_Ra_count.2.1 124 = .ok (.getfield 28, 3) := by decide +kernel
theorem d_Ra_count_127 : decode m_Ra_count.2.1 127 = .ok (.getfield 197, 3) := by decide +kernel
theorem d_Ra_count_130 : decode m_Ra_count.2.1 130 = .ok (.ireturn, 1) := by decide +kernel
theorem d_Ra_count_131 : decode m_Ra_count.2.1 131 = .ok (.aload_n 0, 1) := by decide +kernel
theorem d_Ra_count_132 : decode m_Ra_count.2.1 132 = .ok (.getfield 19, 3) := by decide +kernel
theorem d_Ra_count_135 : decode m_Ra_count.2.1 135 = .ok (.getfield 219, 3) := by decide +kernel
theorem d_Ra_count_138 : decode m_Ra_count.2.1 138 = .ok (.ireturn, 1) := by decide +kernel
theorem d_Ra_count_139 : decode m_Ra_count.2.1 139 = .ok (.aload_n 0, 1) := by decide +kernel
theorem d_Ra_count_140 : decode m_Ra_count.2.1 140 = .ok (.getfield 19, 3) := by decide +kernel
theorem d_Ra_count_143 : decode m_Ra_count.2.1 143 = .ok (.getfield 216, 3) := by decide +kernel
theorem d_Ra_count_146 : decode m_Ra_count.2.1 146 = .ok (.ireturn, 1) := by decide +kernel
theorem d_Ra_count_147 : decode m_Ra_count.2.1 147 = .ok (.aload_n 0, 1) := by decide +kernel
theorem d_Ra_count_148 : decode m_Ra_count.2.1 148 = .ok (.getfield 35, 3) := by decide +kernel
theorem d_Ra_count_151 : decode m_Ra_count.2.1 151 = .ok (.invokevirtual 288, 3) := by decide +kernel
set_option maxRecDepth 100000 in
theorem s_Ra_count_151 {G : r_X} {n : Nat} {h : r_HI} {g : r_HR} {z : r_HL} {k : Nat} (hp : r_pk k = (0, 10)) (hk : k < n) : r_cl G m_Ra_count m_Th_howMany 151 (.ref (G.2.1 + k) :: []) n h g z := r_clV d_Ra_count_151 w_Th_howMany (r_in 715 rfl rfl) a_Th_howMany (r_in 587 rfl rfl) n_Th (by decide +kernel : r_mh m_Th_howMany.1 0) hp hk (by decide)
theorem d_Ra_count_154 : decode m_Ra_count.2.1 154 = .ok (.ireturn, 1) := by decide +kernel
theorem d_Ra_count_155 : decode m_Ra_count.2.1 155 = .ok (.aload_n 0, 1) := by decide +kernel
theorem d_Ra_count_156 : decode m_Ra_count.2.1 156 = .ok (.getfield 42, 3) := by decide +kernel
theorem d_Ra_count_159 : decode m_Ra_count.2.1 159 = .ok (.getfield 263, 3) := by decide +kernel
theorem d_Ra_count_162 : decode m_Ra_count.2.1 162 = .ok (.ireturn, 1) := by decide +kernel
theorem d_Ra_count_163 : decode m_Ra_count.2.1 163 = .ok (.aload_n 0, 1) := by decide +kernel
theorem d_Ra_count_164 : decode m_Ra_count.2.1 164 = .ok (.getfield 10, 3) := by decide +kernel
theorem d_Ra_count_167 : decode m_Ra_count.2.1 167 = .ok (.getfield 105, 3) := by decide +kernel
theorem d_Ra_count_170 : decode m_Ra_count.2.1 170 = .ok (.ireturn, 1) := by decide +kernel
theorem d_Ra_count_171 : decode m_Ra_count.2.1 171 = .ok (.aload_n 0, 1) := by decide +kernel
theorem d_Ra_count_172 : decode m_Ra_count.2.1 172 = .ok (.getfield 98, 3) := by decide +kernel
theorem d_Ra_count_175 : decode m_Ra_count.2.1 175 = .ok (.ireturn, 1) := by decide +kernel
theorem d_Ra_count_176 : decode m_Ra_count.2.1 176 = .ok (.aload_n 0, 1) := by decide +kernel
theorem d_Ra_count_177 : decode m_Ra_count.2.1 177 = .ok (.getfield 102, 3) := by decide +kernel
theorem d_Ra_count_180 : decode m_Ra_count.2.1 180 = .ok (.ireturn, 1) := by decide +kernel
theorem d_Ra_count_181 : decode m_Ra_count.2.1 181 = .ok (.bipush (-102), 2) := by decide +kernel
theorem d_Ra_count_183 : decode m_Ra_count.2.1 183 = .ok (.ireturn, 1) := by decide +kernel
theorem d_Ra_digest_0 : decode m_Ra_digest.2.1 0 = .ok (.ldc2_w 291, 3) := by decide +kernel
theorem d_Ra_digest_3 : decode m_Ra_digest.2.1 3 = .ok (.lstore_n 1, 1) := by decide +kernel
theorem d_Ra_digest_4 : decode m_Ra_digest.2.1 4 = .ok (.aload_n 0, 1) := by decide +kernel
theorem d_Ra_digest_5 : decode m_Ra_digest.2.1 5 = .ok (.lload_n 1, 1) := by decide +kernel
theorem d_Ra_digest_6 : decode m_Ra_digest.2.1 6 = .ok (.invokevirtual 293, 3) := by decide +kernel
set_option maxRecDepth 100000 in
theorem s_Ra_digest_6 {G : r_X} {n : Nat} {h : r_HI} {g : r_HR} {z : r_HL} {k : Nat} {v0 : Value} (hp : r_pk k = (0, 11)) (hk : k < n) : r_cl G m_Ra_digest m_Ra_mixRings 6 (.ref (G.2.1 + k) :: [v0]) n h g z := r_clV d_Ra_digest_6 w_Ra_mixRings (r_in 721 rfl rfl) a_Ra_mixRings (r_inP 5 rfl rfl) n_Ra (by decide +kernel : r_mh m_Ra_mixRings.1 1) hp hk (by decide)
theorem d_Ra_digest_9 : decode m_Ra_digest.2.1 9 = .ok (.lstore_n 1, 1) := by decide +kernel
theorem d_Ra_digest_10 : decode m_Ra_digest.2.1 10 = .ok (.aload_n 0, 1) := by decide +kernel
theorem d_Ra_digest_11 : decode m_Ra_digest.2.1 11 = .ok (.lload_n 1, 1) := by decide +kernel
theorem d_Ra_digest_12 : decode m_Ra_digest.2.1 12 = .ok (.invokevirtual 297, 3) := by decide +kernel
set_option maxRecDepth 100000 in
theorem s_Ra_digest_12 {G : r_X} {n : Nat} {h : r_HI} {g : r_HR} {z : r_HL} {k : Nat} {v0 : Value} (hp : r_pk k = (0, 11)) (hk : k < n) : r_cl G m_Ra_digest m_Ra_mixAsked 12 (.ref (G.2.1 + k) :: [v0]) n h g z := r_clV d_Ra_digest_12 w_Ra_mixAsked (r_in 730 rfl rfl) a_Ra_mixAsked (r_inP 6 rfl rfl) n_Ra (by decide +kernel : r_mh m_Ra_mixAsked.1 1) hp hk (by decide)
theorem d_Ra_digest_15 : decode m_Ra_digest.2.1 15 = .ok (.lstore_n 1, 1) := by decide +kernel
theorem d_Ra_digest_16 : decode m_Ra_digest.2.1 16 = .ok (.aload_n 0, 1) := by decide +kernel
theorem d_Ra_digest_17 : decode m_Ra_digest.2.1 17 = .ok (.invokevirtual 183, 3) := by decide +kernel
set_option maxRecDepth 100000 in
theorem s_Ra_digest_17 {G : r_X} {n : Nat} {h : r_HI} {g : r_HR} {z : r_HL} {k : Nat} (hp : r_pk k = (0, 11)) (hk : k < n) : r_cl G m_Ra_digest m_Ra_hasPlate 17 (.ref (G.2.1 + k) :: []) n h g z := r_clV d_Ra_digest_17 w_Ra_hasPlate (r_in 411 rfl rfl) a_Ra_hasPlate (r_inP 1 rfl rfl) n_Ra (by decide +kernel : r_mh m_Ra_hasPlate.1 0) hp hk (by decide)
theorem d_Ra_digest_20 : decode m_Ra_digest.2.1 20 = .ok (.ifCond .eq 15, 3) := by decide +kernel
theorem d_Ra_digest_23 : decode m_Ra_digest.2.1 23 = .ok (.aload_n 0, 1) := by decide +kernel
theorem d_Ra_digest_24 : decode m_Ra_digest.2.1 24 = .ok (.lload_n 1, 1) := by decide +kernel
theorem d_Ra_digest_25 : decode m_Ra_digest.2.1 25 = .ok (.invokevirtual 300, 3) := by decide +kernel
set_option maxRecDepth 100000 in
theorem s_Ra_digest_25 {G : r_X} {n : Nat} {h : r_HI} {g : r_HR} {z : r_HL} {k : Nat} {v0 : Value} (hp : r_pk k = (0, 11)) (hk : k < n) : r_cl G m_Ra_digest m_Ra_mixChoices 25 (.ref (G.2.1 + k) :: [v0]) n h g z := r_clV d_Ra_digest_25 w_Ra_mixChoices (r_in 735 rfl rfl) a_Ra_mixChoices (r_inP 7 rfl rfl) n_Ra (by decide +kernel : r_mh m_Ra_mixChoices.1 1) hp hk (by decide)
theorem d_Ra_digest_28 : decode m_Ra_digest.2.1 28 = .ok (.lstore_n 1, 1) := by decide +kernel
theorem d_Ra_digest_29 : decode m_Ra_digest.2.1 29 = .ok (.aload_n 0, 1) := by decide +kernel
theorem d_Ra_digest_30 : decode m_Ra_digest.2.1 30 = .ok (.lload_n 1, 1) := by decide +kernel
theorem d_Ra_digest_31 : decode m_Ra_digest.2.1 31 = .ok (.invokevirtual 303, 3) := by decide +kernel
set_option maxRecDepth 100000 in
theorem s_Ra_digest_31 {G : r_X} {n : Nat} {h : r_HI} {g : r_HR} {z : r_HL} {k : Nat} {v0 : Value} (hp : r_pk k = (0, 11)) (hk : k < n) : r_cl G m_Ra_digest m_Ra_mixBests 31 (.ref (G.2.1 + k) :: [v0]) n h g z := r_clV d_Ra_digest_31 w_Ra_mixBests (r_in 739 rfl rfl) a_Ra_mixBests (r_inP 8 rfl rfl) n_Ra (by decide +kernel : r_mh m_Ra_mixBests.1 1) hp hk (by decide)
theorem d_Ra_digest_34 : decode m_Ra_digest.2.1 34 = .ok (.lstore_n 1, 1) := by decide +kernel
theorem d_Ra_digest_35 : decode m_Ra_digest.2.1 35 = .ok (.iconst 0, 1) := by decide +kernel
theorem d_Ra_digest_36 : decode m_Ra_digest.2.1 36 = .ok (.istore_n 3, 1) := by decide +kernel
theorem d_Ra_digest_37 : decode m_Ra_digest.2.1 37 = .ok (.iload_n 3, 1) := by decide +kernel
theorem d_Ra_digest_38 : decode m_Ra_digest.2.1 38 = .ok (.aload_n 0, 1) := by decide +kernel
theorem d_Ra_digest_39 : decode m_Ra_digest.2.1 39 = .ok (.getfield 10, 3) := by decide +kernel
theorem d_Ra_digest_42 : decode m_Ra_digest.2.1 42 = .ok (.getfield 105, 3) := by decide +kernel
theorem d_Ra_digest_45 : decode m_Ra_digest.2.1 45 = .ok (.if_icmp .ge 32, 3) := by decide +kernel
theorem d_Ra_digest_48 : decode m_Ra_digest.2.1 48 = .ok (.iload_n 3, 1) := by decide +kernel
theorem d_Ra_digest_49 : decode m_Ra_digest.2.1 49 = .ok (.bipush 28, 2) := by decide +kernel
theorem d_Ra_digest_51 : decode m_Ra_digest.2.1 51 = .ok (.if_icmp .ge 26, 3) := by decide +kernel
theorem d_Ra_digest_54 : decode m_Ra_digest.2.1 54 = .ok (.lload_n 1, 1) := by decide +kernel
theorem d_Ra_digest_55 : decode m_Ra_digest.2.1 55 = .ok (.aload_n 0, 1) := by decide +kernel
theorem d_Ra_digest_56 : decode m_Ra_digest.2.1 56 = .ok (.getfield 10, 3) := by decide +kernel
theorem d_Ra_digest_59 : decode m_Ra_digest.2.1 59 = .ok (.getfield 306, 3) := by decide +kernel
theorem d_Ra_digest_62 : decode m_Ra_digest.2.1 62 = .ok (.iload_n 3, 1) := by decide +kernel
theorem d_Ra_digest_63 : decode m_Ra_digest.2.1 63 = .ok (.invokestatic 149, 3) := by decide +kernel
set_option maxRecDepth 100000 in
theorem s_Ra_digest_63 {G : r_X} {n : Nat} {h : r_HI} {g : r_HR} {z : r_HL} {v0 v1 : Value} : r_cl G m_Ra_digest m_Ra_at 63 [v0, v1] n h g z := r_clS d_Ra_digest_63 w_Ra_at (r_in 374 rfl rfl) a_Ra_at n_Ra (by decide +kernel : r_mh m_Ra_at.1 2)
theorem d_Ra_digest_66 : decode m_Ra_digest.2.1 66 = .ok (.i2l, 1) := by decide +kernel
theorem d_Ra_digest_67 : decode m_Ra_digest.2.1 67 = .ok (.invokestatic 309, 3) := by decide +kernel
set_option maxRecDepth 100000 in
theorem s_Ra_digest_67 {G : r_X} {n : Nat} {h : r_HI} {g : r_HR} {z : r_HL} {v0 v1 : Value} : r_cl G m_Ra_digest m_Ra_mix 67 [v0, v1] n h g z := r_clS d_Ra_digest_67 w_Ra_mix (r_in 726 rfl rfl) a_Ra_mix n_Ra (by decide +kernel : r_mh m_Ra_mix.1 2)
theorem d_Ra_digest_70 : decode m_Ra_digest.2.1 70 = .ok (.lstore_n 1, 1) := by decide +kernel
theorem d_Ra_digest_71 : decode m_Ra_digest.2.1 71 = .ok (.iinc 3 1, 3) := by decide +kernel
theorem d_Ra_digest_74 : decode m_Ra_digest.2.1 74 = .ok (.goto (-37), 3) := by decide +kernel
theorem d_Ra_digest_77 : decode m_Ra_digest.2.1 77 = .ok (.iconst 0, 1) := by decide +kernel
theorem d_Ra_digest_78 : decode m_Ra_digest.2.1 78 = .ok (.istore_n 3, 1) := by decide +kernel
theorem d_Ra_digest_79 : decode m_Ra_digest.2.1 79 = .ok (.iload_n 3, 1) := by decide +kernel
theorem d_Ra_digest_80 : decode m_Ra_digest.2.1 80 = .ok (.bipush 13, 2) := by decide +kernel
theorem d_Ra_digest_82 : decode m_Ra_digest.2.1 82 = .ok (.if_icmp .ge 20, 3) := by decide +kernel
theorem d_Ra_digest_85 : decode m_Ra_digest.2.1 85 = .ok (.lload_n 1, 1) := by decide +kernel
theorem d_Ra_digest_86 : decode m_Ra_digest.2.1 86 = .ok (.aload_n 0, 1) := by decide +kernel
theorem d_Ra_digest_87 : decode m_Ra_digest.2.1 87 = .ok (.iload_n 3, 1) := by decide +kernel
theorem d_Ra_digest_88 : decode m_Ra_digest.2.1 88 = .ok (.invokevirtual 313, 3) := by decide +kernel
set_option maxRecDepth 100000 in
theorem s_Ra_digest_88 {G : r_X} {n : Nat} {h : r_HI} {g : r_HR} {z : r_HL} {k : Nat} {v0 : Value} (hp : r_pk k = (0, 11)) (hk : k < n) : r_cl G m_Ra_digest m_Ra_count 88 (.ref (G.2.1 + k) :: [v0]) n h g z := r_clV d_Ra_digest_88 w_Ra_count (r_in 744 rfl rfl) a_Ra_count (r_in 709 rfl rfl) n_Ra (by decide +kernel : r_mh m_Ra_count.1 1) hp hk (by decide)
theorem d_Ra_digest_91 : decode m_Ra_digest.2.1 91 = .ok (.i2l, 1) := by decide +kernel
theorem d_Ra_digest_92 : decode m_Ra_digest.2.1 92 = .ok (.invokestatic 309, 3) := by decide +kernel
set_option maxRecDepth 100000 in
theorem s_Ra_digest_92 {G : r_X} {n : Nat} {h : r_HI} {g : r_HR} {z : r_HL} {v0 v1 : Value} : r_cl G m_Ra_digest m_Ra_mix 92 [v0, v1] n h g z := r_clS d_Ra_digest_92 w_Ra_mix (r_in 726 rfl rfl) a_Ra_mix n_Ra (by decide +kernel : r_mh m_Ra_mix.1 2)
theorem d_Ra_digest_95 : decode m_Ra_digest.2.1 95 = .ok (.lstore_n 1, 1) := by decide +kernel
theorem d_Ra_digest_96 : decode m_Ra_digest.2.1 96 = .ok (.iinc 3 1, 3) := by decide +kernel
theorem d_Ra_digest_99 : decode m_Ra_digest.2.1 99 = .ok (.goto (-20), 3) := by decide +kernel
theorem d_Ra_digest_102 : decode m_Ra_digest.2.1 102 = .ok (.lload_n 1, 1) := by decide +kernel
theorem d_Ra_digest_103 : decode m_Ra_digest.2.1 103 = .ok (.lreturn, 1) := by decide +kernel
theorem d_Ra_mixRings_0 : decode m_Ra_mixRings.2.1 0 = .ok (.iconst 0, 1) := by decide +kernel
theorem d_Ra_mixRings_1 : decode m_Ra_mixRings.2.1 1 = .ok (.istore_n 3, 1) := by decide +kernel
theorem d_Ra_mixRings_2 : decode m_Ra_mixRings.2.1 2 = .ok (.iload_n 3, 1) := by decide +kernel
theorem d_Ra_mixRings_3 : decode m_Ra_mixRings.2.1 3 = .ok (.aload_n 0, 1) := by decide +kernel
theorem d_Ra_mixRings_4 : decode m_Ra_mixRings.2.1 4 = .ok (.getfield 19, 3) := by decide +kernel
theorem d_Ra_mixRings_7 : decode m_Ra_mixRings.2.1 7 = .ok (.getfield 140, 3) := by decide +kernel
theorem d_Ra_mixRings_10 : decode m_Ra_mixRings.2.1 10 = .ok (.if_icmp .ge 79, 3) := by decide +kernel
theorem d_Ra_mixRings_13 : decode m_Ra_mixRings.2.1 13 = .ok (.iload_n 3, 1) := by decide +kernel
theorem d_Ra_mixRings_14 : decode m_Ra_mixRings.2.1 14 = .ok (.bipush 10, 2) := by decide +kernel
theorem d_Ra_mixRings_16 : decode m_Ra_mixRings.2.1 16 = .ok (.if_icmp .ge 73, 3) := by decide +kernel
theorem d_Ra_mixRings_19 : decode m_Ra_mixRings.2.1 19 = .ok (.iconst 0, 1) := by decide +kernel
theorem d_Ra_mixRings_20 : decode m_Ra_mixRings.2.1 20 = .ok (.istore 4, 2) := by decide +kernel
theorem d_Ra_mixRings_22 : decode m_Ra_mixRings.2.1 22 = .ok (.iload 4, 2) := by decide +kernel
theorem d_Ra_mixRings_24 : decode m_Ra_mixRings.2.1 24 = .ok (.iconst 4, 1) := by decide +kernel
theorem d_Ra_mixRings_25 : decode m_Ra_mixRings.2.1 25 = .ok (.if_icmp .gt 22, 3) := by decide +kernel
theorem d_Ra_mixRings_28 : decode m_Ra_mixRings.2.1 28 = .ok (.lload_n 1, 1) := by decide +kernel
theorem d_Ra_mixRings_29 : decode m_Ra_mixRings.2.1 29 = .ok (.aload_n 0, 1) := by decide +kernel
theorem d_Ra_mixRings_30 : decode m_Ra_mixRings.2.1 30 = .ok (.iload_n 3, 1) := by decide +kernel
theorem d_Ra_mixRings_31 : decode m_Ra_mixRings.2.1 31 = .ok (.iload 4, 2) := by decide +kernel
theorem d_Ra_mixRings_33 : decode m_Ra_mixRings.2.1 33 = .ok (.invokevirtual 316, 3) := by decide +kernel
set_option maxRecDepth 100000 in
theorem s_Ra_mixRings_33 {G : r_X} {n : Nat} {h : r_HI} {g : r_HR} {z : r_HL} {k : Nat} {v0 v1 : Value} (hp : r_pk k = (0, 11)) (hk : k < n) : r_cl G m_Ra_mixRings m_Ra_ring 33 (.ref (G.2.1 + k) :: [v0, v1]) n h g z := r_clV d_Ra_mixRings_33 w_Ra_ring (r_in 725 rfl rfl) a_Ra_ring (r_in 368 rfl rfl) n_Ra (by decide +kernel : r_mh m_Ra_ring.1 2) hp hk (by decide)
theorem d_Ra_mixRings_36 : decode m_Ra_mixRings.2.1 36 = .ok (.i2l, 1) := by decide +kernel
theorem d_Ra_mixRings_37 : decode m_Ra_mixRings.2.1 37 = .ok (.invokestatic 309, 3) := by decide +kernel
set_option maxRecDepth 100000 in
theorem s_Ra_mixRings_37 {G : r_X} {n : Nat} {h : r_HI} {g : r_HR} {z : r_HL} {v0 v1 : Value} : r_cl G m_Ra_mixRings m_Ra_mix 37 [v0, v1] n h g z := r_clS d_Ra_mixRings_37 w_Ra_mix (r_in 726 rfl rfl) a_Ra_mix n_Ra (by decide +kernel : r_mh m_Ra_mix.1 2)
theorem d_Ra_mixRings_40 : decode m_Ra_mixRings.2.1 40 = .ok (.lstore_n 1, 1) := by decide +kernel
theorem d_Ra_mixRings_41 : decode m_Ra_mixRings.2.1 41 = .ok (.iinc 4 1, 3) := by decide +kernel
theorem d_Ra_mixRings_44 : decode m_Ra_mixRings.2.1 44 = .ok (.goto (-22), 3) := by decide +kernel
theorem d_Ra_mixRings_47 : decode m_Ra_mixRings.2.1 47 = .ok (.aload_n 0, 1) := by decide +kernel
theorem d_Ra_mixRings_48 : decode m_Ra_mixRings.2.1 48 = .ok (.getfield 19, 3) := by decide +kernel
theorem d_Ra_mixRings_51 : decode m_Ra_mixRings.2.1 51 = .ok (.iload_n 3, 1) := by decide +kernel
theorem d_Ra_mixRings_52 : decode m_Ra_mixRings.2.1 52 = .ok (.iconst 5, 1) := by decide +kernel
theorem d_Ra_mixRings_53 : decode m_Ra_mixRings.2.1 53 = .ok (.invokevirtual 256, 3) := by decide +kernel
set_option maxRecDepth 100000 in
theorem s_Ra_mixRings_53 {G : r_X} {n : Nat} {h : r_HI} {g : r_HR} {z : r_HL} {k : Nat} {v0 v1 : Value} (hp : r_pk k = (0, 1)) (hk : k < n) : r_cl G m_Ra_mixRings m_Di_bestGap 53 (.ref (G.2.1 + k) :: [v0, v1]) n h g z := r_clV d_Ra_mixRings_53 w_Di_bestGap (r_in 613 rfl rfl) a_Di_bestGap (r_in 615 rfl rfl) n_Di (by decide +kernel : r_mh m_Di_bestGap.1 2) hp hk (by decide)
theorem d_Ra_mixRings_56 : decode m_Ra_mixRings.2.1 56 = .ok (.istore 4, 2) := by decide +kernel
theorem d_Ra_mixRings_58 : decode m_Ra_mixRings.2.1 58 = .ok (.lload_n 1, 1) := by decide +kernel
theorem d_Ra_mixRings_59 : decode m_Ra_mixRings.2.1 59 = .ok (.iload 4, 2) := by decide +kernel
theorem d_Ra_mixRings_61 : decode m_Ra_mixRings.2.1 61 = .ok (.i2l, 1) := by decide +kernel
theorem d_Ra_mixRings_62 : decode m_Ra_mixRings.2.1 62 = .ok (.invokestatic 309, 3) := by decide +kernel
set_option maxRecDepth 100000 in
theorem s_Ra_mixRings_62 {G : r_X} {n : Nat} {h : r_HI} {g : r_HR} {z : r_HL} {v0 v1 : Value} : r_cl G m_Ra_mixRings m_Ra_mix 62 [v0, v1] n h g z := r_clS d_Ra_mixRings_62 w_Ra_mix (r_in 726 rfl rfl) a_Ra_mix n_Ra (by decide +kernel : r_mh m_Ra_mix.1 2)
theorem d_Ra_mixRings_65 : decode m_Ra_mixRings.2.1 65 = .ok (.lstore_n 1, 1) := by decide +kernel
theorem d_Ra_mixRings_66 : decode m_Ra_mixRings.2.1 66 = .ok (.lload_n 1, 1) := by decide +kernel
theorem d_Ra_mixRings_67 : decode m_Ra_mixRings.2.1 67 = .ok (.aload_n 0, 1) := by decide +kernel
theorem d_Ra_mixRings_68 : decode m_Ra_mixRings.2.1 68 = .ok (.getfield 19, 3) := by decide +kernel
theorem d_Ra_mixRings_71 : decode m_Ra_mixRings.2.1 71 = .ok (.iload_n 3, 1) := by decide +kernel
theorem d_Ra_mixRings_72 : decode m_Ra_mixRings.2.1 72 = .ok (.iconst 5, 1) := by decide +kernel
theorem d_Ra_mixRings_73 : decode m_Ra_mixRings.2.1 73 = .ok (.iload 4, 2) := by decide +kernel
theorem d_Ra_mixRings_75 : decode m_Ra_mixRings.2.1 75 = .ok (.invokevirtual 259, 3) := by decide +kernel
set_option maxRecDepth 100000 in
theorem s_Ra_mixRings_75 {G : r_X} {n : Nat} {h : r_HI} {g : r_HR} {z : r_HL} {k : Nat} {v0 v1 v2 : Value} (hp : r_pk k = (0, 1)) (hk : k < n) : r_cl G m_Ra_mixRings m_Di_gapTicks 75 (.ref (G.2.1 + k) :: [v0, v1, v2]) n h g z := r_clV d_Ra_mixRings_75 w_Di_gapTicks (r_in 624 rfl rfl) a_Di_gapTicks (r_in 622 rfl rfl) n_Di (by decide +kernel : r_mh m_Di_gapTicks.1 3) hp hk (by decide)
theorem d_Ra_mixRings_78 : decode m_Ra_mixRings.2.1 78 = .ok (.i2l, 1) := by decide +kernel
theorem d_Ra_mixRings_79 : decode m_Ra_mixRings.2.1 79 = .ok (.invokestatic 309, 3) := by decide +kernel
set_option maxRecDepth 100000 in
theorem s_Ra_mixRings_79 {G : r_X} {n : Nat} {h : r_HI} {g : r_HR} {z : r_HL} {v0 v1 : Value} : r_cl G m_Ra_mixRings m_Ra_mix 79 [v0, v1] n h g z := r_clS d_Ra_mixRings_79 w_Ra_mix (r_in 726 rfl rfl) a_Ra_mix n_Ra (by decide +kernel : r_mh m_Ra_mix.1 2)
theorem d_Ra_mixRings_82 : decode m_Ra_mixRings.2.1 82 = .ok (.lstore_n 1, 1) := by decide +kernel
theorem d_Ra_mixRings_83 : decode m_Ra_mixRings.2.1 83 = .ok (.iinc 3 1, 3) := by decide +kernel
theorem d_Ra_mixRings_86 : decode m_Ra_mixRings.2.1 86 = .ok (.goto (-84), 3) := by decide +kernel
theorem d_Ra_mixRings_89 : decode m_Ra_mixRings.2.1 89 = .ok (.lload_n 1, 1) := by decide +kernel
theorem d_Ra_mixRings_90 : decode m_Ra_mixRings.2.1 90 = .ok (.lreturn, 1) := by decide +kernel
theorem d_Ra_mixAsked_0 : decode m_Ra_mixAsked.2.1 0 = .ok (.iconst 0, 1) := by decide +kernel
theorem d_Ra_mixAsked_1 : decode m_Ra_mixAsked.2.1 1 = .ok (.istore_n 3, 1) := by decide +kernel
theorem d_Ra_mixAsked_2 : decode m_Ra_mixAsked.2.1 2 = .ok (.iload_n 3, 1) := by decide +kernel
theorem d_Ra_mixAsked_3 : decode m_Ra_mixAsked.2.1 3 = .ok (.aload_n 0, 1) := by decide +kernel
theorem d_Ra_mixAsked_4 : decode m_Ra_mixAsked.2.1 4 = .ok (.getfield 28, 3) := by decide +kernel
theorem d_Ra_mixAsked_7 : decode m_Ra_mixAsked.2.1 7 = .ok (.getfield 197, 3) := by decide +kernel
theorem d_Ra_mixAsked_10 : decode m_Ra_mixAsked.2.1 10 = .ok (.if_icmp .ge 43, 3) := by decide +kernel
theorem d_Ra_mixAsked_13 : decode m_Ra_mixAsked.2.1 13 = .ok (.iload_n 3, 1) := by decide +kernel
theorem d_Ra_mixAsked_14 : decode m_Ra_mixAsked.2.1 14 = .ok (.bipush 7, 2) := by decide +kernel
theorem d_Ra_mixAsked_16 : decode m_Ra_mixAsked.2.1 16 = .ok (.if_icmp .ge 37, 3) := by decide +kernel
theorem d_Ra_mixAsked_19 : decode m_Ra_mixAsked.2.1 19 = .ok (.iconst 0, 1) := by decide +kernel
theorem d_Ra_mixAsked_20 : decode m_Ra_mixAsked.2.1 20 = .ok (.istore 4, 2) := by decide +kernel
theorem d_Ra_mixAsked_22 : decode m_Ra_mixAsked.2.1 22 = .ok (.iload 4, 2) := by decide +kernel
theorem d_Ra_mixAsked_24 : decode m_Ra_mixAsked.2.1 24 = .ok (.iconst 3, 1) := by decide +kernel
theorem d_Ra_mixAsked_25 : decode m_Ra_mixAsked.2.1 25 = .ok (.if_icmp .gt 22, 3) := by decide +kernel
theorem d_Ra_mixAsked_28 : decode m_Ra_mixAsked.2.1 28 = .ok (.lload_n 1, 1) := by decide +kernel
theorem d_Ra_mixAsked_29 : decode m_Ra_mixAsked.2.1 29 = .ok (.aload_n 0, 1) := by decide +kernel
theorem d_Ra_mixAsked_30 : decode m_Ra_mixAsked.2.1 30 = .ok (.iload_n 3, 1) := by decide +kernel
theorem d_Ra_mixAsked_31 : decode m_Ra_mixAsked.2.1 31 = .ok (.iload 4, 2) := by decide +kernel
theorem d_Ra_mixAsked_33 : decode m_Ra_mixAsked.2.1 33 = .ok (.invokevirtual 318, 3) := by decide +kernel
set_option maxRecDepth 100000 in
theorem s_Ra_mixAsked_33 {G : r_X} {n : Nat} {h : r_HI} {g : r_HR} {z : r_HL} {k : Nat} {v0 v1 : Value} (hp : r_pk k = (0, 11)) (hk : k < n) : r_cl G m_Ra_mixAsked m_Ra_asked 33 (.ref (G.2.1 + k) :: [v0, v1]) n h g z := r_clV d_Ra_mixAsked_33 w_Ra_asked (r_in 734 rfl rfl) a_Ra_asked (r_in 386 rfl rfl) n_Ra (by decide +kernel : r_mh m_Ra_asked.1 2) hp hk (by decide)
theorem d_Ra_mixAsked_36 : decode m_Ra_mixAsked.2.1 36 = .ok (.i2l, 1) := by decide +kernel
theorem d_Ra_mixAsked_37 : decode m_Ra_mixAsked.2.1 37 = .ok (.invokestatic 309, 3) := by decide +kernel
set_option maxRecDepth 100000 in
theorem s_Ra_mixAsked_37 {G : r_X} {n : Nat} {h : r_HI} {g : r_HR} {z : r_HL} {v0 v1 : Value} : r_cl G m_Ra_mixAsked m_Ra_mix 37 [v0, v1] n h g z := r_clS d_Ra_mixAsked_37 w_Ra_mix (r_in 726 rfl rfl) a_Ra_mix n_Ra (by decide +kernel : r_mh m_Ra_mix.1 2)
theorem d_Ra_mixAsked_40 : decode m_Ra_mixAsked.2.1 40 = .ok (.lstore_n 1, 1) := by decide +kernel
theorem d_Ra_mixAsked_41 : decode m_Ra_mixAsked.2.1 41 = .ok (.iinc 4 1, 3) := by decide +kernel
theorem d_Ra_mixAsked_44 : decode m_Ra_mixAsked.2.1 44 = .ok (.goto (-22), 3) := by decide +kernel
theorem d_Ra_mixAsked_47 : decode m_Ra_mixAsked.2.1 47 = .ok (.iinc 3 1, 3) := by decide +kernel
theorem d_Ra_mixAsked_50 : decode m_Ra_mixAsked.2.1 50 = .ok (.goto (-48), 3) := by decide +kernel
theorem d_Ra_mixAsked_53 : decode m_Ra_mixAsked.2.1 53 = .ok (.lload_n 1, 1) := by decide +kernel
theorem d_Ra_mixAsked_54 : decode m_Ra_mixAsked.2.1 54 = .ok (.lreturn, 1) := by decide +kernel
theorem d_Ra_mixChoices_0 : decode m_Ra_mixChoices.2.1 0 = .ok (.lload_n 1, 1) := by decide +kernel
theorem d_Ra_mixChoices_1 : decode m_Ra_mixChoices.2.1 1 = .ok (.aload_n 0, 1) := by decide +kernel
theorem d_Ra_mixChoices_2 : decode m_Ra_mixChoices.2.1 2 = .ok (.getfield 65, 3) := by decide +kernel
theorem d_Ra_mixChoices_5 : decode m_Ra_mixChoices.2.1 5 = .ok (.invokevirtual 190, 3) := by decide +kernel
set_option maxRecDepth 100000 in
theorem s_Ra_mixChoices_5_Fi {G : r_X} {n : Nat} {h : r_HI} {g : r_HR} {z : r_HL} {k : Nat} (hp : r_pk k = (0, 2)) (hk : k < n) : r_cl G m_Ra_mixChoices m_Fi_kind 5 (.ref (G.2.1 + k) :: []) n h g z := r_clU (x := m_Fi_kind.1) (owner := "RingArm$First") (M0 := m_Fi_kind) d_Ra_mixChoices_5 w_Fi_kind (r_in 418 rfl rfl) (r_in 421 rfl rfl) a_Fi_kind w_Fi_kind rfl a_Fi_kind (r_in 420 rfl rfl) n_Fi ⟨by decide, by decide⟩ (by decide +kernel : r_mh m_Fi_kind.1 0) hp hk (by decide)
set_option maxRecDepth 100000 in
theorem s_Ra_mixChoices_5_Ne {G : r_X} {n : Nat} {h : r_HI} {g : r_HR} {z : r_HL} {k : Nat} (hp : r_pk k = (0, 3)) (hk : k < n) : r_cl G m_Ra_mixChoices m_Ne_kind 5 (.ref (G.2.1 + k) :: []) n h g z := r_clU (x := m_Fi_kind.1) (owner := "RingArm$First") (M0 := m_Fi_kind) d_Ra_mixChoices_5 w_Ne_kind (r_in 418 rfl rfl) (r_in 421 rfl rfl) a_Fi_kind w_Fi_kind rfl a_Ne_kind (r_in 422 rfl rfl) n_Ne ⟨by decide, by decide⟩ (by decide +kernel : r_mh m_Fi_kind.1 0) hp hk (by decide)
set_option maxRecDepth 100000 in
theorem s_Ra_mixChoices_5_Sw {G : r_X} {n : Nat} {h : r_HI} {g : r_HR} {z : r_HL} {k : Nat} (hp : r_pk k = (0, 9)) (hk : k < n) : r_cl G m_Ra_mixChoices m_Sw_kind 5 (.ref (G.2.1 + k) :: []) n h g z := r_clU (x := m_Fi_kind.1) (owner := "RingArm$First") (M0 := m_Fi_kind) d_Ra_mixChoices_5 w_Sw_kind (r_in 418 rfl rfl) (r_in 421 rfl rfl) a_Fi_kind w_Fi_kind rfl a_Sw_kind (r_in 431 rfl rfl) n_Sw ⟨by decide, by decide⟩ (by decide +kernel : r_mh m_Fi_kind.1 0) hp hk (by decide)
set_option maxRecDepth 100000 in
theorem s_Ra_mixChoices_5_Ro {G : r_X} {n : Nat} {h : r_HI} {g : r_HR} {z : r_HL} {k : Nat} (hp : r_pk k = (0, 6)) (hk : k < n) : r_cl G m_Ra_mixChoices m_Ro_kind 5 (.ref (G.2.1 + k) :: []) n h g z := r_clU (x := m_Fi_kind.1) (owner := "RingArm$First") (M0 := m_Fi_kind) d_Ra_mixChoices_5 w_Ro_kind (r_in 418 rfl rfl) (r_in 421 rfl rfl) a_Fi_kind w_Fi_kind rfl a_Ro_kind (r_in 425 rfl rfl) n_Ro ⟨by decide, by decide⟩ (by decide +kernel : r_mh m_Fi_kind.1 0) hp hk (by decide)
set_option maxRecDepth 100000 in
theorem s_Ra_mixChoices_5_So {G : r_X} {n : Nat} {h : r_HI} {g : r_HR} {z : r_HL} {k : Nat} (hp : r_pk k = (0, 8)) (hk : k < n) : r_cl G m_Ra_mixChoices m_So_kind 5 (.ref (G.2.1 + k) :: []) n h g z := r_clU (x := m_Fi_kind.1) (owner := "RingArm$First") (M0 := m_Fi_kind) d_Ra_mixChoices_5 w_So_kind (r_in 418 rfl rfl) (r_in 421 rfl rfl) a_Fi_kind w_Fi_kind rfl a_So_kind (r_in 428 rfl rfl) n_So ⟨by decide, by decide⟩ (by decide +kernel : r_mh m_Fi_kind.1 0) hp hk (by decide)
theorem d_Ra_mixChoices_8 : decode m_Ra_mixChoices.2.1 8 = .ok (.i2l, 1) := by decide +kernel
theorem d_Ra_mixChoices_9 : decode m_Ra_mixChoices.2.1 9 = .ok (.invokestatic 309, 3) := by decide +kernel
set_option maxRecDepth 100000 in
theorem s_Ra_mixChoices_9 {G : r_X} {n : Nat} {h : r_HI} {g : r_HR} {z : r_HL} {v0 v1 : Value} : r_cl G m_Ra_mixChoices m_Ra_mix 9 [v0, v1] n h g z := r_clS d_Ra_mixChoices_9 w_Ra_mix (r_in 726 rfl rfl) a_Ra_mix n_Ra (by decide +kernel : r_mh m_Ra_mix.1 2)
theorem d_Ra_mixChoices_12 : decode m_Ra_mixChoices.2.1 12 = .ok (.lstore_n 1, 1) := by decide +kernel
theorem d_Ra_mixChoices_13 : decode m_Ra_mixChoices.2.1 13 = .ok (.lload_n 1, 1) := by decide +kernel
theorem d_Ra_mixChoices_14 : decode m_Ra_mixChoices.2.1 14 = .ok (.aload_n 0, 1) := by decide +kernel
theorem d_Ra_mixChoices_15 : decode m_Ra_mixChoices.2.1 15 = .ok (.getfield 65, 3) := by decide +kernel
theorem d_Ra_mixChoices_18 : decode m_Ra_mixChoices.2.1 18 = .ok (.aload_n 0, 1) := by decide +kernel
theorem d_Ra_mixChoices_19 : decode m_Ra_mixChoices.2.1 19 = .ok (.getfield 28, 3) := by decide +kernel
theorem d_Ra_mixChoices_22 : decode m_Ra_mixChoices.2.1 22 = .ok (.invokevirtual 193, 3) := by decide +kernel
set_option maxRecDepth 100000 in
theorem s_Ra_mixChoices_22_Fi {G : r_X} {n : Nat} {h : r_HI} {g : r_HR} {z : r_HL} {k : Nat} {v0 : Value} (hp : r_pk k = (0, 2)) (hk : k < n) : r_cl G m_Ra_mixChoices m_Fi_pick 22 (.ref (G.2.1 + k) :: [v0]) n h g z := r_clU (x := m_Fi_pick.1) (owner := "RingArm$First") (M0 := m_Fi_pick) d_Ra_mixChoices_22 w_Fi_pick (r_in 439 rfl rfl) (r_in 442 rfl rfl) a_Fi_pick w_Fi_pick rfl a_Fi_pick (r_in 441 rfl rfl) n_Fi ⟨by decide, by decide⟩ (by decide +kernel : r_mh m_Fi_pick.1 1) hp hk (by decide)
set_option maxRecDepth 100000 in
theorem s_Ra_mixChoices_22_Ne {G : r_X} {n : Nat} {h : r_HI} {g : r_HR} {z : r_HL} {k : Nat} {v0 : Value} (hp : r_pk k = (0, 3)) (hk : k < n) : r_cl G m_Ra_mixChoices m_Fi_pick 22 (.ref (G.2.1 + k) :: [v0]) n h g z := r_clU (x := m_Fi_pick.1) (owner := "RingArm$First") (M0 := m_Fi_pick) d_Ra_mixChoices_22 w_Fi_pick (r_in 439 rfl rfl) (r_in 442 rfl rfl) a_Fi_pick w_Fi_pick rfl a_Fi_pick (r_in 443 rfl rfl) n_Fi ⟨by decide, by decide⟩ (by decide +kernel : r_mh m_Fi_pick.1 1) hp hk (by decide)
set_option maxRecDepth 100000 in
theorem s_Ra_mixChoices_22_Sw {G : r_X} {n : Nat} {h : r_HI} {g : r_HR} {z : r_HL} {k : Nat} {v0 : Value} (hp : r_pk k = (0, 9)) (hk : k < n) : r_cl G m_Ra_mixChoices m_Fi_pick 22 (.ref (G.2.1 + k) :: [v0]) n h g z := r_clU (x := m_Fi_pick.1) (owner := "RingArm$First") (M0 := m_Fi_pick) d_Ra_mixChoices_22 w_Fi_pick (r_in 439 rfl rfl) (r_in 442 rfl rfl) a_Fi_pick w_Fi_pick rfl a_Fi_pick (r_in 446 rfl rfl) n_Fi ⟨by decide, by decide⟩ (by decide +kernel : r_mh m_Fi_pick.1 1) hp hk (by decide)
set_option maxRecDepth 100000 in
theorem s_Ra_mixChoices_22_Ro {G : r_X} {n : Nat} {h : r_HI} {g : r_HR} {z : r_HL} {k : Nat} {v0 : Value} (hp : r_pk k = (0, 6)) (hk : k < n) : r_cl G m_Ra_mixChoices m_Fi_pick 22 (.ref (G.2.1 + k) :: [v0]) n h g z := r_clU (x := m_Fi_pick.1) (owner := "RingArm$First") (M0 := m_Fi_pick) d_Ra_mixChoices_22 w_Fi_pick (r_in 439 rfl rfl) (r_in 442 rfl rfl) a_Fi_pick w_Fi_pick rfl a_Fi_pick (r_in 444 rfl rfl) n_Fi ⟨by decide, by decide⟩ (by decide +kernel : r_mh m_Fi_pick.1 1) hp hk (by decide)
set_option maxRecDepth 100000 in
theorem s_Ra_mixChoices_22_So {G : r_X} {n : Nat} {h : r_HI} {g : r_HR} {z : r_HL} {k : Nat} {v0 : Value} (hp : r_pk k = (0, 8)) (hk : k < n) : r_cl G m_Ra_mixChoices m_Fi_pick 22 (.ref (G.2.1 + k) :: [v0]) n h g z := r_clU (x := m_Fi_pick.1) (owner := "RingArm$First") (M0 := m_Fi_pick) d_Ra_mixChoices_22 w_Fi_pick (r_in 439 rfl rfl) (r_in 442 rfl rfl) a_Fi_pick w_Fi_pick rfl a_Fi_pick (r_in 445 rfl rfl) n_Fi ⟨by decide, by decide⟩ (by decide +kernel : r_mh m_Fi_pick.1 1) hp hk (by decide)
theorem d_Ra_mixChoices_25 : decode m_Ra_mixChoices.2.1 25 = .ok (.i2l, 1) := by decide +kernel
theorem d_Ra_mixChoices_26 : decode m_Ra_mixChoices.2.1 26 = .ok (.invokestatic 309, 3) := by decide +kernel
set_option maxRecDepth 100000 in
theorem s_Ra_mixChoices_26 {G : r_X} {n : Nat} {h : r_HI} {g : r_HR} {z : r_HL} {v0 v1 : Value} : r_cl G m_Ra_mixChoices m_Ra_mix 26 [v0, v1] n h g z := r_clS d_Ra_mixChoices_26 w_Ra_mix (r_in 726 rfl rfl) a_Ra_mix n_Ra (by decide +kernel : r_mh m_Ra_mix.1 2)
theorem d_Ra_mixChoices_29 : decode m_Ra_mixChoices.2.1 29 = .ok (.lstore_n 1, 1) := by decide +kernel
theorem d_Ra_mixChoices_30 : decode m_Ra_mixChoices.2.1 30 = .ok (.iconst 0, 1) := by decide +kernel
theorem d_Ra_mixChoices_31 : decode m_Ra_mixChoices.2.1 31 = .ok (.istore_n 3, 1) := by decide +kernel
theorem d_Ra_mixChoices_32 : decode m_Ra_mixChoices.2.1 32 = .ok (.iload_n 3, 1) := by decide +kernel
theorem d_Ra_mixChoices_33 : decode m_Ra_mixChoices.2.1 33 = .ok (.iconst 5, 1) := by decide +kernel
theorem d_Ra_mixChoices_34 : decode m_Ra_mixChoices.2.1 34 = .ok (.if_icmp .ge 58, 3) := by decide +kernel
theorem d_Ra_mixChoices_37 : decode m_Ra_mixChoices.2.1 37 = .ok (.aload_n 0, 1) := by decide +kernel
theorem d_Ra_mixChoices_38 : decode m_Ra_mixChoices.2.1 38 = .ok (.getfield 88, 3) := by decide +kernel
theorem d_Ra_mixChoices_41 : decode m_Ra_mixChoices.2.1 41 = .ok (.aload_n 0, 1) := by decide +kernel
theorem d_Ra_mixChoices_42 : decode m_Ra_mixChoices.2.1 42 = .ok (.getfield 28, 3) := by decide +kernel
theorem d_Ra_mixChoices_45 : decode m_Ra_mixChoices.2.1 45 = .ok (.invokevirtual 222, 3) := by decide +kernel
set_option maxRecDepth 100000 in
theorem s_Ra_mixChoices_45 {G : r_X} {n : Nat} {h : r_HI} {g : r_HR} {z : r_HL} {k : Nat} {v0 : Value} (hp : r_pk k = (0, 0)) (hk : k < n) : r_cl G m_Ra_mixChoices m_Dk_copyFrom 45 (.ref (G.2.1 + k) :: [v0]) n h g z := r_clV d_Ra_mixChoices_45 w_Dk_copyFrom (r_in 539 rfl rfl) a_Dk_copyFrom (r_in 541 rfl rfl) n_Dk (by decide +kernel : r_mh m_Dk_copyFrom.1 1) hp hk (by decide)
theorem d_Ra_mixChoices_48 : decode m_Ra_mixChoices.2.1 48 = .ok (.aload_n 0, 1) := by decide +kernel
theorem d_Ra_mixChoices_49 : decode m_Ra_mixChoices.2.1 49 = .ok (.getfield 88, 3) := by decide +kernel
theorem d_Ra_mixChoices_52 : decode m_Ra_mixChoices.2.1 52 = .ok (.aload_n 0, 1) := by decide +kernel
theorem d_Ra_mixChoices_53 : decode m_Ra_mixChoices.2.1 53 = .ok (.iload_n 3, 1) := by decide +kernel
theorem d_Ra_mixChoices_54 : decode m_Ra_mixChoices.2.1 54 = .ok (.invokevirtual 126, 3) := by decide +kernel
set_option maxRecDepth 100000 in
theorem s_Ra_mixChoices_54 {G : r_X} {n : Nat} {h : r_HI} {g : r_HR} {z : r_HL} {k : Nat} {v0 : Value} (hp : r_pk k = (0, 11)) (hk : k < n) : r_cl G m_Ra_mixChoices m_Ra_policyOf 54 (.ref (G.2.1 + k) :: [v0]) n h g z := r_clV d_Ra_mixChoices_54 w_Ra_policyOf (r_in 338 rfl rfl) a_Ra_policyOf (r_inP 0 rfl rfl) n_Ra (by decide +kernel : r_mh m_Ra_policyOf.1 1) hp hk (by decide)
theorem d_Ra_mixChoices_57 : decode m_Ra_mixChoices.2.1 57 = .ok (.invokevirtual 226, 3) := by decide +kernel
set_option maxRecDepth 100000 in
theorem s_Ra_mixChoices_57 {G : r_X} {n : Nat} {h : r_HI} {g : r_HR} {z : r_HL} {k : Nat} {v0 : Value} (hp : r_pk k = (0, 0)) (hk : k < n) : r_cl G m_Ra_mixChoices m_Dk_followAll 57 (.ref (G.2.1 + k) :: [v0]) n h g z := r_clV d_Ra_mixChoices_57 w_Dk_followAll (r_in 546 rfl rfl) a_Dk_followAll (r_in 548 rfl rfl) n_Dk (by decide +kernel : r_mh m_Dk_followAll.1 1) hp hk (by decide)
theorem d_Ra_mixChoices_60 : decode m_Ra_mixChoices.2.1 60 = .ok (.lload_n 1, 1) := by decide +kernel
theorem d_Ra_mixChoices_61 : decode m_Ra_mixChoices.2.1 61 = .ok (.aload_n 0, 1) := by decide +kernel
theorem d_Ra_mixChoices_62 : decode m_Ra_mixChoices.2.1 62 = .ok (.getfield 88, 3) := by decide +kernel
theorem d_Ra_mixChoices_65 : decode m_Ra_mixChoices.2.1 65 = .ok (.getfield 205, 3) := by decide +kernel
theorem d_Ra_mixChoices_68 : decode m_Ra_mixChoices.2.1 68 = .ok (.i2l, 1) := by decide +kernel
theorem d_Ra_mixChoices_69 : decode m_Ra_mixChoices.2.1 69 = .ok (.invokestatic 309, 3) := by decide +kernel
set_option maxRecDepth 100000 in
theorem s_Ra_mixChoices_69 {G : r_X} {n : Nat} {h : r_HI} {g : r_HR} {z : r_HL} {v0 v1 : Value} : r_cl G m_Ra_mixChoices m_Ra_mix 69 [v0, v1] n h g z := r_clS d_Ra_mixChoices_69 w_Ra_mix (r_in 726 rfl rfl) a_Ra_mix n_Ra (by decide +kernel : r_mh m_Ra_mix.1 2)
theorem d_Ra_mixChoices_72 : decode m_Ra_mixChoices.2.1 72 = .ok (.lstore_n 1, 1) := by decide +kernel
theorem d_Ra_mixChoices_73 : decode m_Ra_mixChoices.2.1 73 = .ok (.lload_n 1, 1) := by decide +kernel
theorem d_Ra_mixChoices_74 : decode m_Ra_mixChoices.2.1 74 = .ok (.aload_n 0, 1) := by decide +kernel
theorem d_Ra_mixChoices_75 : decode m_Ra_mixChoices.2.1 75 = .ok (.getfield 88, 3) := by decide +kernel
theorem d_Ra_mixChoices_78 : decode m_Ra_mixChoices.2.1 78 = .ok (.getfield 230, 3) := by decide +kernel
theorem d_Ra_mixChoices_81 : decode m_Ra_mixChoices.2.1 81 = .ok (.i2l, 1) := by decide +kernel
theorem d_Ra_mixChoices_82 : decode m_Ra_mixChoices.2.1 82 = .ok (.invokestatic 309, 3) := by decide +kernel
set_option maxRecDepth 100000 in
theorem s_Ra_mixChoices_82 {G : r_X} {n : Nat} {h : r_HI} {g : r_HR} {z : r_HL} {v0 v1 : Value} : r_cl G m_Ra_mixChoices m_Ra_mix 82 [v0, v1] n h g z := r_clS d_Ra_mixChoices_82 w_Ra_mix (r_in 726 rfl rfl) a_Ra_mix n_Ra (by decide +kernel : r_mh m_Ra_mix.1 2)
theorem d_Ra_mixChoices_85 : decode m_Ra_mixChoices.2.1 85 = .ok (.lstore_n 1, 1) := by decide +kernel
theorem d_Ra_mixChoices_86 : decode m_Ra_mixChoices.2.1 86 = .ok (.iinc 3 1, 3) := by decide +kernel
theorem d_Ra_mixChoices_89 : decode m_Ra_mixChoices.2.1 89 = .ok (.goto (-57), 3) := by decide +kernel
theorem d_Ra_mixChoices_92 : decode m_Ra_mixChoices.2.1 92 = .ok (.lload_n 1, 1) := by decide +kernel
theorem d_Ra_mixChoices_93 : decode m_Ra_mixChoices.2.1 93 = .ok (.lreturn, 1) := by decide +kernel
theorem d_Ra_mixBests_0 : decode m_Ra_mixBests.2.1 0 = .ok (.iconst 0, 1) := by decide +kernel
theorem d_Ra_mixBests_1 : decode m_Ra_mixBests.2.1 1 = .ok (.istore_n 3, 1) := by decide +kernel
theorem d_Ra_mixBests_2 : decode m_Ra_mixBests.2.1 2 = .ok (.iload_n 3, 1) := by decide +kernel
theorem d_Ra_mixBests_3 : decode m_Ra_mixBests.2.1 3 = .ok (.iconst 2, 1) := by decide +kernel
theorem d_Ra_mixBests_4 : decode m_Ra_mixBests.2.1 4 = .ok (.if_icmp .gt 22, 3) := by decide +kernel
theorem d_Ra_mixBests_7 : decode m_Ra_mixBests.2.1 7 = .ok (.lload_n 1, 1) := by decide +kernel
theorem d_Ra_mixBests_8 : decode m_Ra_mixBests.2.1 8 = .ok (.aload_n 0, 1) := by decide +kernel
theorem d_Ra_mixBests_9 : decode m_Ra_mixBests.2.1 9 = .ok (.iconst 0, 1) := by decide +kernel
theorem d_Ra_mixBests_10 : decode m_Ra_mixBests.2.1 10 = .ok (.iconst 1, 1) := by decide +kernel
theorem d_Ra_mixBests_11 : decode m_Ra_mixBests.2.1 11 = .ok (.iload_n 3, 1) := by decide +kernel
theorem d_Ra_mixBests_12 : decode m_Ra_mixBests.2.1 12 = .ok (.invokevirtual 321, 3) := by decide +kernel
set_option maxRecDepth 100000 in
theorem s_Ra_mixBests_12 {G : r_X} {n : Nat} {h : r_HI} {g : r_HR} {z : r_HL} {k : Nat} {v0 v1 v2 : Value} (hp : r_pk k = (0, 11)) (hk : k < n) : r_cl G m_Ra_mixBests m_Ra_behind 12 (.ref (G.2.1 + k) :: [v0, v1, v2]) n h g z := r_clV d_Ra_mixBests_12 w_Ra_behind (r_in 743 rfl rfl) a_Ra_behind (r_in 606 rfl rfl) n_Ra (by decide +kernel : r_mh m_Ra_behind.1 3) hp hk (by decide)
theorem d_Ra_mixBests_15 : decode m_Ra_mixBests.2.1 15 = .ok (.i2l, 1) := by decide +kernel
theorem d_Ra_mixBests_16 : decode m_Ra_mixBests.2.1 16 = .ok (.invokestatic 309, 3) := by decide +kernel
set_option maxRecDepth 100000 in
theorem s_Ra_mixBests_16 {G : r_X} {n : Nat} {h : r_HI} {g : r_HR} {z : r_HL} {v0 v1 : Value} : r_cl G m_Ra_mixBests m_Ra_mix 16 [v0, v1] n h g z := r_clS d_Ra_mixBests_16 w_Ra_mix (r_in 726 rfl rfl) a_Ra_mix n_Ra (by decide +kernel : r_mh m_Ra_mix.1 2)
theorem d_Ra_mixBests_19 : decode m_Ra_mixBests.2.1 19 = .ok (.lstore_n 1, 1) := by decide +kernel
theorem d_Ra_mixBests_20 : decode m_Ra_mixBests.2.1 20 = .ok (.iinc 3 1, 3) := by decide +kernel
theorem d_Ra_mixBests_23 : decode m_Ra_mixBests.2.1 23 = .ok (.goto (-21), 3) := by decide +kernel
theorem d_Ra_mixBests_26 : decode m_Ra_mixBests.2.1 26 = .ok (.aload_n 0, 1) := by decide +kernel
theorem d_Ra_mixBests_27 : decode m_Ra_mixBests.2.1 27 = .ok (.getfield 35, 3) := by decide +kernel
theorem d_Ra_mixBests_30 : decode m_Ra_mixBests.2.1 30 = .ok (.invokevirtual 246, 3) := by decide +kernel
set_option maxRecDepth 100000 in
theorem s_Ra_mixBests_30 {G : r_X} {n : Nat} {h : r_HI} {g : r_HR} {z : r_HL} {k : Nat} (hp : r_pk k = (0, 10)) (hk : k < n) : r_cl G m_Ra_mixBests m_Th_solve 30 (.ref (G.2.1 + k) :: []) n h g z := r_clV d_Ra_mixBests_30 w_Th_solve (r_in 580 rfl rfl) a_Th_solve (r_in 582 rfl rfl) n_Th (by decide +kernel : r_mh m_Th_solve.1 0) hp hk (by decide)
theorem d_Ra_mixBests_33 : decode m_Ra_mixBests.2.1 33 = .ok (.lload_n 1, 1) := by decide +kernel
theorem d_Ra_mixBests_34 : decode m_Ra_mixBests.2.1 34 = .ok (.aload_n 0, 1) := by decide +kernel
theorem d_Ra_mixBests_35 : decode m_Ra_mixBests.2.1 35 = .ok (.getfield 35, 3) := by decide +kernel
theorem d_Ra_mixBests_38 : decode m_Ra_mixBests.2.1 38 = .ok (.iconst 0, 1) := by decide +kernel
theorem d_Ra_mixBests_39 : decode m_Ra_mixBests.2.1 39 = .ok (.invokevirtual 248, 3) := by decide +kernel
set_option maxRecDepth 100000 in
theorem s_Ra_mixBests_39 {G : r_X} {n : Nat} {h : r_HI} {g : r_HR} {z : r_HL} {k : Nat} {v0 : Value} (hp : r_pk k = (0, 10)) (hk : k < n) : r_cl G m_Ra_mixBests m_Th_told 39 (.ref (G.2.1 + k) :: [v0]) n h g z := r_clV d_Ra_mixBests_39 w_Th_told (r_in 600 rfl rfl) a_Th_told (r_in 602 rfl rfl) n_Th (by decide +kernel : r_mh m_Th_told.1 1) hp hk (by decide)
theorem d_Ra_mixBests_42 : decode m_Ra_mixBests.2.1 42 = .ok (.i2l, 1) := by decide +kernel
theorem d_Ra_mixBests_43 : decode m_Ra_mixBests.2.1 43 = .ok (.invokestatic 309, 3) := by decide +kernel
set_option maxRecDepth 100000 in
theorem s_Ra_mixBests_43 {G : r_X} {n : Nat} {h : r_HI} {g : r_HR} {z : r_HL} {v0 v1 : Value} : r_cl G m_Ra_mixBests m_Ra_mix 43 [v0, v1] n h g z := r_clS d_Ra_mixBests_43 w_Ra_mix (r_in 726 rfl rfl) a_Ra_mix n_Ra (by decide +kernel : r_mh m_Ra_mix.1 2)
theorem d_Ra_mixBests_46 : decode m_Ra_mixBests.2.1 46 = .ok (.lstore_n 1, 1) := by decide +kernel
theorem d_Ra_mixBests_47 : decode m_Ra_mixBests.2.1 47 = .ok (.iconst 0, 1) := by decide +kernel
theorem d_Ra_mixBests_48 : decode m_Ra_mixBests.2.1 48 = .ok (.istore_n 3, 1) := by decide +kernel
theorem d_Ra_mixBests_49 : decode m_Ra_mixBests.2.1 49 = .ok (.iload_n 3, 1) := by decide +kernel
theorem d_Ra_mixBests_50 : decode m_Ra_mixBests.2.1 50 = .ok (.bipush 6, 2) := by decide +kernel
theorem d_Ra_mixBests_52 : decode m_Ra_mixBests.2.1 52 = .ok (.if_icmp .ge 26, 3) := by decide +kernel
theorem d_Ra_mixBests_55 : decode m_Ra_mixBests.2.1 55 = .ok (.lload_n 1, 1) := by decide +kernel
theorem d_Ra_mixBests_56 : decode m_Ra_mixBests.2.1 56 = .ok (.aload_n 0, 1) := by decide +kernel
theorem d_Ra_mixBests_57 : decode m_Ra_mixBests.2.1 57 = .ok (.getfield 35, 3) := by decide +kernel
theorem d_Ra_mixBests_60 : decode m_Ra_mixBests.2.1 60 = .ok (.bipush 10, 2) := by decide +kernel
theorem d_Ra_mixBests_62 : decode m_Ra_mixBests.2.1 62 = .ok (.iload_n 3, 1) := by decide +kernel
theorem d_Ra_mixBests_63 : decode m_Ra_mixBests.2.1 63 = .ok (.iadd, 1) := by decide +kernel
theorem d_Ra_mixBests_64 : decode m_Ra_mixBests.2.1 64 = .ok (.invokevirtual 248, 3) := by decide +kernel
set_option maxRecDepth 100000 in
theorem s_Ra_mixBests_64 {G : r_X} {n : Nat} {h : r_HI} {g : r_HR} {z : r_HL} {k : Nat} {v0 : Value} (hp : r_pk k = (0, 10)) (hk : k < n) : r_cl G m_Ra_mixBests m_Th_told 64 (.ref (G.2.1 + k) :: [v0]) n h g z := r_clV d_Ra_mixBests_64 w_Th_told (r_in 600 rfl rfl) a_Th_told (r_in 602 rfl rfl) n_Th (by decide +kernel : r_mh m_Th_told.1 1) hp hk (by decide)
theorem d_Ra_mixBests_67 : decode m_Ra_mixBests.2.1 67 = .ok (.i2l, 1) := by decide +kernel
theorem d_Ra_mixBests_68 : decode m_Ra_mixBests.2.1 68 = .ok (.invokestatic 309, 3) := by decide +kernel
set_option maxRecDepth 100000 in
theorem s_Ra_mixBests_68 {G : r_X} {n : Nat} {h : r_HI} {g : r_HR} {z : r_HL} {v0 v1 : Value} : r_cl G m_Ra_mixBests m_Ra_mix 68 [v0, v1] n h g z := r_clS d_Ra_mixBests_68 w_Ra_mix (r_in 726 rfl rfl) a_Ra_mix n_Ra (by decide +kernel : r_mh m_Ra_mix.1 2)
theorem d_Ra_mixBests_71 : decode m_Ra_mixBests.2.1 71 = .ok (.lstore_n 1, 1) := by decide +kernel
theorem d_Ra_mixBests_72 : decode m_Ra_mixBests.2.1 72 = .ok (.iinc 3 1, 3) := by decide +kernel
theorem d_Ra_mixBests_75 : decode m_Ra_mixBests.2.1 75 = .ok (.goto (-26), 3) := by decide +kernel
theorem d_Ra_mixBests_78 : decode m_Ra_mixBests.2.1 78 = .ok (.aload_n 0, 1) := by decide +kernel
theorem d_Ra_mixBests_79 : decode m_Ra_mixBests.2.1 79 = .ok (.getfield 42, 3) := by decide +kernel
theorem d_Ra_mixBests_82 : decode m_Ra_mixBests.2.1 82 = .ok (.aload_n 0, 1) := by decide +kernel
theorem d_Ra_mixBests_83 : decode m_Ra_mixBests.2.1 83 = .ok (.getfield 19, 3) := by decide +kernel
theorem d_Ra_mixBests_86 : decode m_Ra_mixBests.2.1 86 = .ok (.getfield 219, 3) := by decide +kernel
theorem d_Ra_mixBests_89 : decode m_Ra_mixBests.2.1 89 = .ok (.invokevirtual 265, 3) := by decide +kernel
set_option maxRecDepth 100000 in
theorem s_Ra_mixBests_89 {G : r_X} {n : Nat} {h : r_HI} {g : r_HR} {z : r_HL} {k : Nat} {v0 : Value} (hp : r_pk k = (0, 7)) (hk : k < n) : r_cl G m_Ra_mixBests m_Si_fitting 89 (.ref (G.2.1 + k) :: [v0]) n h g z := r_clV d_Ra_mixBests_89 w_Si_fitting (r_in 642 rfl rfl) a_Si_fitting (r_in 644 rfl rfl) n_Si (by decide +kernel : r_mh m_Si_fitting.1 1) hp hk (by decide)
theorem d_Ra_mixBests_92 : decode m_Ra_mixBests.2.1 92 = .ok (.istore_n 3, 1) := by decide +kernel
theorem d_Ra_mixBests_93 : decode m_Ra_mixBests.2.1 93 = .ok (.lload_n 1, 1) := by decide +kernel
theorem d_Ra_mixBests_94 : decode m_Ra_mixBests.2.1 94 = .ok (.iload_n 3, 1) := by decide +kernel
theorem d_Ra_mixBests_95 : decode m_Ra_mixBests.2.1 95 = .ok (.i2l, 1) := by decide +kernel
theorem d_Ra_mixBests_96 : decode m_Ra_mixBests.2.1 96 = .ok (.invokestatic 309, 3) := by decide +kernel
set_option maxRecDepth 100000 in
theorem s_Ra_mixBests_96 {G : r_X} {n : Nat} {h : r_HI} {g : r_HR} {z : r_HL} {v0 v1 : Value} : r_cl G m_Ra_mixBests m_Ra_mix 96 [v0, v1] n h g z := r_clS d_Ra_mixBests_96 w_Ra_mix (r_in 726 rfl rfl) a_Ra_mix n_Ra (by decide +kernel : r_mh m_Ra_mix.1 2)
theorem d_Ra_mixBests_99 : decode m_Ra_mixBests.2.1 99 = .ok (.lstore_n 1, 1) := by decide +kernel
theorem d_Ra_mixBests_100 : decode m_Ra_mixBests.2.1 100 = .ok (.lload_n 1, 1) := by decide +kernel
theorem d_Ra_mixBests_101 : decode m_Ra_mixBests.2.1 101 = .ok (.iload_n 3, 1) := by decide +kernel
theorem d_Ra_mixBests_102 : decode m_Ra_mixBests.2.1 102 = .ok (.invokestatic 268, 3) := by decide +kernel
set_option maxRecDepth 100000 in
theorem s_Ra_mixBests_102 {G : r_X} {n : Nat} {h : r_HI} {g : r_HR} {z : r_HL} {v0 : Value} : r_cl G m_Ra_mixBests m_Ra_bestTry 102 [v0] n h g z := r_clS d_Ra_mixBests_102 w_Ra_bestTry (r_in 656 rfl rfl) a_Ra_bestTry n_Ra (by decide +kernel : r_mh m_Ra_bestTry.1 1)
theorem d_Ra_mixBests_105 : decode m_Ra_mixBests.2.1 105 = .ok (.i2l, 1) := by decide +kernel
theorem d_Ra_mixBests_106 : decode m_Ra_mixBests.2.1 106 = .ok (.invokestatic 309, 3) := by decide +kernel
set_option maxRecDepth 100000 in
theorem s_Ra_mixBests_106 {G : r_X} {n : Nat} {h : r_HI} {g : r_HR} {z : r_HL} {v0 v1 : Value} : r_cl G m_Ra_mixBests m_Ra_mix 106 [v0, v1] n h g z := r_clS d_Ra_mixBests_106 w_Ra_mix (r_in 726 rfl rfl) a_Ra_mix n_Ra (by decide +kernel : r_mh m_Ra_mix.1 2)
theorem d_Ra_mixBests_109 : decode m_Ra_mixBests.2.1 109 = .ok (.lreturn, 1) := by decide +kernel
theorem d_Ra_mix_0 : decode m_Ra_mix.2.1 0 = .ok (.ldc2_w 324, 3) := by decide +kernel
theorem d_Ra_mix_3 : decode m_Ra_mix.2.1 3 = .ok (.lload_n 0, 1) := by decide +kernel
theorem d_Ra_mix_4 : decode m_Ra_mix.2.1 4 = .ok (.lmul, 1) := by decide +kernel
theorem d_Ra_mix_5 : decode m_Ra_mix.2.1 5 = .ok (.lload_n 2, 1) := by decide +kernel
theorem d_Ra_mix_6 : decode m_Ra_mix.2.1 6 = .ok (.ladd, 1) := by decide +kernel
theorem d_Ra_mix_7 : decode m_Ra_mix.2.1 7 = .ok (.lreturn, 1) := by decide +kernel
theorem d_Ra_hasPlate_0 : decode m_Ra_hasPlate.2.1 0 = .ok (.aload_n 0, 1) := by decide +kernel
theorem d_Ra_hasPlate_1 : decode m_Ra_hasPlate.2.1 1 = .ok (.getfield 19, 3) := by decide +kernel
theorem d_Ra_hasPlate_4 : decode m_Ra_hasPlate.2.1 4 = .ok (.getfield 140, 3) := by decide +kernel
theorem d_Ra_hasPlate_7 : decode m_Ra_hasPlate.2.1 7 = .ok (.ifCond .le 7, 3) := by decide +kernel
theorem d_Ra_hasPlate_10 : decode m_Ra_hasPlate.2.1 10 = .ok (.iconst 1, 1) := by decide +kernel
theorem d_Ra_hasPlate_11 : decode m_Ra_hasPlate.2.1 11 = .ok (.goto 4, 3) := by decide +kernel
theorem d_Ra_hasPlate_14 : decode m_Ra_hasPlate.2.1 14 = .ok (.iconst 0, 1) := by decide +kernel
theorem d_Ra_hasPlate_15 : decode m_Ra_hasPlate.2.1 15 = .ok (.ireturn, 1) := by decide +kernel
theorem d_Ra_isKind_0 : decode m_Ra_isKind.2.1 0 = .ok (.iload_n 0, 1) := by decide +kernel
theorem d_Ra_isKind_1 : decode m_Ra_isKind.2.1 1 = .ok (.ifCond .lt 12, 3) := by decide +kernel
theorem d_Ra_isKind_4 : decode m_Ra_isKind.2.1 4 = .ok (.iload_n 0, 1) := by decide +kernel
theorem d_Ra_isKind_5 : decode m_Ra_isKind.2.1 5 = .ok (.iconst 5, 1) := by decide +kernel
theorem d_Ra_isKind_6 : decode m_Ra_isKind.2.1 6 = .ok (.if_icmp .ge 7, 3) := by decide +kernel
theorem d_Ra_isKind_9 : decode m_Ra_isKind.2.1 9 = .ok (.iconst 1, 1) := by decide +kernel
theorem d_Ra_isKind_10 : decode m_Ra_isKind.2.1 10 = .ok (.goto 4, 3) := by decide +kernel
theorem d_Ra_isKind_13 : decode m_Ra_isKind.2.1 13 = .ok (.iconst 0, 1) := by decide +kernel
theorem d_Ra_isKind_14 : decode m_Ra_isKind.2.1 14 = .ok (.ireturn, 1) := by decide +kernel
theorem d_Ra_policyOf_0 : decode m_Ra_policyOf.2.1 0 = .ok (.iload_n 1, 1) := by decide +kernel
theorem d_Ra_policyOf_1 : decode m_Ra_policyOf.2.1 1 = .ok (.ifCond .lt 12, 3) := by decide +kernel
theorem d_Ra_policyOf_4 : decode m_Ra_policyOf.2.1 4 = .ok (.iload_n 1, 1) := by decide +kernel
theorem d_Ra_policyOf_5 : decode m_Ra_policyOf.2.1 5 = .ok (.aload_n 0, 1) := by decide +kernel
theorem d_Ra_policyOf_6 : decode m_Ra_policyOf.2.1 6 = .ok (.getfield 61, 3) := by decide +kernel
theorem d_Ra_policyOf_9 : decode m_Ra_policyOf.2.1 9 = .ok (.arraylength, 1) := by decide +kernel
theorem d_Ra_policyOf_10 : decode m_Ra_policyOf.2.1 10 = .ok (.if_icmp .lt 8, 3) := by decide +kernel
theorem d_Ra_policyOf_13 : decode m_Ra_policyOf.2.1 13 = .ok (.aload_n 0, 1) := by decide +kernel
theorem d_Ra_policyOf_14 : decode m_Ra_policyOf.2.1 14 = .ok (.getfield 65, 3) := by decide +kernel
theorem d_Ra_policyOf_17 : decode m_Ra_policyOf.2.1 17 = .ok (.areturn, 1) := by decide +kernel
theorem d_Ra_policyOf_18 : decode m_Ra_policyOf.2.1 18 = .ok (.aload_n 0, 1) := by decide +kernel
theorem d_Ra_policyOf_19 : decode m_Ra_policyOf.2.1 19 = .ok (.getfield 61, 3) := by decide +kernel
theorem d_Ra_policyOf_22 : decode m_Ra_policyOf.2.1 22 = .ok (.iload_n 1, 1) := by decide +kernel
theorem d_Ra_policyOf_23 : decode m_Ra_policyOf.2.1 23 = .ok (.aaload, 1) := by decide +kernel
theorem d_Ra_policyOf_24 : decode m_Ra_policyOf.2.1 24 = .ok (.astore_n 2, 1) := by decide +kernel
theorem d_Ra_policyOf_25 : decode m_Ra_policyOf.2.1 25 = .ok (.aload_n 2, 1) := by decide +kernel
theorem d_Ra_policyOf_26 : decode m_Ra_policyOf.2.1 26 = .ok (.ifnonnull 10, 3) := by decide +kernel
theorem d_Ra_policyOf_29 : decode m_Ra_policyOf.2.1 29 = .ok (.aload_n 0, 1) := by decide +kernel
theorem d_Ra_policyOf_30 : decode m_Ra_policyOf.2.1 30 = .ok (.getfield 65, 3) := by decide +kernel
theorem d_Ra_policyOf_33 : decode m_Ra_policyOf.2.1 33 = .ok (.goto 4, 3) := by decide +kernel
theorem d_Ra_policyOf_36 : decode m_Ra_policyOf.2.1 36 = .ok (.aload_n 2, 1) := by decide +kernel
theorem d_Ra_policyOf_37 : decode m_Ra_policyOf.2.1 37 = .ok (.areturn, 1) := by decide +kernel
theorem d_Ra_isOf_0 : decode m_Ra_isOf.2.1 0 = .ok (.iload_n 1, 1) := by decide +kernel
theorem d_Ra_isOf_1 : decode m_Ra_isOf.2.1 1 = .ok (.tableswitch 57 0 4 #[35, 37, 42, 47, 52], 35) := by decide +kernel
theorem d_Ra_isOf_36 : decode m_Ra_isOf.2.1 36 = .ok (.iconst 1, 1) := by decide +kernel
theorem d_Ra_isOf_37 : decode m_Ra_isOf.2.1 37 = .ok (.ireturn, 1) := by decide +kernel
theorem d_Ra_isOf_38 : decode m_Ra_isOf.2.1 38 = .ok (.aload_n 0, 1) := by decide +kernel
theorem d_Ra_isOf_39 : decode m_Ra_isOf.2.1 39 = .ok (.instanceof 49, 3) := by decide +kernel
theorem d_Ra_isOf_42 : decode m_Ra_isOf.2.1 42 = .ok (.ireturn, 1) := by decide +kernel
theorem d_Ra_isOf_43 : decode m_Ra_isOf.2.1 43 = .ok (.aload_n 0, 1) := by decide +kernel
theorem d_Ra_isOf_44 : decode m_Ra_isOf.2.1 44 = .ok (.instanceof 52, 3) := by decide +kernel
theorem d_Ra_isOf_47 : decode m_Ra_isOf.2.1 47 = .ok (.ireturn, 1) := by decide +kernel
theorem d_Ra_isOf_48 : decode m_Ra_isOf.2.1 48 = .ok (.aload_n 0, 1) := by decide +kernel
theorem d_Ra_isOf_49 : decode m_Ra_isOf.2.1 49 = .ok (.instanceof 55, 3) := by decide +kernel
theorem d_Ra_isOf_52 : decode m_Ra_isOf.2.1 52 = .ok (.ireturn, 1) := by decide +kernel
theorem d_Ra_isOf_53 : decode m_Ra_isOf.2.1 53 = .ok (.aload_n 0, 1) := by decide +kernel
theorem d_Ra_isOf_54 : decode m_Ra_isOf.2.1 54 = .ok (.instanceof 58, 3) := by decide +kernel
theorem d_Ra_isOf_57 : decode m_Ra_isOf.2.1 57 = .ok (.ireturn, 1) := by decide +kernel
theorem d_Ra_isOf_58 : decode m_Ra_isOf.2.1 58 = .ok (.iconst 0, 1) := by decide +kernel
theorem d_Ra_isOf_59 : decode m_Ra_isOf.2.1 59 = .ok (.ireturn, 1) := by decide +kernel
theorem d_Ra_playDays_0 : decode m_Ra_playDays.2.1 0 = .ok (.aload_n 0, 1) := by decide +kernel
theorem d_Ra_playDays_1 : decode m_Ra_playDays.2.1 1 = .ok (.getfield 88, 3) := by decide +kernel
theorem d_Ra_playDays_4 : decode m_Ra_playDays.2.1 4 = .ok (.aload_n 0, 1) := by decide +kernel
theorem d_Ra_playDays_5 : decode m_Ra_playDays.2.1 5 = .ok (.getfield 28, 3) := by decide +kernel
theorem d_Ra_playDays_8 : decode m_Ra_playDays.2.1 8 = .ok (.invokevirtual 222, 3) := by decide +kernel
set_option maxRecDepth 100000 in
theorem s_Ra_playDays_8 {G : r_X} {n : Nat} {h : r_HI} {g : r_HR} {z : r_HL} {k : Nat} {v0 : Value} (hp : r_pk k = (0, 0)) (hk : k < n) : r_cl G m_Ra_playDays m_Dk_copyFrom 8 (.ref (G.2.1 + k) :: [v0]) n h g z := r_clV d_Ra_playDays_8 w_Dk_copyFrom (r_in 539 rfl rfl) a_Dk_copyFrom (r_in 541 rfl rfl) n_Dk (by decide +kernel : r_mh m_Dk_copyFrom.1 1) hp hk (by decide)
theorem d_Ra_playDays_11 : decode m_Ra_playDays.2.1 11 = .ok (.aload_n 0, 1) := by decide +kernel
theorem d_Ra_playDays_12 : decode m_Ra_playDays.2.1 12 = .ok (.getfield 88, 3) := by decide +kernel
theorem d_Ra_playDays_15 : decode m_Ra_playDays.2.1 15 = .ok (.iconst 0, 1) := by decide +kernel
theorem d_Ra_playDays_16 : decode m_Ra_playDays.2.1 16 = .ok (.putfield 197, 3) := by decide +kernel
theorem d_Ra_playDays_19 : decode m_Ra_playDays.2.1 19 = .ok (.iload_n 2, 1) := by decide +kernel
theorem d_Ra_playDays_20 : decode m_Ra_playDays.2.1 20 = .ok (.istore_n 3, 1) := by decide +kernel
theorem d_Ra_playDays_21 : decode m_Ra_playDays.2.1 21 = .ok (.iconst 0, 1) := by decide +kernel
theorem d_Ra_playDays_22 : decode m_Ra_playDays.2.1 22 = .ok (.istore 4, 2) := by decide +kernel
theorem d_Ra_playDays_24 : decode m_Ra_playDays.2.1 24 = .ok (.iload 4, 2) := by decide +kernel
theorem d_Ra_playDays_26 : decode m_Ra_playDays.2.1 26 = .ok (.iload_n 1, 1) := by decide +kernel
theorem d_Ra_playDays_27 : decode m_Ra_playDays.2.1 27 = .ok (.if_icmp .ge 91, 3) := by decide +kernel
theorem d_Ra_playDays_30 : decode m_Ra_playDays.2.1 30 = .ok (.iload_n 3, 1) := by decide +kernel
theorem d_Ra_playDays_31 : decode m_Ra_playDays.2.1 31 = .ok (.invokestatic 326, 3) := by decide +kernel
set_option maxRecDepth 100000 in
theorem s_Ra_playDays_31 {G : r_X} {n : Nat} {h : r_HI} {g : r_HR} {z : r_HL} {v0 : Value} : r_cl G m_Ra_playDays m_Ra_nextSeed 31 [v0] n h g z := r_clS d_Ra_playDays_31 w_Ra_nextSeed (r_in 675 rfl rfl) a_Ra_nextSeed n_Ra (by decide +kernel : r_mh m_Ra_nextSeed.1 1)
theorem d_Ra_playDays_34 : decode m_Ra_playDays.2.1 34 = .ok (.istore_n 3, 1) := by decide +kernel
theorem d_Ra_playDays_35 : decode m_Ra_playDays.2.1 35 = .ok (.iload_n 3, 1) := by decide +kernel
theorem d_Ra_playDays_36 : decode m_Ra_playDays.2.1 36 = .ok (.aload_n 0, 1) := by decide +kernel
theorem d_Ra_playDays_37 : decode m_Ra_playDays.2.1 37 = .ok (.getfield 19, 3) := by decide +kernel
theorem d_Ra_playDays_40 : decode m_Ra_playDays.2.1 40 = .ok (.getfield 140, 3) := by decide +kernel
theorem d_Ra_playDays_43 : decode m_Ra_playDays.2.1 43 = .ok (.invokestatic 329, 3) := by decide +kernel
set_option maxRecDepth 100000 in
theorem s_Ra_playDays_43 {G : r_X} {n : Nat} {h : r_HI} {g : r_HR} {z : r_HL} {v0 v1 : Value} : r_cl G m_Ra_playDays m_Ra_drawn 43 [v0, v1] n h g z := r_clS d_Ra_playDays_43 w_Ra_drawn (r_in 681 rfl rfl) a_Ra_drawn n_Ra (by decide +kernel : r_mh m_Ra_drawn.1 2)
theorem d_Ra_playDays_46 : decode m_Ra_playDays.2.1 46 = .ok (.istore 5, 2) := by decide +kernel
theorem d_Ra_playDays_48 : decode m_Ra_playDays.2.1 48 = .ok (.iload_n 3, 1) := by decide +kernel
theorem d_Ra_playDays_49 : decode m_Ra_playDays.2.1 49 = .ok (.invokestatic 326, 3) := by decide +kernel
set_option maxRecDepth 100000 in
theorem s_Ra_playDays_49 {G : r_X} {n : Nat} {h : r_HI} {g : r_HR} {z : r_HL} {v0 : Value} : r_cl G m_Ra_playDays m_Ra_nextSeed 49 [v0] n h g z := r_clS d_Ra_playDays_49 w_Ra_nextSeed (r_in 675 rfl rfl) a_Ra_nextSeed n_Ra (by decide +kernel : r_mh m_Ra_nextSeed.1 1)
theorem d_Ra_playDays_52 : decode m_Ra_playDays.2.1 52 = .ok (.istore_n 3, 1) := by decide +kernel
theorem d_Ra_playDays_53 : decode m_Ra_playDays.2.1 53 = .ok (.aload_n 0, 1) := by decide +kernel
theorem d_Ra_playDays_54 : decode m_Ra_playDays.2.1 54 = .ok (.getfield 88, 3) := by decide +kernel
theorem d_Ra_playDays_57 : decode m_Ra_playDays.2.1 57 = .ok (.iload 5, 2) := by decide +kernel
theorem d_Ra_playDays_59 : decode m_Ra_playDays.2.1 59 = .ok (.iload_n 3, 1) := by decide +kernel
theorem d_Ra_playDays_60 : decode m_Ra_playDays.2.1 60 = .ok (.aload_n 0, 1) := by decide +kernel
theorem d_Ra_playDays_61 : decode m_Ra_playDays.2.1 61 = .ok (.getfield 19, 3) := by decide +kernel
theorem d_Ra_playDays_64 : decode m_Ra_playDays.2.1 64 = .ok (.getfield 145, 3) := by decide +kernel
theorem d_Ra_playDays_67 : decode m_Ra_playDays.2.1 67 = .ok (.iload 5, 2) := by decide +kernel
theorem d_Ra_playDays_69 : decode m_Ra_playDays.2.1 69 = .ok (.invokestatic 149, 3) := by decide +kernel
set_option maxRecDepth 100000 in
theorem s_Ra_playDays_69 {G : r_X} {n : Nat} {h : r_HI} {g : r_HR} {z : r_HL} {v0 v1 : Value} : r_cl G m_Ra_playDays m_Ra_at 69 [v0, v1] n h g z := r_clS d_Ra_playDays_69 w_Ra_at (r_in 374 rfl rfl) a_Ra_at n_Ra (by decide +kernel : r_mh m_Ra_at.1 2)
theorem d_Ra_playDays_72 : decode m_Ra_playDays.2.1 72 = .ok (.invokestatic 329, 3) := by decide +kernel
set_option maxRecDepth 100000 in
theorem s_Ra_playDays_72 {G : r_X} {n : Nat} {h : r_HI} {g : r_HR} {z : r_HL} {v0 v1 : Value} : r_cl G m_Ra_playDays m_Ra_drawn 72 [v0, v1] n h g z := r_clS d_Ra_playDays_72 w_Ra_drawn (r_in 681 rfl rfl) a_Ra_drawn n_Ra (by decide +kernel : r_mh m_Ra_drawn.1 2)
theorem d_Ra_playDays_75 : decode m_Ra_playDays.2.1 75 = .ok (.invokevirtual 198, 3) := by decide +kernel
set_option maxRecDepth 100000 in
theorem s_Ra_playDays_75 {G : r_X} {n : Nat} {h : r_HI} {g : r_HR} {z : r_HL} {k : Nat} {v0 v1 : Value} (hp : r_pk k = (0, 0)) (hk : k < n) : r_cl G m_Ra_playDays m_Dk_append 75 (.ref (G.2.1 + k) :: [v0, v1]) n h g z := r_clV d_Ra_playDays_75 w_Dk_append (r_in 481 rfl rfl) a_Dk_append (r_in 483 rfl rfl) n_Dk (by decide +kernel : r_mh m_Dk_append.1 2) hp hk (by decide)
theorem d_Ra_playDays_78 : decode m_Ra_playDays.2.1 78 = .ok (.pop, 1) := by decide +kernel
theorem d_Ra_playDays_79 : decode m_Ra_playDays.2.1 79 = .ok (.aload_n 0, 1) := by decide +kernel
theorem d_Ra_playDays_80 : decode m_Ra_playDays.2.1 80 = .ok (.getfield 88, 3) := by decide +kernel
theorem d_Ra_playDays_83 : decode m_Ra_playDays.2.1 83 = .ok (.getfield 197, 3) := by decide +kernel
theorem d_Ra_playDays_86 : decode m_Ra_playDays.2.1 86 = .ok (.iconst 3, 1) := by decide +kernel
theorem d_Ra_playDays_87 : decode m_Ra_playDays.2.1 87 = .ok (.if_icmp .lt 25, 3) := by decide +kernel
theorem d_Ra_playDays_90 : decode m_Ra_playDays.2.1 90 = .ok (.aload_n 0, 1) := by decide +kernel
theorem d_Ra_playDays_91 : decode m_Ra_playDays.2.1 91 = .ok (.getfield 88, 3) := by decide +kernel
theorem d_Ra_playDays_94 : decode m_Ra_playDays.2.1 94 = .ok (.aload_n 0, 1) := by decide +kernel
theorem d_Ra_playDays_95 : decode m_Ra_playDays.2.1 95 = .ok (.getfield 65, 3) := by decide +kernel
theorem d_Ra_playDays_98 : decode m_Ra_playDays.2.1 98 = .ok (.aload_n 0, 1) := by decide +kernel
theorem d_Ra_playDays_99 : decode m_Ra_playDays.2.1 99 = .ok (.getfield 65, 3) := by decide +kernel
theorem d_Ra_playDays_102 : decode m_Ra_playDays.2.1 102 = .ok (.aload_n 0, 1) := by decide +kernel
theorem d_Ra_playDays_103 : decode m_Ra_playDays.2.1 103 = .ok (.getfield 88, 3) := by decide +kernel
theorem d_Ra_playDays_106 : decode m_Ra_playDays.2.1 106 = .ok (.invokevirtual 193, 3) := by decide +kernel
set_option maxRecDepth 100000 in
theorem s_Ra_playDays_106_Fi {G : r_X} {n : Nat} {h : r_HI} {g : r_HR} {z : r_HL} {k : Nat} {v0 : Value} (hp : r_pk k = (0, 2)) (hk : k < n) : r_cl G m_Ra_playDays m_Fi_pick 106 (.ref (G.2.1 + k) :: [v0]) n h g z := r_clU (x := m_Fi_pick.1) (owner := "RingArm$First") (M0 := m_Fi_pick) d_Ra_playDays_106 w_Fi_pick (r_in 439 rfl rfl) (r_in 442 rfl rfl) a_Fi_pick w_Fi_pick rfl a_Fi_pick (r_in 441 rfl rfl) n_Fi ⟨by decide, by decide⟩ (by decide +kernel : r_mh m_Fi_pick.1 1) hp hk (by decide)
set_option maxRecDepth 100000 in
theorem s_Ra_playDays_106_Ne {G : r_X} {n : Nat} {h : r_HI} {g : r_HR} {z : r_HL} {k : Nat} {v0 : Value} (hp : r_pk k = (0, 3)) (hk : k < n) : r_cl G m_Ra_playDays m_Fi_pick 106 (.ref (G.2.1 + k) :: [v0]) n h g z := r_clU (x := m_Fi_pick.1) (owner := "RingArm$First") (M0 := m_Fi_pick) d_Ra_playDays_106 w_Fi_pick (r_in 439 rfl rfl) (r_in 442 rfl rfl) a_Fi_pick w_Fi_pick rfl a_Fi_pick (r_in 443 rfl rfl) n_Fi ⟨by decide, by decide⟩ (by decide +kernel : r_mh m_Fi_pick.1 1) hp hk (by decide)
set_option maxRecDepth 100000 in
theorem s_Ra_playDays_106_Sw {G : r_X} {n : Nat} {h : r_HI} {g : r_HR} {z : r_HL} {k : Nat} {v0 : Value} (hp : r_pk k = (0, 9)) (hk : k < n) : r_cl G m_Ra_playDays m_Fi_pick 106 (.ref (G.2.1 + k) :: [v0]) n h g z := r_clU (x := m_Fi_pick.1) (owner := "RingArm$First") (M0 := m_Fi_pick) d_Ra_playDays_106 w_Fi_pick (r_in 439 rfl rfl) (r_in 442 rfl rfl) a_Fi_pick w_Fi_pick rfl a_Fi_pick (r_in 446 rfl rfl) n_Fi ⟨by decide, by decide⟩ (by decide +kernel : r_mh m_Fi_pick.1 1) hp hk (by decide)
set_option maxRecDepth 100000 in
theorem s_Ra_playDays_106_Ro {G : r_X} {n : Nat} {h : r_HI} {g : r_HR} {z : r_HL} {k : Nat} {v0 : Value} (hp : r_pk k = (0, 6)) (hk : k < n) : r_cl G m_Ra_playDays m_Fi_pick 106 (.ref (G.2.1 + k) :: [v0]) n h g z := r_clU (x := m_Fi_pick.1) (owner := "RingArm$First") (M0 := m_Fi_pick) d_Ra_playDays_106 w_Fi_pick (r_in 439 rfl rfl) (r_in 442 rfl rfl) a_Fi_pick w_Fi_pick rfl a_Fi_pick (r_in 444 rfl rfl) n_Fi ⟨by decide, by decide⟩ (by decide +kernel : r_mh m_Fi_pick.1 1) hp hk (by decide)
set_option maxRecDepth 100000 in
theorem s_Ra_playDays_106_So {G : r_X} {n : Nat} {h : r_HI} {g : r_HR} {z : r_HL} {k : Nat} {v0 : Value} (hp : r_pk k = (0, 8)) (hk : k < n) : r_cl G m_Ra_playDays m_Fi_pick 106 (.ref (G.2.1 + k) :: [v0]) n h g z := r_clU (x := m_Fi_pick.1) (owner := "RingArm$First") (M0 := m_Fi_pick) d_Ra_playDays_106 w_Fi_pick (r_in 439 rfl rfl) (r_in 442 rfl rfl) a_Fi_pick w_Fi_pick rfl a_Fi_pick (r_in 445 rfl rfl) n_Fi ⟨by decide, by decide⟩ (by decide +kernel : r_mh m_Fi_pick.1 1) hp hk (by decide)
theorem d_Ra_playDays_109 : decode m_Ra_playDays.2.1 109 = .ok (.invokevirtual 201, 3) := by decide +kernel
set_option maxRecDepth 100000 in
theorem s_Ra_playDays_109 {G : r_X} {n : Nat} {h : r_HI} {g : r_HR} {z : r_HL} {k : Nat} {v0 v1 : Value} (hp : r_pk k = (0, 0)) (hk : k < n) : r_cl G m_Ra_playDays m_Dk_follow 109 (.ref (G.2.1 + k) :: [v0, v1]) n h g z := r_clV d_Ra_playDays_109 w_Dk_follow (r_in 491 rfl rfl) a_Dk_follow (r_in 493 rfl rfl) n_Dk (by decide +kernel : r_mh m_Dk_follow.1 2) hp hk (by decide)
theorem d_Ra_playDays_112 : decode m_Ra_playDays.2.1 112 = .ok (.iinc 4 1, 3) := by decide +kernel
theorem d_Ra_playDays_115 : decode m_Ra_playDays.2.1 115 = .ok (.goto (-91), 3) := by decide +kernel
theorem d_Ra_playDays_118 : decode m_Ra_playDays.2.1 118 = .ok (.aload_n 0, 1) := by decide +kernel
theorem d_Ra_playDays_119 : decode m_Ra_playDays.2.1 119 = .ok (.getfield 88, 3) := by decide +kernel
theorem d_Ra_playDays_122 : decode m_Ra_playDays.2.1 122 = .ok (.aload_n 0, 1) := by decide +kernel
theorem d_Ra_playDays_123 : decode m_Ra_playDays.2.1 123 = .ok (.getfield 65, 3) := by decide +kernel
theorem d_Ra_playDays_126 : decode m_Ra_playDays.2.1 126 = .ok (.invokevirtual 226, 3) := by decide +kernel
set_option maxRecDepth 100000 in
theorem s_Ra_playDays_126 {G : r_X} {n : Nat} {h : r_HI} {g : r_HR} {z : r_HL} {k : Nat} {v0 : Value} (hp : r_pk k = (0, 0)) (hk : k < n) : r_cl G m_Ra_playDays m_Dk_followAll 126 (.ref (G.2.1 + k) :: [v0]) n h g z := r_clV d_Ra_playDays_126 w_Dk_followAll (r_in 546 rfl rfl) a_Dk_followAll (r_in 548 rfl rfl) n_Dk (by decide +kernel : r_mh m_Dk_followAll.1 1) hp hk (by decide)
theorem d_Ra_playDays_129 : decode m_Ra_playDays.2.1 129 = .ok (.iload_n 3, 1) := by decide +kernel
theorem d_Ra_playDays_130 : decode m_Ra_playDays.2.1 130 = .ok (.ireturn, 1) := by decide +kernel
theorem d_Ra_nextSeed_0 : decode m_Ra_nextSeed.2.1 0 = .ok (.ldc2_w 332, 3) := by decide +kernel
theorem d_Ra_nextSeed_3 : decode m_Ra_nextSeed.2.1 3 = .ok (.iload_n 0, 1) := by decide +kernel
theorem d_Ra_nextSeed_4 : decode m_Ra_nextSeed.2.1 4 = .ok (.i2l, 1) := by decide +kernel
theorem d_Ra_nextSeed_5 : decode m_Ra_nextSeed.2.1 5 = .ok (.lmul, 1) := by decide +kernel
theorem d_Ra_nextSeed_6 : decode m_Ra_nextSeed.2.1 6 = .ok (.ldc2_w 334, 3) := by decide +kernel
theorem d_Ra_nextSeed_9 : decode m_Ra_nextSeed.2.1 9 = .ok (.ladd, 1) := by decide +kernel
theorem d_Ra_nextSeed_10 : decode m_Ra_nextSeed.2.1 10 = .ok (.ldc2_w 336, 3) := by decide +kernel
theorem d_Ra_nextSeed_13 : decode m_Ra_nextSeed.2.1 13 = .ok (.land, 1) := by decide +kernel
theorem d_Ra_nextSeed_14 : decode m_Ra_nextSeed.2.1 14 = .ok (.l2i, 1) := by decide +kernel
theorem d_Ra_nextSeed_15 : decode m_Ra_nextSeed.2.1 15 = .ok (.ireturn, 1) := by decide +kernel
theorem d_Ra_drawn_0 : decode m_Ra_drawn.2.1 0 = .ok (.iload_n 1, 1) := by decide +kernel
theorem d_Ra_drawn_1 : decode m_Ra_drawn.2.1 1 = .ok (.ifCond .le 13, 3) := by decide +kernel
theorem d_Ra_drawn_4 : decode m_Ra_drawn.2.1 4 = .ok (.iload_n 0, 1) := by decide +kernel
theorem d_Ra_drawn_5 : decode m_Ra_drawn.2.1 5 = .ok (.ldc_w 338, 3) := by decide +kernel
theorem d_Ra_drawn_8 : decode m_Ra_drawn.2.1 8 = .ok (.idiv, 1) := by decide +kernel
theorem d_Ra_drawn_9 : decode m_Ra_drawn.2.1 9 = .ok (.iload_n 1, 1) := by decide +kernel
theorem d_Ra_drawn_10 : decode m_Ra_drawn.2.1 10 = .ok (.irem, 1) := by decide +kernel
theorem d_Ra_drawn_11 : decode m_Ra_drawn.2.1 11 = .ok (.goto 4, 3) := by decide +kernel
theorem d_Ra_drawn_14 : decode m_Ra_drawn.2.1 14 = .ok (.iconst 0, 1) := by decide +kernel
theorem d_Ra_drawn_15 : decode m_Ra_drawn.2.1 15 = .ok (.ireturn, 1) := by decide +kernel
theorem d_Ra_bestTry_0 : decode m_Ra_bestTry.2.1 0 = .ok (.iconst (-1), 1) := by decide +kernel
theorem d_Ra_bestTry_1 : decode m_Ra_bestTry.2.1 1 = .ok (.istore_n 1, 1) := by decide +kernel
theorem d_Ra_bestTry_2 : decode m_Ra_bestTry.2.1 2 = .ok (.bipush 10, 2) := by decide +kernel
theorem d_Ra_bestTry_4 : decode m_Ra_bestTry.2.1 4 = .ok (.istore_n 2, 1) := by decide +kernel
theorem d_Ra_bestTry_5 : decode m_Ra_bestTry.2.1 5 = .ok (.iconst 1, 1) := by decide +kernel
theorem d_Ra_bestTry_6 : decode m_Ra_bestTry.2.1 6 = .ok (.istore_n 3, 1) := by decide +kernel
theorem d_Ra_bestTry_7 : decode m_Ra_bestTry.2.1 7 = .ok (.iload_n 3, 1) := by decide +kernel
theorem d_Ra_bestTry_8 : decode m_Ra_bestTry.2.1 8 = .ok (.bipush 9, 2) := by decide +kernel
theorem d_Ra_bestTry_10 : decode m_Ra_bestTry.2.1 10 = .ok (.if_icmp .gt 31, 3) := by decide +kernel
theorem d_Ra_bestTry_13 : decode m_Ra_bestTry.2.1 13 = .ok (.iload_n 0, 1) := by decide +kernel
theorem d_Ra_bestTry_14 : decode m_Ra_bestTry.2.1 14 = .ok (.ifCond .eq 27, 3) := by decide +kernel
theorem d_Ra_bestTry_17 : decode m_Ra_bestTry.2.1 17 = .ok (.iload_n 0, 1) := by decide +kernel
theorem d_Ra_bestTry_18 : decode m_Ra_bestTry.2.1 18 = .ok (.iload_n 3, 1) := by decide +kernel
theorem d_Ra_bestTry_19 : decode m_Ra_bestTry.2.1 19 = .ok (.invokestatic 339, 3) := by decide +kernel
set_option maxRecDepth 100000 in
theorem s_Ra_bestTry_19 {G : r_X} {n : Nat} {h : r_HI} {g : r_HR} {z : r_HL} {v0 v1 : Value} : r_cl G m_Ra_bestTry m_Ra_worstLeft 19 [v0, v1] n h g z := r_clS d_Ra_bestTry_19 w_Ra_worstLeft (r_in 659 rfl rfl) a_Ra_worstLeft n_Ra (by decide +kernel : r_mh m_Ra_worstLeft.1 2)
theorem d_Ra_bestTry_22 : decode m_Ra_bestTry.2.1 22 = .ok (.istore 4, 2) := by decide +kernel
theorem d_Ra_bestTry_24 : decode m_Ra_bestTry.2.1 24 = .ok (.iload 4, 2) := by decide +kernel
theorem d_Ra_bestTry_26 : decode m_Ra_bestTry.2.1 26 = .ok (.iload_n 2, 1) := by decide +kernel
theorem d_Ra_bestTry_27 : decode m_Ra_bestTry.2.1 27 = .ok (.if_icmp .ge 8, 3) := by decide +kernel
theorem d_Ra_bestTry_30 : decode m_Ra_bestTry.2.1 30 = .ok (.iload 4, 2) := by decide +kernel
theorem d_Ra_bestTry_32 : decode m_Ra_bestTry.2.1 32 = .ok (.istore_n 2, 1) := by decide +kernel
theorem d_Ra_bestTry_33 : decode m_Ra_bestTry.2.1 33 = .ok (.iload_n 3, 1) := by decide +kernel
theorem d_Ra_bestTry_34 : decode m_Ra_bestTry.2.1 34 = .ok (.istore_n 1, 1) := by decide +kernel
theorem d_Ra_bestTry_35 : decode m_Ra_bestTry.2.1 35 = .ok (.iinc 3 1, 3) := by decide +kernel
theorem d_Ra_bestTry_38 : decode m_Ra_bestTry.2.1 38 = .ok (.goto (-31), 3) := by decide +kernel
theorem d_Ra_bestTry_41 : decode m_Ra_bestTry.2.1 41 = .ok (.iload_n 1, 1) := by decide +kernel
theorem d_Ra_bestTry_42 : decode m_Ra_bestTry.2.1 42 = .ok (.ireturn, 1) := by decide +kernel
theorem d_Ra_worstLeft_0 : decode m_Ra_worstLeft.2.1 0 = .ok (.iconst 0, 1) := by decide +kernel
theorem d_Ra_worstLeft_1 : decode m_Ra_worstLeft.2.1 1 = .ok (.istore_n 2, 1) := by decide +kernel
theorem d_Ra_worstLeft_2 : decode m_Ra_worstLeft.2.1 2 = .ok (.iconst 1, 1) := by decide +kernel
theorem d_Ra_worstLeft_3 : decode m_Ra_worstLeft.2.1 3 = .ok (.istore_n 3, 1) := by decide +kernel
theorem d_Ra_worstLeft_4 : decode m_Ra_worstLeft.2.1 4 = .ok (.iload_n 3, 1) := by decide +kernel
theorem d_Ra_worstLeft_5 : decode m_Ra_worstLeft.2.1 5 = .ok (.bipush 9, 2) := by decide +kernel
theorem d_Ra_worstLeft_7 : decode m_Ra_worstLeft.2.1 7 = .ok (.if_icmp .gt 75, 3) := by decide +kernel
theorem d_Ra_worstLeft_10 : decode m_Ra_worstLeft.2.1 10 = .ok (.iload_n 0, 1) := by decide +kernel
theorem d_Ra_worstLeft_11 : decode m_Ra_worstLeft.2.1 11 = .ok (.iload_n 3, 1) := by decide +kernel
theorem d_Ra_worstLeft_12 : decode m_Ra_worstLeft.2.1 12 = .ok (.iconst 1, 1) := by decide +kernel
theorem d_Ra_worstLeft_13 : decode m_Ra_worstLeft.2.1 13 = .ok (.isub, 1) := by decide +kernel
theorem d_Ra_worstLeft_14 : decode m_Ra_worstLeft.2.1 14 = .ok (.invokestatic 342, 3) := by decide +kernel
set_option maxRecDepth 100000 in
theorem s_Ra_worstLeft_14 {G : r_X} {n : Nat} {h : r_HI} {g : r_HR} {z : r_HL} {v0 v1 : Value} : r_cl G m_Ra_worstLeft m_Ra_hasBit 14 [v0, v1] n h g z := r_clS d_Ra_worstLeft_14 w_Ra_hasBit (r_in 662 rfl rfl) a_Ra_hasBit n_Ra (by decide +kernel : r_mh m_Ra_hasBit.1 2)
theorem d_Ra_worstLeft_17 : decode m_Ra_worstLeft.2.1 17 = .ok (.ifCond .ne 6, 3) := by decide +kernel
theorem d_Ra_worstLeft_20 : decode m_Ra_worstLeft.2.1 20 = .ok (.goto 56, 3) := by decide +kernel
theorem d_Ra_worstLeft_23 : decode m_Ra_worstLeft.2.1 23 = .ok (.iconst 0, 1) := by decide +kernel
theorem d_Ra_worstLeft_24 : decode m_Ra_worstLeft.2.1 24 = .ok (.istore 4, 2) := by decide +kernel
theorem d_Ra_worstLeft_26 : decode m_Ra_worstLeft.2.1 26 = .ok (.iconst 1, 1) := by decide +kernel
theorem d_Ra_worstLeft_27 : decode m_Ra_worstLeft.2.1 27 = .ok (.istore 5, 2) := by decide +kernel
theorem d_Ra_worstLeft_29 : decode m_Ra_worstLeft.2.1 29 = .ok (.iload 5, 2) := by decide +kernel
theorem d_Ra_worstLeft_31 : decode m_Ra_worstLeft.2.1 31 = .ok (.bipush 9, 2) := by decide +kernel
theorem d_Ra_worstLeft_33 : decode m_Ra_worstLeft.2.1 33 = .ok (.if_icmp .gt 36, 3) := by decide +kernel
theorem d_Ra_worstLeft_36 : decode m_Ra_worstLeft.2.1 36 = .ok (.iload_n 0, 1) := by decide +kernel
theorem d_Ra_worstLeft_37 : decode m_Ra_worstLeft.2.1 37 = .ok (.iload 5, 2) := by decide +kernel
theorem d_Ra_worstLeft_39 : decode m_Ra_worstLeft.2.1 39 = .ok (.iconst 1, 1) := by decide +kernel
theorem d_Ra_worstLeft_40 : decode m_Ra_worstLeft.2.1 40 = .ok (.isub, 1) := by decide +kernel
theorem d_Ra_worstLeft_41 : decode m_Ra_worstLeft.2.1 41 = .ok (.invokestatic 342, 3) := by decide +kernel
set_option maxRecDepth 100000 in
theorem s_Ra_worstLeft_41 {G : r_X} {n : Nat} {h : r_HI} {g : r_HR} {z : r_HL} {v0 v1 : Value} : r_cl G m_Ra_worstLeft m_Ra_hasBit 41 [v0, v1] n h g z := r_clS d_Ra_worstLeft_41 w_Ra_hasBit (r_in 662 rfl rfl) a_Ra_hasBit n_Ra (by decide +kernel : r_mh m_Ra_hasBit.1 2)
theorem d_Ra_worstLeft_44 : decode m_Ra_worstLeft.2.1 44 = .ok (.ifCond .eq 19, 3) := by decide +kernel
theorem d_Ra_worstLeft_47 : decode m_Ra_worstLeft.2.1 47 = .ok (.iload 5, 2) := by decide +kernel
theorem d_Ra_worstLeft_49 : decode m_Ra_worstLeft.2.1 49 = .ok (.iload_n 3, 1) := by decide +kernel
theorem d_Ra_worstLeft_50 : decode m_Ra_worstLeft.2.1 50 = .ok (.isub, 1) := by decide +kernel
theorem d_Ra_worstLeft_51 : decode m_Ra_worstLeft.2.1 51 = .ok (.invokestatic 346, 3) := by decide +kernel
set_option maxRecDepth 100000 in
theorem s_Ra_worstLeft_51 {G : r_X} {n : Nat} {h : r_HI} {g : r_HR} {z : r_HL} {v0 : Value} : r_cl G m_Ra_worstLeft m_Jm_abs 51 [v0] n h g z := r_clS d_Ra_worstLeft_51 w_Jm_abs (r_in 663 rfl rfl) a_Jm_abs n_Jm (by decide +kernel : r_mh m_Jm_abs.1 1)
theorem d_Ra_worstLeft_54 : decode m_Ra_worstLeft.2.1 54 = .ok (.iload_n 1, 1) := by decide +kernel
theorem d_Ra_worstLeft_55 : decode m_Ra_worstLeft.2.1 55 = .ok (.imul, 1) := by decide +kernel
theorem d_Ra_worstLeft_56 : decode m_Ra_worstLeft.2.1 56 = .ok (.iconst 1, 1) := by decide +kernel
theorem d_Ra_worstLeft_57 : decode m_Ra_worstLeft.2.1 57 = .ok (.if_icmp .gt 6, 3) := by decide +kernel
theorem d_Ra_worstLeft_60 : decode m_Ra_worstLeft.2.1 60 = .ok (.iinc 4 1, 3) := by decide +kernel
theorem d_Ra_worstLeft_63 : decode m_Ra_worstLeft.2.1 63 = .ok (.iinc 5 1, 3) := by decide +kernel
theorem d_Ra_worstLeft_66 : decode m_Ra_worstLeft.2.1 66 = .ok (.goto (-37), 3) := by decide +kernel
theorem d_Ra_worstLeft_69 : decode m_Ra_worstLeft.2.1 69 = .ok (.iload_n 2, 1) := by decide +kernel
theorem d_Ra_worstLeft_70 : decode m_Ra_worstLeft.2.1 70 = .ok (.iload 4, 2) := by decide +kernel
theorem d_Ra_worstLeft_72 : decode m_Ra_worstLeft.2.1 72 = .ok (.invokestatic 349, 3) := by decide +kernel
set_option maxRecDepth 100000 in
theorem s_Ra_worstLeft_72 {G : r_X} {n : Nat} {h : r_HI} {g : r_HR} {z : r_HL} {v0 v1 : Value} : r_cl G m_Ra_worstLeft m_Jm_max 72 [v0, v1] n h g z := r_clS d_Ra_worstLeft_72 w_Jm_max (r_in 664 rfl rfl) a_Jm_max n_Jm (by decide +kernel : r_mh m_Jm_max.1 2)
theorem d_Ra_worstLeft_75 : decode m_Ra_worstLeft.2.1 75 = .ok (.istore_n 2, 1) := by decide +kernel
theorem d_Ra_worstLeft_76 : decode m_Ra_worstLeft.2.1 76 = .ok (.iinc 3 1, 3) := by decide +kernel
theorem d_Ra_worstLeft_79 : decode m_Ra_worstLeft.2.1 79 = .ok (.goto (-75), 3) := by decide +kernel
theorem d_Ra_worstLeft_82 : decode m_Ra_worstLeft.2.1 82 = .ok (.iload_n 2, 1) := by decide +kernel
theorem d_Ra_worstLeft_83 : decode m_Ra_worstLeft.2.1 83 = .ok (.ireturn, 1) := by decide +kernel
theorem d_Ra_hasBit_0 : decode m_Ra_hasBit.2.1 0 = .ok (.iload_n 0, 1) := by decide +kernel
theorem d_Ra_hasBit_1 : decode m_Ra_hasBit.2.1 1 = .ok (.iload_n 1, 1) := by decide +kernel
theorem d_Ra_hasBit_2 : decode m_Ra_hasBit.2.1 2 = .ok (.ishr, 1) := by decide +kernel
theorem d_Ra_hasBit_3 : decode m_Ra_hasBit.2.1 3 = .ok (.iconst 1, 1) := by decide +kernel
theorem d_Ra_hasBit_4 : decode m_Ra_hasBit.2.1 4 = .ok (.iand, 1) := by decide +kernel
theorem d_Ra_hasBit_5 : decode m_Ra_hasBit.2.1 5 = .ok (.ifCond .eq 7, 3) := by decide +kernel
theorem d_Ra_hasBit_8 : decode m_Ra_hasBit.2.1 8 = .ok (.iconst 1, 1) := by decide +kernel
theorem d_Ra_hasBit_9 : decode m_Ra_hasBit.2.1 9 = .ok (.goto 4, 3) := by decide +kernel
theorem d_Ra_hasBit_12 : decode m_Ra_hasBit.2.1 12 = .ok (.iconst 0, 1) := by decide +kernel
theorem d_Ra_hasBit_13 : decode m_Ra_hasBit.2.1 13 = .ok (.ireturn, 1) := by decide +kernel
theorem d_Ra_at_0 : decode m_Ra_at.2.1 0 = .ok (.iload_n 1, 1) := by decide +kernel
theorem d_Ra_at_1 : decode m_Ra_at.2.1 1 = .ok (.ifCond .lt 15, 3) := by decide +kernel
theorem d_Ra_at_4 : decode m_Ra_at.2.1 4 = .ok (.iload_n 1, 1) := by decide +kernel
theorem d_Ra_at_5 : decode m_Ra_at.2.1 5 = .ok (.aload_n 0, 1) := by decide +kernel
theorem d_Ra_at_6 : decode m_Ra_at.2.1 6 = .ok (.arraylength, 1) := by decide +kernel
theorem d_Ra_at_7 : decode m_Ra_at.2.1 7 = .ok (.if_icmp .ge 9, 3) := by decide +kernel
theorem d_Ra_at_10 : decode m_Ra_at.2.1 10 = .ok (.aload_n 0, 1) := by decide +kernel
theorem d_Ra_at_11 : decode m_Ra_at.2.1 11 = .ok (.iload_n 1, 1) := by decide +kernel
theorem d_Ra_at_12 : decode m_Ra_at.2.1 12 = .ok (.iaload, 1) := by decide +kernel
theorem d_Ra_at_13 : decode m_Ra_at.2.1 13 = .ok (.goto 4, 3) := by decide +kernel
theorem d_Ra_at_16 : decode m_Ra_at.2.1 16 = .ok (.iconst 0, 1) := by decide +kernel
theorem d_Ra_at_17 : decode m_Ra_at.2.1 17 = .ok (.ireturn, 1) := by decide +kernel
theorem d_Ra_put_0 : decode m_Ra_put.2.1 0 = .ok (.iload_n 1, 1) := by decide +kernel
theorem d_Ra_put_1 : decode m_Ra_put.2.1 1 = .ok (.ifCond .lt 13, 3) := by decide +kernel
theorem d_Ra_put_4 : decode m_Ra_put.2.1 4 = .ok (.iload_n 1, 1) := by decide +kernel
theorem d_Ra_put_5 : decode m_Ra_put.2.1 5 = .ok (.aload_n 0, 1) := by decide +kernel
theorem d_Ra_put_6 : decode m_Ra_put.2.1 6 = .ok (.arraylength, 1) := by decide +kernel
theorem d_Ra_put_7 : decode m_Ra_put.2.1 7 = .ok (.if_icmp .ge 7, 3) := by decide +kernel
theorem d_Ra_put_10 : decode m_Ra_put.2.1 10 = .ok (.aload_n 0, 1) := by decide +kernel
theorem d_Ra_put_11 : decode m_Ra_put.2.1 11 = .ok (.iload_n 1, 1) := by decide +kernel
theorem d_Ra_put_12 : decode m_Ra_put.2.1 12 = .ok (.iload_n 2, 1) := by decide +kernel
theorem d_Ra_put_13 : decode m_Ra_put.2.1 13 = .ok (.iastore, 1) := by decide +kernel
theorem d_Ra_put_14 : decode m_Ra_put.2.1 14 = .ok (.return_, 1) := by decide +kernel
theorem d_Ra_copyRow_0 : decode m_Ra_copyRow.2.1 0 = .ok (.iconst 0, 1) := by decide +kernel
theorem d_Ra_copyRow_1 : decode m_Ra_copyRow.2.1 1 = .ok (.istore_n 2, 1) := by decide +kernel
theorem d_Ra_copyRow_2 : decode m_Ra_copyRow.2.1 2 = .ok (.iload_n 2, 1) := by decide +kernel
theorem d_Ra_copyRow_3 : decode m_Ra_copyRow.2.1 3 = .ok (.aload_n 0, 1) := by decide +kernel
theorem d_Ra_copyRow_4 : decode m_Ra_copyRow.2.1 4 = .ok (.arraylength, 1) := by decide +kernel
theorem d_Ra_copyRow_5 : decode m_Ra_copyRow.2.1 5 = .ok (.if_icmp .ge 21, 3) := by decide +kernel
theorem d_Ra_copyRow_8 : decode m_Ra_copyRow.2.1 8 = .ok (.iload_n 2, 1) := by decide +kernel
theorem d_Ra_copyRow_9 : decode m_Ra_copyRow.2.1 9 = .ok (.aload_n 1, 1) := by decide +kernel
theorem d_Ra_copyRow_10 : decode m_Ra_copyRow.2.1 10 = .ok (.arraylength, 1) := by decide +kernel
theorem d_Ra_copyRow_11 : decode m_Ra_copyRow.2.1 11 = .ok (.if_icmp .ge 15, 3) := by decide +kernel
theorem d_Ra_copyRow_14 : decode m_Ra_copyRow.2.1 14 = .ok (.aload_n 1, 1) := by decide +kernel
theorem d_Ra_copyRow_15 : decode m_Ra_copyRow.2.1 15 = .ok (.iload_n 2, 1) := by decide +kernel
theorem d_Ra_copyRow_16 : decode m_Ra_copyRow.2.1 16 = .ok (.aload_n 0, 1) := by decide +kernel
theorem d_Ra_copyRow_17 : decode m_Ra_copyRow.2.1 17 = .ok (.iload_n 2, 1) := by decide +kernel
theorem d_Ra_copyRow_18 : decode m_Ra_copyRow.2.1 18 = .ok (.iaload, 1) := by decide +kernel
theorem d_Ra_copyRow_19 : decode m_Ra_copyRow.2.1 19 = .ok (.iastore, 1) := by decide +kernel
theorem d_Ra_copyRow_20 : decode m_Ra_copyRow.2.1 20 = .ok (.iinc 2 1, 3) := by decide +kernel
theorem d_Ra_copyRow_23 : decode m_Ra_copyRow.2.1 23 = .ok (.goto (-21), 3) := by decide +kernel
theorem d_Ra_copyRow_26 : decode m_Ra_copyRow.2.1 26 = .ok (.return_, 1) := by decide +kernel
theorem d_Mo_init_0 : decode m_Mo_init.2.1 0 = .ok (.aload_n 0, 1) := by decide +kernel
theorem d_Mo_init_1 : decode m_Mo_init.2.1 1 = .ok (.invokespecial 1, 3) := by decide +kernel
set_option maxRecDepth 100000 in
theorem s_Mo_init_1 : Cond.methodLink m_Mo_init.1.cls 1 Lib.objectInit ∈ r_wg := r_in 750 rfl rfl
theorem d_Mo_init_4 : decode m_Mo_init.2.1 4 = .ok (.aload_n 0, 1) := by decide +kernel
theorem d_Mo_init_5 : decode m_Mo_init.2.1 5 = .ok (.bipush 28, 2) := by decide +kernel
theorem d_Mo_init_7 : decode m_Mo_init.2.1 7 = .ok (.newarray .int, 2) := by decide +kernel
theorem d_Mo_init_9 : decode m_Mo_init.2.1 9 = .ok (.putfield 7, 3) := by decide +kernel
theorem d_Mo_init_12 : decode m_Mo_init.2.1 12 = .ok (.aload_n 0, 1) := by decide +kernel
theorem d_Mo_init_13 : decode m_Mo_init.2.1 13 = .ok (.bipush 10, 2) := by decide +kernel
theorem d_Mo_init_15 : decode m_Mo_init.2.1 15 = .ok (.newarray .int, 2) := by decide +kernel
theorem d_Mo_init_17 : decode m_Mo_init.2.1 17 = .ok (.putfield 13, 3) := by decide +kernel
theorem d_Mo_init_20 : decode m_Mo_init.2.1 20 = .ok (.aload_n 0, 1) := by decide +kernel
theorem d_Mo_init_21 : decode m_Mo_init.2.1 21 = .ok (.bipush 10, 2) := by decide +kernel
theorem d_Mo_init_23 : decode m_Mo_init.2.1 23 = .ok (.newarray .int, 2) := by decide +kernel
theorem d_Mo_init_25 : decode m_Mo_init.2.1 25 = .ok (.putfield 16, 3) := by decide +kernel
theorem d_Mo_init_28 : decode m_Mo_init.2.1 28 = .ok (.aload_n 0, 1) := by decide +kernel
theorem d_Mo_init_29 : decode m_Mo_init.2.1 29 = .ok (.bipush 21, 2) := by decide +kernel
theorem d_Mo_init_31 : decode m_Mo_init.2.1 31 = .ok (.newarray .int, 2) := by decide +kernel
theorem d_Mo_init_33 : decode m_Mo_init.2.1 33 = .ok (.putfield 19, 3) := by decide +kernel
theorem d_Mo_init_36 : decode m_Mo_init.2.1 36 = .ok (.aload_n 0, 1) := by decide +kernel
theorem d_Mo_init_37 : decode m_Mo_init.2.1 37 = .ok (.bipush 21, 2) := by decide +kernel
theorem d_Mo_init_39 : decode m_Mo_init.2.1 39 = .ok (.newarray .int, 2) := by decide +kernel
theorem d_Mo_init_41 : decode m_Mo_init.2.1 41 = .ok (.putfield 22, 3) := by decide +kernel
theorem d_Mo_init_44 : decode m_Mo_init.2.1 44 = .ok (.aload_n 0, 1) := by decide +kernel
theorem d_Mo_init_45 : decode m_Mo_init.2.1 45 = .ok (.sipush 896, 3) := by decide +kernel
theorem d_Mo_init_48 : decode m_Mo_init.2.1 48 = .ok (.newarray .int, 2) := by decide +kernel
theorem d_Mo_init_50 : decode m_Mo_init.2.1 50 = .ok (.putfield 25, 3) := by decide +kernel
theorem d_Mo_init_53 : decode m_Mo_init.2.1 53 = .ok (.aload_n 0, 1) := by decide +kernel
theorem d_Mo_init_54 : decode m_Mo_init.2.1 54 = .ok (.bipush 7, 2) := by decide +kernel
theorem d_Mo_init_56 : decode m_Mo_init.2.1 56 = .ok (.newarray .int, 2) := by decide +kernel
theorem d_Mo_init_58 : decode m_Mo_init.2.1 58 = .ok (.putfield 28, 3) := by decide +kernel
theorem d_Mo_init_61 : decode m_Mo_init.2.1 61 = .ok (.aload_n 0, 1) := by decide +kernel
theorem d_Mo_init_62 : decode m_Mo_init.2.1 62 = .ok (.bipush 6, 2) := by decide +kernel
theorem d_Mo_init_64 : decode m_Mo_init.2.1 64 = .ok (.newarray .int, 2) := by decide +kernel
theorem d_Mo_init_66 : decode m_Mo_init.2.1 66 = .ok (.putfield 31, 3) := by decide +kernel
theorem d_Mo_init_69 : decode m_Mo_init.2.1 69 = .ok (.aload_n 0, 1) := by decide +kernel
theorem d_Mo_init_70 : decode m_Mo_init.2.1 70 = .ok (.bipush 12, 2) := by decide +kernel
theorem d_Mo_init_72 : decode m_Mo_init.2.1 72 = .ok (.newarray .int, 2) := by decide +kernel
theorem d_Mo_init_74 : decode m_Mo_init.2.1 74 = .ok (.putfield 34, 3) := by decide +kernel
theorem d_Mo_init_77 : decode m_Mo_init.2.1 77 = .ok (.aload_n 0, 1) := by decide +kernel
theorem d_Mo_init_78 : decode m_Mo_init.2.1 78 = .ok (.bipush 10, 2) := by decide +kernel
theorem d_Mo_init_80 : decode m_Mo_init.2.1 80 = .ok (.newarray .int, 2) := by decide +kernel
theorem d_Mo_init_82 : decode m_Mo_init.2.1 82 = .ok (.putfield 37, 3) := by decide +kernel
theorem d_Mo_init_85 : decode m_Mo_init.2.1 85 = .ok (.aload_n 0, 1) := by decide +kernel
theorem d_Mo_init_86 : decode m_Mo_init.2.1 86 = .ok (.bipush 21, 2) := by decide +kernel
theorem d_Mo_init_88 : decode m_Mo_init.2.1 88 = .ok (.newarray .int, 2) := by decide +kernel
theorem d_Mo_init_90 : decode m_Mo_init.2.1 90 = .ok (.putfield 40, 3) := by decide +kernel
theorem d_Mo_init_93 : decode m_Mo_init.2.1 93 = .ok (.aload_n 0, 1) := by decide +kernel
theorem d_Mo_init_94 : decode m_Mo_init.2.1 94 = .ok (.bipush 6, 2) := by decide +kernel
theorem d_Mo_init_96 : decode m_Mo_init.2.1 96 = .ok (.newarray .int, 2) := by decide +kernel
theorem d_Mo_init_98 : decode m_Mo_init.2.1 98 = .ok (.putfield 43, 3) := by decide +kernel
theorem d_Mo_init_101 : decode m_Mo_init.2.1 101 = .ok (.aload_n 0, 1) := by decide +kernel
theorem d_Mo_init_102 : decode m_Mo_init.2.1 102 = .ok (.bipush 12, 2) := by decide +kernel
theorem d_Mo_init_104 : decode m_Mo_init.2.1 104 = .ok (.newarray .int, 2) := by decide +kernel
theorem d_Mo_init_106 : decode m_Mo_init.2.1 106 = .ok (.putfield 46, 3) := by decide +kernel
theorem d_Mo_init_109 : decode m_Mo_init.2.1 109 = .ok (.aload_n 0, 1) := by decide +kernel
theorem d_Mo_init_110 : decode m_Mo_init.2.1 110 = .ok (.iconst (-1), 1) := by decide +kernel
theorem d_Mo_init_111 : decode m_Mo_init.2.1 111 = .ok (.putfield 49, 3) := by decide +kernel
theorem d_Mo_init_114 : decode m_Mo_init.2.1 114 = .ok (.return_, 1) := by decide +kernel
theorem d_Mo_in_0 : decode m_Mo_in.2.1 0 = .ok (.lload_n 0, 1) := by decide +kernel
theorem d_Mo_in_1 : decode m_Mo_in.2.1 1 = .ok (.lload_n 2, 1) := by decide +kernel
theorem d_Mo_in_2 : decode m_Mo_in.2.1 2 = .ok (.lcmp, 1) := by decide +kernel
theorem d_Mo_in_3 : decode m_Mo_in.2.1 3 = .ok (.ifCond .lt 14, 3) := by decide +kernel
theorem d_Mo_in_6 : decode m_Mo_in.2.1 6 = .ok (.lload_n 0, 1) := by decide +kernel
theorem d_Mo_in_7 : decode m_Mo_in.2.1 7 = .ok (.lload 4, 2) := by decide +kernel
theorem d_Mo_in_9 : decode m_Mo_in.2.1 9 = .ok (.lcmp, 1) := by decide +kernel
theorem d_Mo_in_10 : decode m_Mo_in.2.1 10 = .ok (.ifCond .gt 7, 3) := by decide +kernel
theorem d_Mo_in_13 : decode m_Mo_in.2.1 13 = .ok (.iconst 1, 1) := by decide +kernel
theorem d_Mo_in_14 : decode m_Mo_in.2.1 14 = .ok (.goto 4, 3) := by decide +kernel
theorem d_Mo_in_17 : decode m_Mo_in.2.1 17 = .ok (.iconst 0, 1) := by decide +kernel
theorem d_Mo_in_18 : decode m_Mo_in.2.1 18 = .ok (.ireturn, 1) := by decide +kernel
theorem d_Mo_copy_0 : decode m_Mo_copy.2.1 0 = .ok (.iconst 0, 1) := by decide +kernel
theorem d_Mo_copy_1 : decode m_Mo_copy.2.1 1 = .ok (.istore_n 2, 1) := by decide +kernel
theorem d_Mo_copy_2 : decode m_Mo_copy.2.1 2 = .ok (.iload_n 2, 1) := by decide +kernel
theorem d_Mo_copy_3 : decode m_Mo_copy.2.1 3 = .ok (.aload_n 0, 1) := by decide +kernel
theorem d_Mo_copy_4 : decode m_Mo_copy.2.1 4 = .ok (.arraylength, 1) := by decide +kernel
theorem d_Mo_copy_5 : decode m_Mo_copy.2.1 5 = .ok (.if_icmp .ge 15, 3) := by decide +kernel
theorem d_Mo_copy_8 : decode m_Mo_copy.2.1 8 = .ok (.aload_n 1, 1) := by decide +kernel
theorem d_Mo_copy_9 : decode m_Mo_copy.2.1 9 = .ok (.iload_n 2, 1) := by decide +kernel
theorem d_Mo_copy_10 : decode m_Mo_copy.2.1 10 = .ok (.aload_n 0, 1) := by decide +kernel
theorem d_Mo_copy_11 : decode m_Mo_copy.2.1 11 = .ok (.iload_n 2, 1) := by decide +kernel
theorem d_Mo_copy_12 : decode m_Mo_copy.2.1 12 = .ok (.iaload, 1) := by decide +kernel
theorem d_Mo_copy_13 : decode m_Mo_copy.2.1 13 = .ok (.iastore, 1) := by decide +kernel
theorem d_Mo_copy_14 : decode m_Mo_copy.2.1 14 = .ok (.iinc 2 1, 3) := by decide +kernel
theorem d_Mo_copy_17 : decode m_Mo_copy.2.1 17 = .ok (.goto (-15), 3) := by decide +kernel
theorem d_Mo_copy_20 : decode m_Mo_copy.2.1 20 = .ok (.return_, 1) := by decide +kernel
theorem d_Mo_letter_0 : decode m_Mo_letter.2.1 0 = .ok (.iload_n 1, 1) := by decide +kernel
theorem d_Mo_letter_1 : decode m_Mo_letter.2.1 1 = .ok (.i2l, 1) := by decide +kernel
theorem d_Mo_letter_2 : decode m_Mo_letter.2.1 2 = .ok (.lconst 1, 1) := by decide +kernel
theorem d_Mo_letter_3 : decode m_Mo_letter.2.1 3 = .ok (.ldc2_w 53, 3) := by decide +kernel
theorem d_Mo_letter_6 : decode m_Mo_letter.2.1 6 = .ok (.invokestatic 55, 3) := by decide +kernel
set_option maxRecDepth 100000 in
theorem s_Mo_letter_6 {G : r_X} {n : Nat} {h : r_HI} {g : r_HR} {z : r_HL} {v0 v1 v2 : Value} : r_cl G m_Mo_letter m_Mo_in 6 [v0, v1, v2] n h g z := r_clS d_Mo_letter_6 w_Mo_in (r_in 880 rfl rfl) a_Mo_in n_Mo (by decide +kernel : r_mh m_Mo_in.1 3)
theorem d_Mo_letter_9 : decode m_Mo_letter.2.1 9 = .ok (.ifCond .ne 6, 3) := by decide +kernel
theorem d_Mo_letter_12 : decode m_Mo_letter.2.1 12 = .ok (.bipush (-102), 2) := by decide +kernel
theorem d_Mo_letter_14 : decode m_Mo_letter.2.1 14 = .ok (.ireturn, 1) := by decide +kernel
theorem d_Mo_letter_15 : decode m_Mo_letter.2.1 15 = .ok (.aload_n 0, 1) := by decide +kernel
theorem d_Mo_letter_16 : decode m_Mo_letter.2.1 16 = .ok (.getfield 59, 3) := by decide +kernel
theorem d_Mo_letter_19 : decode m_Mo_letter.2.1 19 = .ok (.bipush 28, 2) := by decide +kernel
theorem d_Mo_letter_21 : decode m_Mo_letter.2.1 21 = .ok (.if_icmp .ne 6, 3) := by decide +kernel
theorem d_Mo_letter_24 : decode m_Mo_letter.2.1 24 = .ok (.bipush (-104), 2) := by decide +kernel
theorem d_Mo_letter_26 : decode m_Mo_letter.2.1 26 = .ok (.ireturn, 1) := by decide +kernel
theorem d_Mo_letter_27 : decode m_Mo_letter.2.1 27 = .ok (.aload_n 0, 1) := by decide +kernel
theorem d_Mo_letter_28 : decode m_Mo_letter.2.1 28 = .ok (.getfield 7, 3) := by decide +kernel
theorem d_Mo_letter_31 : decode m_Mo_letter.2.1 31 = .ok (.aload_n 0, 1) := by decide +kernel
theorem d_Mo_letter_32 : decode m_Mo_letter.2.1 32 = .ok (.getfield 59, 3) := by decide +kernel
theorem d_Mo_letter_35 : decode m_Mo_letter.2.1 35 = .ok (.iload_n 1, 1) := by decide +kernel
theorem d_Mo_letter_36 : decode m_Mo_letter.2.1 36 = .ok (.iastore, 1) := by decide +kernel
theorem d_Mo_letter_37 : decode m_Mo_letter.2.1 37 = .ok (.aload_n 0, 1) := by decide +kernel
theorem d_Mo_letter_38 : decode m_Mo_letter.2.1 38 = .ok (.dup, 1) := by decide +kernel
theorem d_Mo_letter_39 : decode m_Mo_letter.2.1 39 = .ok (.getfield 59, 3) := by decide +kernel
theorem d_Mo_letter_42 : decode m_Mo_letter.2.1 42 = .ok (.iconst 1, 1) := by decide +kernel
theorem d_Mo_letter_43 : decode m_Mo_letter.2.1 43 = .ok (.iadd, 1) := by decide +kernel
theorem d_Mo_letter_44 : decode m_Mo_letter.2.1 44 = .ok (.putfield 59, 3) := by decide +kernel
theorem d_Mo_letter_47 : decode m_Mo_letter.2.1 47 = .ok (.aload_n 0, 1) := by decide +kernel
theorem d_Mo_letter_48 : decode m_Mo_letter.2.1 48 = .ok (.getfield 59, 3) := by decide +kernel
theorem d_Mo_letter_51 : decode m_Mo_letter.2.1 51 = .ok (.ireturn, 1) := by decide +kernel
theorem d_Mo_blank_0 : decode m_Mo_blank.2.1 0 = .ok (.aload_n 0, 1) := by decide +kernel
theorem d_Mo_blank_1 : decode m_Mo_blank.2.1 1 = .ok (.getfield 59, 3) := by decide +kernel
theorem d_Mo_blank_4 : decode m_Mo_blank.2.1 4 = .ok (.istore_n 1, 1) := by decide +kernel
theorem d_Mo_blank_5 : decode m_Mo_blank.2.1 5 = .ok (.aload_n 0, 1) := by decide +kernel
theorem d_Mo_blank_6 : decode m_Mo_blank.2.1 6 = .ok (.iconst 0, 1) := by decide +kernel
theorem d_Mo_blank_7 : decode m_Mo_blank.2.1 7 = .ok (.putfield 59, 3) := by decide +kernel
theorem d_Mo_blank_10 : decode m_Mo_blank.2.1 10 = .ok (.iload_n 1, 1) := by decide +kernel
theorem d_Mo_blank_11 : decode m_Mo_blank.2.1 11 = .ok (.ireturn, 1) := by decide +kernel
theorem d_Mo_placesBy_0 : decode m_Mo_placesBy.2.1 0 = .ok (.iload_n 0, 1) := by decide +kernel
theorem d_Mo_placesBy_1 : decode m_Mo_placesBy.2.1 1 = .ok (.lookupswitch 67 #[(50, 59), (51, 59), (52, 59), (54, 59), (56, 59), (99, 64)], 59) := by decide +kernel
theorem d_Mo_placesBy_60 : decode m_Mo_placesBy.2.1 60 = .ok (.iload_n 0, 1) := by decide +kernel
theorem d_Mo_placesBy_61 : decode m_Mo_placesBy.2.1 61 = .ok (.bipush 48, 2) := by decide +kernel
theorem d_Mo_placesBy_63 : decode m_Mo_placesBy.2.1 63 = .ok (.isub, 1) := by decide +kernel
theorem d_Mo_placesBy_64 : decode m_Mo_placesBy.2.1 64 = .ok (.ireturn, 1) := by decide +kernel
theorem d_Mo_placesBy_65 : decode m_Mo_placesBy.2.1 65 = .ok (.bipush 12, 2) := by decide +kernel
theorem d_Mo_placesBy_67 : decode m_Mo_placesBy.2.1 67 = .ok (.ireturn, 1) := by decide +kernel
theorem d_Mo_placesBy_68 : decode m_Mo_placesBy.2.1 68 = .ok (.iconst 0, 1) := by decide +kernel
theorem d_Mo_placesBy_69 : decode m_Mo_placesBy.2.1 69 = .ok (.ireturn, 1) := by decide +kernel
theorem d_Mo_kindBy_0 : decode m_Mo_kindBy.2.1 0 = .ok (.iload_n 0, 1) := by decide +kernel
theorem d_Mo_kindBy_1 : decode m_Mo_kindBy.2.1 1 = .ok (.tableswitch 81 102 115 #[71, 81, 81, 81, 81, 81, 81, 81, 73, 79, 81, 81, 77, 75], 71) := by decide +kernel
theorem d_Mo_kindBy_72 : decode m_Mo_kindBy.2.1 72 = .ok (.iconst 0, 1) := by decide +kernel
theorem d_Mo_kindBy_73 : decode m_Mo_kindBy.2.1 73 = .ok (.ireturn, 1) := by decide +kernel
theorem d_Mo_kindBy_74 : decode m_Mo_kindBy.2.1 74 = .ok (.iconst 1, 1) := by decide +kernel
theorem d_Mo_kindBy_75 : decode m_Mo_kindBy.2.1 75 = .ok (.ireturn, 1) := by decide +kernel
theorem d_Mo_kindBy_76 : decode m_Mo_kindBy.2.1 76 = .ok (.iconst 2, 1) := by decide +kernel
theorem d_Mo_kindBy_77 : decode m_Mo_kindBy.2.1 77 = .ok (.ireturn, 1) := by decide +kernel
theorem d_Mo_kindBy_78 : decode m_Mo_kindBy.2.1 78 = .ok (.iconst 3, 1) := by decide +kernel
theorem d_Mo_kindBy_79 : decode m_Mo_kindBy.2.1 79 = .ok (.ireturn, 1) := by decide +kernel
theorem d_Mo_kindBy_80 : decode m_Mo_kindBy.2.1 80 = .ok (.iconst 4, 1) := by decide +kernel
theorem d_Mo_kindBy_81 : decode m_Mo_kindBy.2.1 81 = .ok (.ireturn, 1) := by decide +kernel
theorem d_Mo_kindBy_82 : decode m_Mo_kindBy.2.1 82 = .ok (.iconst (-1), 1) := by decide +kernel
theorem d_Mo_kindBy_83 : decode m_Mo_kindBy.2.1 83 = .ok (.ireturn, 1) := by decide +kernel
theorem d_Mo_isRingLetter_0 : decode m_Mo_isRingLetter.2.1 0 = .ok (.aload_n 0, 1) := by decide +kernel
theorem d_Mo_isRingLetter_1 : decode m_Mo_isRingLetter.2.1 1 = .ok (.getfield 7, 3) := by decide +kernel
theorem d_Mo_isRingLetter_4 : decode m_Mo_isRingLetter.2.1 4 = .ok (.iload_n 1, 1) := by decide +kernel
theorem d_Mo_isRingLetter_5 : decode m_Mo_isRingLetter.2.1 5 = .ok (.iaload, 1) := by decide +kernel
theorem d_Mo_isRingLetter_6 : decode m_Mo_isRingLetter.2.1 6 = .ok (.istore_n 2, 1) := by decide +kernel
theorem d_Mo_isRingLetter_7 : decode m_Mo_isRingLetter.2.1 7 = .ok (.iload_n 1, 1) := by decide +kernel
theorem d_Mo_isRingLetter_8 : decode m_Mo_isRingLetter.2.1 8 = .ok (.iconst 2, 1) := by decide +kernel
theorem d_Mo_isRingLetter_9 : decode m_Mo_isRingLetter.2.1 9 = .ok (.irem, 1) := by decide +kernel
theorem d_Mo_isRingLetter_10 : decode m_Mo_isRingLetter.2.1 10 = .ok (.iconst 1, 1) := by decide +kernel
theorem d_Mo_isRingLetter_11 : decode m_Mo_isRingLetter.2.1 11 = .ok (.if_icmp .ne 15, 3) := by decide +kernel
theorem d_Mo_isRingLetter_14 : decode m_Mo_isRingLetter.2.1 14 = .ok (.iload_n 2, 1) := by decide +kernel
theorem d_Mo_isRingLetter_15 : decode m_Mo_isRingLetter.2.1 15 = .ok (.i2l, 1) := by decide +kernel
theorem d_Mo_isRingLetter_16 : decode m_Mo_isRingLetter.2.1 16 = .ok (.ldc2_w 62, 3) := by decide +kernel
theorem d_Mo_isRingLetter_19 : decode m_Mo_isRingLetter.2.1 19 = .ok (.ldc2_w 64, 3) := by decide +kernel
theorem d_Mo_isRingLetter_22 : decode m_Mo_isRingLetter.2.1 22 = .ok (.invokestatic 55, 3) := by decide +kernel
set_option maxRecDepth 100000 in
theorem s_Mo_isRingLetter_22 {G : r_X} {n : Nat} {h : r_HI} {g : r_HR} {z : r_HL} {v0 v1 v2 : Value} : r_cl G m_Mo_isRingLetter m_Mo_in 22 [v0, v1, v2] n h g z := r_clS d_Mo_isRingLetter_22 w_Mo_in (r_in 880 rfl rfl) a_Mo_in n_Mo (by decide +kernel : r_mh m_Mo_in.1 3)
theorem d_Mo_isRingLetter_25 : decode m_Mo_isRingLetter.2.1 25 = .ok (.ireturn, 1) := by decide +kernel
theorem d_Mo_isRingLetter_26 : decode m_Mo_isRingLetter.2.1 26 = .ok (.iload_n 2, 1) := by decide +kernel
theorem d_Mo_isRingLetter_27 : decode m_Mo_isRingLetter.2.1 27 = .ok (.bipush 59, 2) := by decide +kernel
theorem d_Mo_isRingLetter_29 : decode m_Mo_isRingLetter.2.1 29 = .ok (.if_icmp .ne 16, 3) := by decide +kernel
theorem d_Mo_isRingLetter_32 : decode m_Mo_isRingLetter.2.1 32 = .ok (.iload_n 1, 1) := by decide +kernel
theorem d_Mo_isRingLetter_33 : decode m_Mo_isRingLetter.2.1 33 = .ok (.bipush 7, 2) := by decide +kernel
theorem d_Mo_isRingLetter_35 : decode m_Mo_isRingLetter.2.1 35 = .ok (.if_icmp .le 10, 3) := by decide +kernel
theorem d_Mo_isRingLetter_38 : decode m_Mo_isRingLetter.2.1 38 = .ok (.aload_n 0, 1) := by decide +kernel
theorem d_Mo_isRingLetter_39 : decode m_Mo_isRingLetter.2.1 39 = .ok (.iload_n 1, 1) := by decide +kernel
theorem d_Mo_isRingLetter_40 : decode m_Mo_isRingLetter.2.1 40 = .ok (.putfield 66, 3) := by decide +kernel
theorem d_Mo_isRingLetter_43 : decode m_Mo_isRingLetter.2.1 43 = .ok (.iconst 1, 1) := by decide +kernel
theorem d_Mo_isRingLetter_44 : decode m_Mo_isRingLetter.2.1 44 = .ok (.ireturn, 1) := by decide +kernel
theorem d_Mo_isRingLetter_45 : decode m_Mo_isRingLetter.2.1 45 = .ok (.iload_n 2, 1) := by decide +kernel
theorem d_Mo_isRingLetter_46 : decode m_Mo_isRingLetter.2.1 46 = .ok (.invokestatic 69, 3) := by decide +kernel
set_option maxRecDepth 100000 in
theorem s_Mo_isRingLetter_46 {G : r_X} {n : Nat} {h : r_HI} {g : r_HR} {z : r_HL} {v0 : Value} : r_cl G m_Mo_isRingLetter m_Mo_placesBy 46 [v0] n h g z := r_clS d_Mo_isRingLetter_46 w_Mo_placesBy (r_in 905 rfl rfl) a_Mo_placesBy n_Mo (by decide +kernel : r_mh m_Mo_placesBy.1 1)
theorem d_Mo_isRingLetter_49 : decode m_Mo_isRingLetter.2.1 49 = .ok (.ifCond .le 13, 3) := by decide +kernel
theorem d_Mo_isRingLetter_52 : decode m_Mo_isRingLetter.2.1 52 = .ok (.iload_n 1, 1) := by decide +kernel
theorem d_Mo_isRingLetter_53 : decode m_Mo_isRingLetter.2.1 53 = .ok (.bipush 20, 2) := by decide +kernel
theorem d_Mo_isRingLetter_55 : decode m_Mo_isRingLetter.2.1 55 = .ok (.if_icmp .ge 7, 3) := by decide +kernel
theorem d_Mo_isRingLetter_58 : decode m_Mo_isRingLetter.2.1 58 = .ok (.iconst 1, 1) := by decide +kernel
theorem d_Mo_isRingLetter_59 : decode m_Mo_isRingLetter.2.1 59 = .ok (.goto 4, 3) := by decide +kernel
theorem d_Mo_isRingLetter_62 : decode m_Mo_isRingLetter.2.1 62 = .ok (.iconst 0, 1) := by decide +kernel
theorem d_Mo_isRingLetter_63 : decode m_Mo_isRingLetter.2.1 63 = .ok (.ireturn, 1) := by decide +kernel
theorem d_Mo_isGood_0 : decode m_Mo_isGood.2.1 0 = .ok (.aload_n 0, 1) := by decide +kernel
theorem d_Mo_isGood_1 : decode m_Mo_isGood.2.1 1 = .ok (.getfield 66, 3) := by decide +kernel
theorem d_Mo_isGood_4 : decode m_Mo_isGood.2.1 4 = .ok (.ifCond .ne 9, 3) := by decide +kernel
theorem d_Mo_isGood_7 : decode m_Mo_isGood.2.1 7 = .ok (.aload_n 0, 1) := by decide +kernel
theorem d_Mo_isGood_8 : decode m_Mo_isGood.2.1 8 = .ok (.iload_n 1, 1) := by decide +kernel
theorem d_Mo_isGood_9 : decode m_Mo_isGood.2.1 9 = .ok (.invokevirtual 73, 3) := by decide +kernel
set_option maxRecDepth 100000 in
theorem s_Mo_isGood_9 {G : r_X} {n : Nat} {h : r_HI} {g : r_HR} {z : r_HL} {k : Nat} {v0 : Value} (hp : r_pk k = (0, 12)) (hk : k < n) : r_cl G m_Mo_isGood m_Mo_isRingLetter 9 (.ref (G.2.1 + k) :: [v0]) n h g z := r_clV d_Mo_isGood_9 w_Mo_isRingLetter (r_in 899 rfl rfl) a_Mo_isRingLetter (r_inP 11 rfl rfl) n_Mo (by decide +kernel : r_mh m_Mo_isRingLetter.1 1) hp hk (by decide)
theorem d_Mo_isGood_12 : decode m_Mo_isGood.2.1 12 = .ok (.ireturn, 1) := by decide +kernel
theorem d_Mo_isGood_13 : decode m_Mo_isGood.2.1 13 = .ok (.aload_n 0, 1) := by decide +kernel
theorem d_Mo_isGood_14 : decode m_Mo_isGood.2.1 14 = .ok (.getfield 7, 3) := by decide +kernel
theorem d_Mo_isGood_17 : decode m_Mo_isGood.2.1 17 = .ok (.iload_n 1, 1) := by decide +kernel
theorem d_Mo_isGood_18 : decode m_Mo_isGood.2.1 18 = .ok (.iaload, 1) := by decide +kernel
theorem d_Mo_isGood_19 : decode m_Mo_isGood.2.1 19 = .ok (.istore_n 2, 1) := by decide +kernel
theorem d_Mo_isGood_20 : decode m_Mo_isGood.2.1 20 = .ok (.iload_n 1, 1) := by decide +kernel
theorem d_Mo_isGood_21 : decode m_Mo_isGood.2.1 21 = .ok (.aload_n 0, 1) := by decide +kernel
theorem d_Mo_isGood_22 : decode m_Mo_isGood.2.1 22 = .ok (.getfield 66, 3) := by decide +kernel
theorem d_Mo_isGood_25 : decode m_Mo_isGood.2.1 25 = .ok (.isub, 1) := by decide +kernel
theorem d_Mo_isGood_26 : decode m_Mo_isGood.2.1 26 = .ok (.tableswitch 80 1 4 #[30, 42, 54, 66], 30) := by decide +kernel
theorem d_Mo_isGood_56 : decode m_Mo_isGood.2.1 56 = .ok (.iload_n 2, 1) := by decide +kernel
theorem d_Mo_isGood_57 : decode m_Mo_isGood.2.1 57 = .ok (.i2l, 1) := by decide +kernel
theorem d_Mo_isGood_58 : decode m_Mo_isGood.2.1 58 = .ok (.ldc2_w 77, 3) := by decide +kernel
theorem d_Mo_isGood_61 : decode m_Mo_isGood.2.1 61 = .ok (.ldc2_w 79, 3) := by decide +kernel
theorem d_Mo_isGood_64 : decode m_Mo_isGood.2.1 64 = .ok (.invokestatic 55, 3) := by decide +kernel
set_option maxRecDepth 100000 in
theorem s_Mo_isGood_64 {G : r_X} {n : Nat} {h : r_HI} {g : r_HR} {z : r_HL} {v0 v1 v2 : Value} : r_cl G m_Mo_isGood m_Mo_in 64 [v0, v1, v2] n h g z := r_clS d_Mo_isGood_64 w_Mo_in (r_in 880 rfl rfl) a_Mo_in n_Mo (by decide +kernel : r_mh m_Mo_in.1 3)
theorem d_Mo_isGood_67 : decode m_Mo_isGood.2.1 67 = .ok (.ireturn, 1) := by decide +kernel
theorem d_Mo_isGood_68 : decode m_Mo_isGood.2.1 68 = .ok (.iload_n 2, 1) := by decide +kernel
theorem d_Mo_isGood_69 : decode m_Mo_isGood.2.1 69 = .ok (.i2l, 1) := by decide +kernel
theorem d_Mo_isGood_70 : decode m_Mo_isGood.2.1 70 = .ok (.ldc2_w 81, 3) := by decide +kernel
theorem d_Mo_isGood_73 : decode m_Mo_isGood.2.1 73 = .ok (.ldc2_w 79, 3) := by decide +kernel
theorem d_Mo_isGood_76 : decode m_Mo_isGood.2.1 76 = .ok (.invokestatic 55, 3) := by decide +kernel
set_option maxRecDepth 100000 in
theorem s_Mo_isGood_76 {G : r_X} {n : Nat} {h : r_HI} {g : r_HR} {z : r_HL} {v0 v1 v2 : Value} : r_cl G m_Mo_isGood m_Mo_in 76 [v0, v1, v2] n h g z := r_clS d_Mo_isGood_76 w_Mo_in (r_in 880 rfl rfl) a_Mo_in n_Mo (by decide +kernel : r_mh m_Mo_in.1 3)
theorem d_Mo_isGood_79 : decode m_Mo_isGood.2.1 79 = .ok (.ireturn, 1) := by decide +kernel
theorem d_Mo_isGood_80 : decode m_Mo_isGood.2.1 80 = .ok (.iload_n 2, 1) := by decide +kernel
theorem d_Mo_isGood_81 : decode m_Mo_isGood.2.1 81 = .ok (.bipush 59, 2) := by decide +kernel
theorem d_Mo_isGood_83 : decode m_Mo_isGood.2.1 83 = .ok (.if_icmp .ne 7, 3) := by decide +kernel
theorem d_Mo_isGood_86 : decode m_Mo_isGood.2.1 86 = .ok (.iconst 1, 1) := by decide +kernel
theorem d_Mo_isGood_87 : decode m_Mo_isGood.2.1 87 = .ok (.goto 4, 3) := by decide +kernel
theorem d_Mo_isGood_90 : decode m_Mo_isGood.2.1 90 = .ok (.iconst 0, 1) := by decide +kernel
theorem d_Mo_isGood_91 : decode m_Mo_isGood.2.1 91 = .ok (.ireturn, 1) := by decide +kernel
theorem d_Mo_isGood_92 : decode m_Mo_isGood.2.1 92 = .ok (.iload_n 2, 1) := by decide +kernel
theorem d_Mo_isGood_93 : decode m_Mo_isGood.2.1 93 = .ok (.invokestatic 83, 3) := by decide +kernel
set_option maxRecDepth 100000 in
theorem s_Mo_isGood_93 {G : r_X} {n : Nat} {h : r_HI} {g : r_HR} {z : r_HL} {v0 : Value} : r_cl G m_Mo_isGood m_Mo_kindBy 93 [v0] n h g z := r_clS d_Mo_isGood_93 w_Mo_kindBy (r_in 911 rfl rfl) a_Mo_kindBy n_Mo (by decide +kernel : r_mh m_Mo_kindBy.1 1)
theorem d_Mo_isGood_96 : decode m_Mo_isGood.2.1 96 = .ok (.iconst (-1), 1) := by decide +kernel
theorem d_Mo_isGood_97 : decode m_Mo_isGood.2.1 97 = .ok (.if_icmp .eq 7, 3) := by decide +kernel
theorem d_Mo_isGood_100 : decode m_Mo_isGood.2.1 100 = .ok (.iconst 1, 1) := by decide +kernel
theorem d_Mo_isGood_101 : decode m_Mo_isGood.2.1 101 = .ok (.goto 4, 3) := by decide +kernel
theorem d_Mo_isGood_104 : decode m_Mo_isGood.2.1 104 = .ok (.iconst 0, 1) := by decide +kernel
theorem d_Mo_isGood_105 : decode m_Mo_isGood.2.1 105 = .ok (.ireturn, 1) := by decide +kernel
theorem d_Mo_isGood_106 : decode m_Mo_isGood.2.1 106 = .ok (.iconst 0, 1) := by decide +kernel
theorem d_Mo_isGood_107 : decode m_Mo_isGood.2.1 107 = .ok (.ireturn, 1) := by decide +kernel
theorem d_Mo_faultOf_0 : decode m_Mo_faultOf.2.1 0 = .ok (.aload_n 0, 1) := by decide +kernel
theorem d_Mo_faultOf_1 : decode m_Mo_faultOf.2.1 1 = .ok (.iconst 0, 1) := by decide +kernel
theorem d_Mo_faultOf_2 : decode m_Mo_faultOf.2.1 2 = .ok (.putfield 66, 3) := by decide +kernel
theorem d_Mo_faultOf_5 : decode m_Mo_faultOf.2.1 5 = .ok (.iconst 0, 1) := by decide +kernel
theorem d_Mo_faultOf_6 : decode m_Mo_faultOf.2.1 6 = .ok (.istore_n 1, 1) := by decide +kernel
theorem d_Mo_faultOf_7 : decode m_Mo_faultOf.2.1 7 = .ok (.iload_n 1, 1) := by decide +kernel
theorem d_Mo_faultOf_8 : decode m_Mo_faultOf.2.1 8 = .ok (.aload_n 0, 1) := by decide +kernel
theorem d_Mo_faultOf_9 : decode m_Mo_faultOf.2.1 9 = .ok (.getfield 59, 3) := by decide +kernel
theorem d_Mo_faultOf_12 : decode m_Mo_faultOf.2.1 12 = .ok (.if_icmp .ge 17, 3) := by decide +kernel
theorem d_Mo_faultOf_15 : decode m_Mo_faultOf.2.1 15 = .ok (.aload_n 0, 1) := by decide +kernel
theorem d_Mo_faultOf_16 : decode m_Mo_faultOf.2.1 16 = .ok (.iload_n 1, 1) := by decide +kernel
theorem d_Mo_faultOf_17 : decode m_Mo_faultOf.2.1 17 = .ok (.invokevirtual 86, 3) := by decide +kernel
set_option maxRecDepth 100000 in
theorem s_Mo_faultOf_17 {G : r_X} {n : Nat} {h : r_HI} {g : r_HR} {z : r_HL} {k : Nat} {v0 : Value} (hp : r_pk k = (0, 12)) (hk : k < n) : r_cl G m_Mo_faultOf m_Mo_isGood 17 (.ref (G.2.1 + k) :: [v0]) n h g z := r_clV d_Mo_faultOf_17 w_Mo_isGood (r_in 895 rfl rfl) a_Mo_isGood (r_inP 10 rfl rfl) n_Mo (by decide +kernel : r_mh m_Mo_isGood.1 1) hp hk (by decide)
theorem d_Mo_faultOf_20 : decode m_Mo_faultOf.2.1 20 = .ok (.ifCond .eq 9, 3) := by decide +kernel
theorem d_Mo_faultOf_23 : decode m_Mo_faultOf.2.1 23 = .ok (.iinc 1 1, 3) := by decide +kernel
theorem d_Mo_faultOf_26 : decode m_Mo_faultOf.2.1 26 = .ok (.goto (-19), 3) := by decide +kernel
theorem d_Mo_faultOf_29 : decode m_Mo_faultOf.2.1 29 = .ok (.iload_n 1, 1) := by decide +kernel
theorem d_Mo_faultOf_30 : decode m_Mo_faultOf.2.1 30 = .ok (.ireturn, 1) := by decide +kernel
theorem d_Mo_fault_0 : decode m_Mo_fault.2.1 0 = .ok (.aload_n 0, 1) := by decide +kernel
theorem d_Mo_fault_1 : decode m_Mo_fault.2.1 1 = .ok (.invokevirtual 89, 3) := by decide +kernel
set_option maxRecDepth 100000 in
theorem s_Mo_fault_1 {G : r_X} {n : Nat} {h : r_HI} {g : r_HR} {z : r_HL} {k : Nat} (hp : r_pk k = (0, 12)) (hk : k < n) : r_cl G m_Mo_fault m_Mo_faultOf 1 (.ref (G.2.1 + k) :: []) n h g z := r_clV d_Mo_fault_1 w_Mo_faultOf (r_in 891 rfl rfl) a_Mo_faultOf (r_inP 9 rfl rfl) n_Mo (by decide +kernel : r_mh m_Mo_faultOf.1 0) hp hk (by decide)
theorem d_Mo_fault_4 : decode m_Mo_fault.2.1 4 = .ok (.ireturn, 1) := by decide +kernel
theorem d_Mo_plate_0 : decode m_Mo_plate.2.1 0 = .ok (.aload_n 0, 1) := by decide +kernel
theorem d_Mo_plate_1 : decode m_Mo_plate.2.1 1 = .ok (.invokevirtual 89, 3) := by decide +kernel
set_option maxRecDepth 100000 in
theorem s_Mo_plate_1 {G : r_X} {n : Nat} {h : r_HI} {g : r_HR} {z : r_HL} {k : Nat} (hp : r_pk k = (0, 12)) (hk : k < n) : r_cl G m_Mo_plate m_Mo_faultOf 1 (.ref (G.2.1 + k) :: []) n h g z := r_clV d_Mo_plate_1 w_Mo_faultOf (r_in 891 rfl rfl) a_Mo_faultOf (r_inP 9 rfl rfl) n_Mo (by decide +kernel : r_mh m_Mo_faultOf.1 0) hp hk (by decide)
theorem d_Mo_plate_4 : decode m_Mo_plate.2.1 4 = .ok (.aload_n 0, 1) := by decide +kernel
theorem d_Mo_plate_5 : decode m_Mo_plate.2.1 5 = .ok (.getfield 59, 3) := by decide +kernel
theorem d_Mo_plate_8 : decode m_Mo_plate.2.1 8 = .ok (.if_icmp .lt 23, 3) := by decide +kernel
theorem d_Mo_plate_11 : decode m_Mo_plate.2.1 11 = .ok (.aload_n 0, 1) := by decide +kernel
theorem d_Mo_plate_12 : decode m_Mo_plate.2.1 12 = .ok (.getfield 66, 3) := by decide +kernel
theorem d_Mo_plate_15 : decode m_Mo_plate.2.1 15 = .ok (.ifCond .eq 16, 3) := by decide +kernel
theorem d_Mo_plate_18 : decode m_Mo_plate.2.1 18 = .ok (.aload_n 0, 1) := by decide +kernel
theorem d_Mo_plate_19 : decode m_Mo_plate.2.1 19 = .ok (.getfield 59, 3) := by decide +kernel
theorem d_Mo_plate_22 : decode m_Mo_plate.2.1 22 = .ok (.aload_n 0, 1) := by decide +kernel
theorem d_Mo_plate_23 : decode m_Mo_plate.2.1 23 = .ok (.getfield 66, 3) := by decide +kernel
theorem d_Mo_plate_26 : decode m_Mo_plate.2.1 26 = .ok (.iconst 5, 1) := by decide +kernel
theorem d_Mo_plate_27 : decode m_Mo_plate.2.1 27 = .ok (.iadd, 1) := by decide +kernel
theorem d_Mo_plate_28 : decode m_Mo_plate.2.1 28 = .ok (.if_icmp .eq 6, 3) := by decide +kernel
theorem d_Mo_plate_31 : decode m_Mo_plate.2.1 31 = .ok (.bipush (-103), 2) := by decide +kernel
theorem d_Mo_plate_33 : decode m_Mo_plate.2.1 33 = .ok (.ireturn, 1) := by decide +kernel
theorem d_Mo_plate_34 : decode m_Mo_plate.2.1 34 = .ok (.aload_n 0, 1) := by decide +kernel
theorem d_Mo_plate_35 : decode m_Mo_plate.2.1 35 = .ok (.aload_n 0, 1) := by decide +kernel
theorem d_Mo_plate_36 : decode m_Mo_plate.2.1 36 = .ok (.getfield 66, 3) := by decide +kernel
theorem d_Mo_plate_39 : decode m_Mo_plate.2.1 39 = .ok (.iconst 2, 1) := by decide +kernel
theorem d_Mo_plate_40 : decode m_Mo_plate.2.1 40 = .ok (.idiv, 1) := by decide +kernel
theorem d_Mo_plate_41 : decode m_Mo_plate.2.1 41 = .ok (.putfield 93, 3) := by decide +kernel
theorem d_Mo_plate_44 : decode m_Mo_plate.2.1 44 = .ok (.iconst 0, 1) := by decide +kernel
theorem d_Mo_plate_45 : decode m_Mo_plate.2.1 45 = .ok (.istore_n 1, 1) := by decide +kernel
theorem d_Mo_plate_46 : decode m_Mo_plate.2.1 46 = .ok (.iload_n 1, 1) := by decide +kernel
theorem d_Mo_plate_47 : decode m_Mo_plate.2.1 47 = .ok (.aload_n 0, 1) := by decide +kernel
theorem d_Mo_plate_48 : decode m_Mo_plate.2.1 48 = .ok (.getfield 93, 3) := by decide +kernel
theorem d_Mo_plate_51 : decode m_Mo_plate.2.1 51 = .ok (.if_icmp .ge 45, 3) := by decide +kernel
theorem d_Mo_plate_54 : decode m_Mo_plate.2.1 54 = .ok (.aload_n 0, 1) := by decide +kernel
theorem d_Mo_plate_55 : decode m_Mo_plate.2.1 55 = .ok (.getfield 13, 3) := by decide +kernel
theorem d_Mo_plate_58 : decode m_Mo_plate.2.1 58 = .ok (.iload_n 1, 1) := by decide +kernel
theorem d_Mo_plate_59 : decode m_Mo_plate.2.1 59 = .ok (.aload_n 0, 1) := by decide +kernel
theorem d_Mo_plate_60 : decode m_Mo_plate.2.1 60 = .ok (.getfield 7, 3) := by decide +kernel
theorem d_Mo_plate_63 : decode m_Mo_plate.2.1 63 = .ok (.iconst 2, 1) := by decide +kernel
theorem d_Mo_plate_64 : decode m_Mo_plate.2.1 64 = .ok (.iload_n 1, 1) := by decide +kernel
theorem d_Mo_plate_65 : decode m_Mo_plate.2.1 65 = .ok (.imul, 1) := by decide +kernel
theorem d_Mo_plate_66 : decode m_Mo_plate.2.1 66 = .ok (.iaload, 1) := by decide +kernel
theorem d_Mo_plate_67 : decode m_Mo_plate.2.1 67 = .ok (.invokestatic 69, 3) := by decide +kernel
set_option maxRecDepth 100000 in
theorem s_Mo_plate_67 {G : r_X} {n : Nat} {h : r_HI} {g : r_HR} {z : r_HL} {v0 : Value} : r_cl G m_Mo_plate m_Mo_placesBy 67 [v0] n h g z := r_clS d_Mo_plate_67 w_Mo_placesBy (r_in 905 rfl rfl) a_Mo_placesBy n_Mo (by decide +kernel : r_mh m_Mo_placesBy.1 1)
theorem d_Mo_plate_70 : decode m_Mo_plate.2.1 70 = .ok (.iastore, 1) := by decide +kernel
theorem d_Mo_plate_71 : decode m_Mo_plate.2.1 71 = .ok (.aload_n 0, 1) := by decide +kernel
theorem d_Mo_plate_72 : decode m_Mo_plate.2.1 72 = .ok (.getfield 16, 3) := by decide +kernel
theorem d_Mo_plate_75 : decode m_Mo_plate.2.1 75 = .ok (.iload_n 1, 1) := by decide +kernel
theorem d_Mo_plate_76 : decode m_Mo_plate.2.1 76 = .ok (.aload_n 0, 1) := by decide +kernel
theorem d_Mo_plate_77 : decode m_Mo_plate.2.1 77 = .ok (.getfield 7, 3) := by decide +kernel
theorem d_Mo_plate_80 : decode m_Mo_plate.2.1 80 = .ok (.iconst 2, 1) := by decide +kernel
theorem d_Mo_plate_81 : decode m_Mo_plate.2.1 81 = .ok (.iload_n 1, 1) := by decide +kernel
theorem d_Mo_plate_82 : decode m_Mo_plate.2.1 82 = .ok (.imul, 1) := by decide +kernel
theorem d_Mo_plate_83 : decode m_Mo_plate.2.1 83 = .ok (.iconst 1, 1) := by decide +kernel
theorem d_Mo_plate_84 : decode m_Mo_plate.2.1 84 = .ok (.iadd, 1) := by decide +kernel
theorem d_Mo_plate_85 : decode m_Mo_plate.2.1 85 = .ok (.iaload, 1) := by decide +kernel
theorem d_Mo_plate_86 : decode m_Mo_plate.2.1 86 = .ok (.bipush 97, 2) := by decide +kernel
theorem d_Mo_plate_88 : decode m_Mo_plate.2.1 88 = .ok (.isub, 1) := by decide +kernel
theorem d_Mo_plate_89 : decode m_Mo_plate.2.1 89 = .ok (.iastore, 1) := by decide +kernel
theorem d_Mo_plate_90 : decode m_Mo_plate.2.1 90 = .ok (.iinc 1 1, 3) := by decide +kernel
theorem d_Mo_plate_93 : decode m_Mo_plate.2.1 93 = .ok (.goto (-47), 3) := by decide +kernel
theorem d_Mo_plate_96 : decode m_Mo_plate.2.1 96 = .ok (.aload_n 0, 1) := by decide +kernel
theorem d_Mo_plate_97 : decode m_Mo_plate.2.1 97 = .ok (.aload_n 0, 1) := by decide +kernel
theorem d_Mo_plate_98 : decode m_Mo_plate.2.1 98 = .ok (.getfield 7, 3) := by decide +kernel
theorem d_Mo_plate_101 : decode m_Mo_plate.2.1 101 = .ok (.aload_n 0, 1) := by decide +kernel
theorem d_Mo_plate_102 : decode m_Mo_plate.2.1 102 = .ok (.getfield 66, 3) := by decide +kernel
theorem d_Mo_plate_105 : decode m_Mo_plate.2.1 105 = .ok (.iconst 1, 1) := by decide +kernel
theorem d_Mo_plate_106 : decode m_Mo_plate.2.1 106 = .ok (.iadd, 1) := by decide +kernel
theorem d_Mo_plate_107 : decode m_Mo_plate.2.1 107 = .ok (.iaload, 1) := by decide +kernel
theorem d_Mo_plate_108 : decode m_Mo_plate.2.1 108 = .ok (.bipush 48, 2) := by decide +kernel
theorem d_Mo_plate_110 : decode m_Mo_plate.2.1 110 = .ok (.isub, 1) := by decide +kernel
theorem d_Mo_plate_111 : decode m_Mo_plate.2.1 111 = .ok (.putfield 96, 3) := by decide +kernel
theorem d_Mo_plate_114 : decode m_Mo_plate.2.1 114 = .ok (.aload_n 0, 1) := by decide +kernel
theorem d_Mo_plate_115 : decode m_Mo_plate.2.1 115 = .ok (.aload_n 0, 1) := by decide +kernel
theorem d_Mo_plate_116 : decode m_Mo_plate.2.1 116 = .ok (.getfield 7, 3) := by decide +kernel
theorem d_Mo_plate_119 : decode m_Mo_plate.2.1 119 = .ok (.aload_n 0, 1) := by decide +kernel
theorem d_Mo_plate_120 : decode m_Mo_plate.2.1 120 = .ok (.getfield 66, 3) := by decide +kernel
theorem d_Mo_plate_123 : decode m_Mo_plate.2.1 123 = .ok (.iconst 2, 1) := by decide +kernel
theorem d_Mo_plate_124 : decode m_Mo_plate.2.1 124 = .ok (.iadd, 1) := by decide +kernel
theorem d_Mo_plate_125 : decode m_Mo_plate.2.1 125 = .ok (.iaload, 1) := by decide +kernel
theorem d_Mo_plate_126 : decode m_Mo_plate.2.1 126 = .ok (.bipush 48, 2) := by decide +kernel
theorem d_Mo_plate_128 : decode m_Mo_plate.2.1 128 = .ok (.isub, 1) := by decide +kernel
theorem d_Mo_plate_129 : decode m_Mo_plate.2.1 129 = .ok (.putfield 99, 3) := by decide +kernel
theorem d_Mo_plate_132 : decode m_Mo_plate.2.1 132 = .ok (.aload_n 0, 1) := by decide +kernel
theorem d_Mo_plate_133 : decode m_Mo_plate.2.1 133 = .ok (.aload_n 0, 1) := by decide +kernel
theorem d_Mo_plate_134 : decode m_Mo_plate.2.1 134 = .ok (.getfield 7, 3) := by decide +kernel
theorem d_Mo_plate_137 : decode m_Mo_plate.2.1 137 = .ok (.aload_n 0, 1) := by decide +kernel
theorem d_Mo_plate_138 : decode m_Mo_plate.2.1 138 = .ok (.getfield 66, 3) := by decide +kernel
theorem d_Mo_plate_141 : decode m_Mo_plate.2.1 141 = .ok (.iconst 4, 1) := by decide +kernel
theorem d_Mo_plate_142 : decode m_Mo_plate.2.1 142 = .ok (.iadd, 1) := by decide +kernel
theorem d_Mo_plate_143 : decode m_Mo_plate.2.1 143 = .ok (.iaload, 1) := by decide +kernel
theorem d_Mo_plate_144 : decode m_Mo_plate.2.1 144 = .ok (.invokestatic 83, 3) := by decide +kernel
set_option maxRecDepth 100000 in
theorem s_Mo_plate_144 {G : r_X} {n : Nat} {h : r_HI} {g : r_HR} {z : r_HL} {v0 : Value} : r_cl G m_Mo_plate m_Mo_kindBy 144 [v0] n h g z := r_clS d_Mo_plate_144 w_Mo_kindBy (r_in 911 rfl rfl) a_Mo_kindBy n_Mo (by decide +kernel : r_mh m_Mo_kindBy.1 1)
theorem d_Mo_plate_147 : decode m_Mo_plate.2.1 147 = .ok (.putfield 102, 3) := by decide +kernel
theorem d_Mo_plate_150 : decode m_Mo_plate.2.1 150 = .ok (.aload_n 0, 1) := by decide +kernel
theorem d_Mo_plate_151 : decode m_Mo_plate.2.1 151 = .ok (.iconst 0, 1) := by decide +kernel
theorem d_Mo_plate_152 : decode m_Mo_plate.2.1 152 = .ok (.putfield 105, 3) := by decide +kernel
theorem d_Mo_plate_155 : decode m_Mo_plate.2.1 155 = .ok (.aload_n 0, 1) := by decide +kernel
theorem d_Mo_plate_156 : decode m_Mo_plate.2.1 156 = .ok (.iconst 0, 1) := by decide +kernel
theorem d_Mo_plate_157 : decode m_Mo_plate.2.1 157 = .ok (.putfield 108, 3) := by decide +kernel
theorem d_Mo_plate_160 : decode m_Mo_plate.2.1 160 = .ok (.aload_n 0, 1) := by decide +kernel
theorem d_Mo_plate_161 : decode m_Mo_plate.2.1 161 = .ok (.iconst 1, 1) := by decide +kernel
theorem d_Mo_plate_162 : decode m_Mo_plate.2.1 162 = .ok (.putfield 111, 3) := by decide +kernel
theorem d_Mo_plate_165 : decode m_Mo_plate.2.1 165 = .ok (.aload_n 0, 1) := by decide +kernel
theorem d_Mo_plate_166 : decode m_Mo_plate.2.1 166 = .ok (.iconst 0, 1) := by decide +kernel
theorem d_Mo_plate_167 : decode m_Mo_plate.2.1 167 = .ok (.putfield 114, 3) := by decide +kernel
theorem d_Mo_plate_170 : decode m_Mo_plate.2.1 170 = .ok (.aload_n 0, 1) := by decide +kernel
theorem d_Mo_plate_171 : decode m_Mo_plate.2.1 171 = .ok (.iconst 0, 1) := by decide +kernel
theorem d_Mo_plate_172 : decode m_Mo_plate.2.1 172 = .ok (.putfield 117, 3) := by decide +kernel
theorem d_Mo_plate_175 : decode m_Mo_plate.2.1 175 = .ok (.iconst 0, 1) := by decide +kernel
theorem d_Mo_plate_176 : decode m_Mo_plate.2.1 176 = .ok (.istore_n 1, 1) := by decide +kernel
theorem d_Mo_plate_177 : decode m_Mo_plate.2.1 177 = .ok (.iload_n 1, 1) := by decide +kernel
theorem d_Mo_plate_178 : decode m_Mo_plate.2.1 178 = .ok (.bipush 6, 2) := by decide +kernel
theorem d_Mo_plate_180 : decode m_Mo_plate.2.1 180 = .ok (.if_icmp .ge 16, 3) := by decide +kernel
theorem d_Mo_plate_183 : decode m_Mo_plate.2.1 183 = .ok (.aload_n 0, 1) := by decide +kernel
theorem d_Mo_plate_184 : decode m_Mo_plate.2.1 184 = .ok (.getfield 31, 3) := by decide +kernel
theorem d_Mo_plate_187 : decode m_Mo_plate.2.1 187 = .ok (.iload_n 1, 1) := by decide +kernel
theorem d_Mo_plate_188 : decode m_Mo_plate.2.1 188 = .ok (.iconst 0, 1) := by decide +kernel
theorem d_Mo_plate_189 : decode m_Mo_plate.2.1 189 = .ok (.iastore, 1) := by decide +kernel
theorem d_Mo_plate_190 : decode m_Mo_plate.2.1 190 = .ok (.iinc 1 1, 3) := by decide +kernel
theorem d_Mo_plate_193 : decode m_Mo_plate.2.1 193 = .ok (.goto (-16), 3) := by decide +kernel
theorem d_Mo_plate_196 : decode m_Mo_plate.2.1 196 = .ok (.aload_n 0, 1) := by decide +kernel
theorem d_Mo_plate_197 : decode m_Mo_plate.2.1 197 = .ok (.dup, 1) := by decide +kernel
theorem d_Mo_plate_198 : decode m_Mo_plate.2.1 198 = .ok (.getfield 120, 3) := by decide +kernel
theorem d_Mo_plate_201 : decode m_Mo_plate.2.1 201 = .ok (.iconst 1, 1) := by decide +kernel
theorem d_Mo_plate_202 : decode m_Mo_plate.2.1 202 = .ok (.iadd, 1) := by decide +kernel
theorem d_Mo_plate_203 : decode m_Mo_plate.2.1 203 = .ok (.putfield 120, 3) := by decide +kernel
theorem d_Mo_plate_206 : decode m_Mo_plate.2.1 206 = .ok (.aload_n 0, 1) := by decide +kernel
theorem d_Mo_plate_207 : decode m_Mo_plate.2.1 207 = .ok (.iconst 0, 1) := by decide +kernel
theorem d_Mo_plate_208 : decode m_Mo_plate.2.1 208 = .ok (.putfield 59, 3) := by decide +kernel
theorem d_Mo_plate_211 : decode m_Mo_plate.2.1 211 = .ok (.aload_n 0, 1) := by decide +kernel
theorem d_Mo_plate_212 : decode m_Mo_plate.2.1 212 = .ok (.getfield 93, 3) := by decide +kernel
theorem d_Mo_plate_215 : decode m_Mo_plate.2.1 215 = .ok (.ireturn, 1) := by decide +kernel
theorem d_Mo_lacks_0 : decode m_Mo_lacks.2.1 0 = .ok (.aload_n 0, 1) := by decide +kernel
theorem d_Mo_lacks_1 : decode m_Mo_lacks.2.1 1 = .ok (.getfield 93, 3) := by decide +kernel
theorem d_Mo_lacks_4 : decode m_Mo_lacks.2.1 4 = .ok (.ifCond .ne 7, 3) := by decide +kernel
theorem d_Mo_lacks_7 : decode m_Mo_lacks.2.1 7 = .ok (.iconst 1, 1) := by decide +kernel
theorem d_Mo_lacks_8 : decode m_Mo_lacks.2.1 8 = .ok (.goto 4, 3) := by decide +kernel
theorem d_Mo_lacks_11 : decode m_Mo_lacks.2.1 11 = .ok (.iconst 0, 1) := by decide +kernel
theorem d_Mo_lacks_12 : decode m_Mo_lacks.2.1 12 = .ok (.ireturn, 1) := by decide +kernel
theorem d_Mo_isRing_0 : decode m_Mo_isRing.2.1 0 = .ok (.iload_n 1, 1) := by decide +kernel
theorem d_Mo_isRing_1 : decode m_Mo_isRing.2.1 1 = .ok (.i2l, 1) := by decide +kernel
theorem d_Mo_isRing_2 : decode m_Mo_isRing.2.1 2 = .ok (.lconst 0, 1) := by decide +kernel
theorem d_Mo_isRing_3 : decode m_Mo_isRing.2.1 3 = .ok (.aload_n 0, 1) := by decide +kernel
theorem d_Mo_isRing_4 : decode m_Mo_isRing.2.1 4 = .ok (.getfield 93, 3) := by decide +kernel
theorem d_Mo_isRing_7 : decode m_Mo_isRing.2.1 7 = .ok (.iconst 1, 1) := by decide +kernel
theorem d_Mo_isRing_8 : decode m_Mo_isRing.2.1 8 = .ok (.isub, 1) := by decide +kernel
theorem d_Mo_isRing_9 : decode m_Mo_isRing.2.1 9 = .ok (.i2l, 1) := by decide +kernel
theorem d_Mo_isRing_10 : decode m_Mo_isRing.2.1 10 = .ok (.invokestatic 55, 3) := by decide +kernel
set_option maxRecDepth 100000 in
theorem s_Mo_isRing_10 {G : r_X} {n : Nat} {h : r_HI} {g : r_HR} {z : r_HL} {v0 v1 v2 : Value} : r_cl G m_Mo_isRing m_Mo_in 10 [v0, v1, v2] n h g z := r_clS d_Mo_isRing_10 w_Mo_in (r_in 880 rfl rfl) a_Mo_in n_Mo (by decide +kernel : r_mh m_Mo_in.1 3)
theorem d_Mo_isRing_13 : decode m_Mo_isRing.2.1 13 = .ok (.ireturn, 1) := by decide +kernel
theorem d_Mo_travel_0 : decode m_Mo_travel.2.1 0 = .ok (.iload_n 1, 1) := by decide +kernel
theorem d_Mo_travel_1 : decode m_Mo_travel.2.1 1 = .ok (.iload_n 2, 1) := by decide +kernel
theorem d_Mo_travel_2 : decode m_Mo_travel.2.1 2 = .ok (.if_icmp .le 9, 3) := by decide +kernel
theorem d_Mo_travel_5 : decode m_Mo_travel.2.1 5 = .ok (.iload_n 1, 1) := by decide +kernel
theorem d_Mo_travel_6 : decode m_Mo_travel.2.1 6 = .ok (.iload_n 2, 1) := by decide +kernel
theorem d_Mo_travel_7 : decode m_Mo_travel.2.1 7 = .ok (.isub, 1) := by decide +kernel
theorem d_Mo_travel_8 : decode m_Mo_travel.2.1 8 = .ok (.goto 6, 3) := by decide +kernel
theorem d_Mo_travel_11 : decode m_Mo_travel.2.1 11 = .ok (.iload_n 2, 1) := by decide +kernel
theorem d_Mo_travel_12 : decode m_Mo_travel.2.1 12 = .ok (.iload_n 1, 1) := by decide +kernel
theorem d_Mo_travel_13 : decode m_Mo_travel.2.1 13 = .ok (.isub, 1) := by decide +kernel
theorem d_Mo_travel_14 : decode m_Mo_travel.2.1 14 = .ok (.istore_n 3, 1) := by decide +kernel
theorem d_Mo_travel_15 : decode m_Mo_travel.2.1 15 = .ok (.iload_n 3, 1) := by decide +kernel
theorem d_Mo_travel_16 : decode m_Mo_travel.2.1 16 = .ok (.ifCond .ne 7, 3) := by decide +kernel
theorem d_Mo_travel_19 : decode m_Mo_travel.2.1 19 = .ok (.iconst 0, 1) := by decide +kernel
theorem d_Mo_travel_20 : decode m_Mo_travel.2.1 20 = .ok (.goto 14, 3) := by decide +kernel
theorem d_Mo_travel_23 : decode m_Mo_travel.2.1 23 = .ok (.aload_n 0, 1) := by decide +kernel
theorem d_Mo_travel_24 : decode m_Mo_travel.2.1 24 = .ok (.getfield 96, 3) := by decide +kernel
theorem d_Mo_travel_27 : decode m_Mo_travel.2.1 27 = .ok (.aload_n 0, 1) := by decide +kernel
theorem d_Mo_travel_28 : decode m_Mo_travel.2.1 28 = .ok (.getfield 99, 3) := by decide +kernel
theorem d_Mo_travel_31 : decode m_Mo_travel.2.1 31 = .ok (.iload_n 3, 1) := by decide +kernel
theorem d_Mo_travel_32 : decode m_Mo_travel.2.1 32 = .ok (.imul, 1) := by decide +kernel
theorem d_Mo_travel_33 : decode m_Mo_travel.2.1 33 = .ok (.iadd, 1) := by decide +kernel
theorem d_Mo_travel_34 : decode m_Mo_travel.2.1 34 = .ok (.ireturn, 1) := by decide +kernel
theorem d_Mo_lasts_0 : decode m_Mo_lasts.2.1 0 = .ok (.bipush 24, 2) := by decide +kernel
theorem d_Mo_lasts_2 : decode m_Mo_lasts.2.1 2 = .ok (.aload_n 0, 1) := by decide +kernel
theorem d_Mo_lasts_3 : decode m_Mo_lasts.2.1 3 = .ok (.getfield 13, 3) := by decide +kernel
theorem d_Mo_lasts_6 : decode m_Mo_lasts.2.1 6 = .ok (.iload_n 1, 1) := by decide +kernel
theorem d_Mo_lasts_7 : decode m_Mo_lasts.2.1 7 = .ok (.iaload, 1) := by decide +kernel
theorem d_Mo_lasts_8 : decode m_Mo_lasts.2.1 8 = .ok (.idiv, 1) := by decide +kernel
theorem d_Mo_lasts_9 : decode m_Mo_lasts.2.1 9 = .ok (.ireturn, 1) := by decide +kernel
theorem d_Mo_doneBy_0 : decode m_Mo_doneBy.2.1 0 = .ok (.iload_n 2, 1) := by decide +kernel
theorem d_Mo_doneBy_1 : decode m_Mo_doneBy.2.1 1 = .ok (.aload_n 0, 1) := by decide +kernel
theorem d_Mo_doneBy_2 : decode m_Mo_doneBy.2.1 2 = .ok (.iload_n 1, 1) := by decide +kernel
theorem d_Mo_doneBy_3 : decode m_Mo_doneBy.2.1 3 = .ok (.iload_n 3, 1) := by decide +kernel
theorem d_Mo_doneBy_4 : decode m_Mo_doneBy.2.1 4 = .ok (.invokevirtual 123, 3) := by decide +kernel
set_option maxRecDepth 100000 in
theorem s_Mo_doneBy_4 {G : r_X} {n : Nat} {h : r_HI} {g : r_HR} {z : r_HL} {k : Nat} {v0 v1 : Value} (hp : r_pk k = (0, 12)) (hk : k < n) : r_cl G m_Mo_doneBy m_Mo_travel 4 (.ref (G.2.1 + k) :: [v0, v1]) n h g z := r_clV d_Mo_doneBy_4 w_Mo_travel (r_in 938 rfl rfl) a_Mo_travel (r_inP 16 rfl rfl) n_Mo (by decide +kernel : r_mh m_Mo_travel.1 2) hp hk (by decide)
theorem d_Mo_doneBy_7 : decode m_Mo_doneBy.2.1 7 = .ok (.iadd, 1) := by decide +kernel
theorem d_Mo_doneBy_8 : decode m_Mo_doneBy.2.1 8 = .ok (.istore 5, 2) := by decide +kernel
theorem d_Mo_doneBy_10 : decode m_Mo_doneBy.2.1 10 = .ok (.aload_n 0, 1) := by decide +kernel
theorem d_Mo_doneBy_11 : decode m_Mo_doneBy.2.1 11 = .ok (.getfield 16, 3) := by decide +kernel
theorem d_Mo_doneBy_14 : decode m_Mo_doneBy.2.1 14 = .ok (.iload_n 3, 1) := by decide +kernel
theorem d_Mo_doneBy_15 : decode m_Mo_doneBy.2.1 15 = .ok (.iaload, 1) := by decide +kernel
theorem d_Mo_doneBy_16 : decode m_Mo_doneBy.2.1 16 = .ok (.iload 4, 2) := by decide +kernel
theorem d_Mo_doneBy_18 : decode m_Mo_doneBy.2.1 18 = .ok (.aload_n 0, 1) := by decide +kernel
theorem d_Mo_doneBy_19 : decode m_Mo_doneBy.2.1 19 = .ok (.iload_n 3, 1) := by decide +kernel
theorem d_Mo_doneBy_20 : decode m_Mo_doneBy.2.1 20 = .ok (.invokevirtual 127, 3) := by decide +kernel
set_option maxRecDepth 100000 in
theorem s_Mo_doneBy_20 {G : r_X} {n : Nat} {h : r_HI} {g : r_HR} {z : r_HL} {k : Nat} {v0 : Value} (hp : r_pk k = (0, 12)) (hk : k < n) : r_cl G m_Mo_doneBy m_Mo_lasts 20 (.ref (G.2.1 + k) :: [v0]) n h g z := r_clV d_Mo_doneBy_20 w_Mo_lasts (r_in 930 rfl rfl) a_Mo_lasts (r_inP 14 rfl rfl) n_Mo (by decide +kernel : r_mh m_Mo_lasts.1 1) hp hk (by decide)
theorem d_Mo_doneBy_23 : decode m_Mo_doneBy.2.1 23 = .ok (.imul, 1) := by decide +kernel
theorem d_Mo_doneBy_24 : decode m_Mo_doneBy.2.1 24 = .ok (.iadd, 1) := by decide +kernel
theorem d_Mo_doneBy_25 : decode m_Mo_doneBy.2.1 25 = .ok (.bipush 24, 2) := by decide +kernel
theorem d_Mo_doneBy_27 : decode m_Mo_doneBy.2.1 27 = .ok (.irem, 1) := by decide +kernel
theorem d_Mo_doneBy_28 : decode m_Mo_doneBy.2.1 28 = .ok (.istore 6, 2) := by decide +kernel
theorem d_Mo_doneBy_30 : decode m_Mo_doneBy.2.1 30 = .ok (.iload 6, 2) := by decide +kernel
theorem d_Mo_doneBy_32 : decode m_Mo_doneBy.2.1 32 = .ok (.bipush 24, 2) := by decide +kernel
theorem d_Mo_doneBy_34 : decode m_Mo_doneBy.2.1 34 = .ok (.iadd, 1) := by decide +kernel
theorem d_Mo_doneBy_35 : decode m_Mo_doneBy.2.1 35 = .ok (.iload 5, 2) := by decide +kernel
theorem d_Mo_doneBy_37 : decode m_Mo_doneBy.2.1 37 = .ok (.bipush 24, 2) := by decide +kernel
theorem d_Mo_doneBy_39 : decode m_Mo_doneBy.2.1 39 = .ok (.irem, 1) := by decide +kernel
theorem d_Mo_doneBy_40 : decode m_Mo_doneBy.2.1 40 = .ok (.isub, 1) := by decide +kernel
theorem d_Mo_doneBy_41 : decode m_Mo_doneBy.2.1 41 = .ok (.bipush 24, 2) := by decide +kernel
theorem d_Mo_doneBy_43 : decode m_Mo_doneBy.2.1 43 = .ok (.irem, 1) := by decide +kernel
theorem d_Mo_doneBy_44 : decode m_Mo_doneBy.2.1 44 = .ok (.istore 7, 2) := by decide +kernel
theorem d_Mo_doneBy_46 : decode m_Mo_doneBy.2.1 46 = .ok (.iload 5, 2) := by decide +kernel
theorem d_Mo_doneBy_48 : decode m_Mo_doneBy.2.1 48 = .ok (.iload 7, 2) := by decide +kernel
theorem d_Mo_doneBy_50 : decode m_Mo_doneBy.2.1 50 = .ok (.iadd, 1) := by decide +kernel
theorem d_Mo_doneBy_51 : decode m_Mo_doneBy.2.1 51 = .ok (.aload_n 0, 1) := by decide +kernel
theorem d_Mo_doneBy_52 : decode m_Mo_doneBy.2.1 52 = .ok (.iload_n 3, 1) := by decide +kernel
theorem d_Mo_doneBy_53 : decode m_Mo_doneBy.2.1 53 = .ok (.invokevirtual 127, 3) := by decide +kernel
set_option maxRecDepth 100000 in
theorem s_Mo_doneBy_53 {G : r_X} {n : Nat} {h : r_HI} {g : r_HR} {z : r_HL} {k : Nat} {v0 : Value} (hp : r_pk k = (0, 12)) (hk : k < n) : r_cl G m_Mo_doneBy m_Mo_lasts 53 (.ref (G.2.1 + k) :: [v0]) n h g z := r_clV d_Mo_doneBy_53 w_Mo_lasts (r_in 930 rfl rfl) a_Mo_lasts (r_inP 14 rfl rfl) n_Mo (by decide +kernel : r_mh m_Mo_lasts.1 1) hp hk (by decide)
theorem d_Mo_doneBy_56 : decode m_Mo_doneBy.2.1 56 = .ok (.iadd, 1) := by decide +kernel
theorem d_Mo_doneBy_57 : decode m_Mo_doneBy.2.1 57 = .ok (.ireturn, 1) := by decide +kernel
theorem d_Mo_begin_0 : decode m_Mo_begin.2.1 0 = .ok (.aload_n 0, 1) := by decide +kernel
theorem d_Mo_begin_1 : decode m_Mo_begin.2.1 1 = .ok (.aload_n 0, 1) := by decide +kernel
theorem d_Mo_begin_2 : decode m_Mo_begin.2.1 2 = .ok (.getfield 105, 3) := by decide +kernel
theorem d_Mo_begin_5 : decode m_Mo_begin.2.1 5 = .ok (.putfield 130, 3) := by decide +kernel
theorem d_Mo_begin_8 : decode m_Mo_begin.2.1 8 = .ok (.aload_n 0, 1) := by decide +kernel
theorem d_Mo_begin_9 : decode m_Mo_begin.2.1 9 = .ok (.aload_n 0, 1) := by decide +kernel
theorem d_Mo_begin_10 : decode m_Mo_begin.2.1 10 = .ok (.getfield 108, 3) := by decide +kernel
theorem d_Mo_begin_13 : decode m_Mo_begin.2.1 13 = .ok (.putfield 133, 3) := by decide +kernel
theorem d_Mo_begin_16 : decode m_Mo_begin.2.1 16 = .ok (.aload_n 0, 1) := by decide +kernel
theorem d_Mo_begin_17 : decode m_Mo_begin.2.1 17 = .ok (.aload_n 0, 1) := by decide +kernel
theorem d_Mo_begin_18 : decode m_Mo_begin.2.1 18 = .ok (.getfield 111, 3) := by decide +kernel
theorem d_Mo_begin_21 : decode m_Mo_begin.2.1 21 = .ok (.putfield 136, 3) := by decide +kernel
theorem d_Mo_begin_24 : decode m_Mo_begin.2.1 24 = .ok (.aload_n 0, 1) := by decide +kernel
theorem d_Mo_begin_25 : decode m_Mo_begin.2.1 25 = .ok (.aload_n 0, 1) := by decide +kernel
theorem d_Mo_begin_26 : decode m_Mo_begin.2.1 26 = .ok (.getfield 114, 3) := by decide +kernel
theorem d_Mo_begin_29 : decode m_Mo_begin.2.1 29 = .ok (.putfield 139, 3) := by decide +kernel
theorem d_Mo_begin_32 : decode m_Mo_begin.2.1 32 = .ok (.aload_n 0, 1) := by decide +kernel
theorem d_Mo_begin_33 : decode m_Mo_begin.2.1 33 = .ok (.getfield 19, 3) := by decide +kernel
theorem d_Mo_begin_36 : decode m_Mo_begin.2.1 36 = .ok (.aload_n 0, 1) := by decide +kernel
theorem d_Mo_begin_37 : decode m_Mo_begin.2.1 37 = .ok (.getfield 22, 3) := by decide +kernel
theorem d_Mo_begin_40 : decode m_Mo_begin.2.1 40 = .ok (.invokestatic 142, 3) := by decide +kernel
set_option maxRecDepth 100000 in
theorem s_Mo_begin_40 {G : r_X} {n : Nat} {h : r_HI} {g : r_HR} {z : r_HL} {v0 v1 : Value} : r_cl G m_Mo_begin m_Mo_copy 40 [v0, v1] n h g z := r_clS d_Mo_begin_40 w_Mo_copy (r_in 955 rfl rfl) a_Mo_copy n_Mo (by decide +kernel : r_mh m_Mo_copy.1 2)
theorem d_Mo_begin_43 : decode m_Mo_begin.2.1 43 = .ok (.return_, 1) := by decide +kernel
theorem d_Mo_keep_0 : decode m_Mo_keep.2.1 0 = .ok (.aload_n 0, 1) := by decide +kernel
theorem d_Mo_keep_1 : decode m_Mo_keep.2.1 1 = .ok (.aload_n 0, 1) := by decide +kernel
theorem d_Mo_keep_2 : decode m_Mo_keep.2.1 2 = .ok (.getfield 130, 3) := by decide +kernel
theorem d_Mo_keep_5 : decode m_Mo_keep.2.1 5 = .ok (.putfield 105, 3) := by decide +kernel
theorem d_Mo_keep_8 : decode m_Mo_keep.2.1 8 = .ok (.aload_n 0, 1) := by decide +kernel
theorem d_Mo_keep_9 : decode m_Mo_keep.2.1 9 = .ok (.aload_n 0, 1) := by decide +kernel
theorem d_Mo_keep_10 : decode m_Mo_keep.2.1 10 = .ok (.getfield 133, 3) := by decide +kernel
theorem d_Mo_keep_13 : decode m_Mo_keep.2.1 13 = .ok (.putfield 108, 3) := by decide +kernel
theorem d_Mo_keep_16 : decode m_Mo_keep.2.1 16 = .ok (.aload_n 0, 1) := by decide +kernel
theorem d_Mo_keep_17 : decode m_Mo_keep.2.1 17 = .ok (.aload_n 0, 1) := by decide +kernel
theorem d_Mo_keep_18 : decode m_Mo_keep.2.1 18 = .ok (.getfield 136, 3) := by decide +kernel
theorem d_Mo_keep_21 : decode m_Mo_keep.2.1 21 = .ok (.putfield 111, 3) := by decide +kernel
theorem d_Mo_keep_24 : decode m_Mo_keep.2.1 24 = .ok (.aload_n 0, 1) := by decide +kernel
theorem d_Mo_keep_25 : decode m_Mo_keep.2.1 25 = .ok (.aload_n 0, 1) := by decide +kernel
theorem d_Mo_keep_26 : decode m_Mo_keep.2.1 26 = .ok (.getfield 139, 3) := by decide +kernel
theorem d_Mo_keep_29 : decode m_Mo_keep.2.1 29 = .ok (.putfield 114, 3) := by decide +kernel
theorem d_Mo_keep_32 : decode m_Mo_keep.2.1 32 = .ok (.aload_n 0, 1) := by decide +kernel
theorem d_Mo_keep_33 : decode m_Mo_keep.2.1 33 = .ok (.getfield 22, 3) := by decide +kernel
theorem d_Mo_keep_36 : decode m_Mo_keep.2.1 36 = .ok (.aload_n 0, 1) := by decide +kernel
theorem d_Mo_keep_37 : decode m_Mo_keep.2.1 37 = .ok (.getfield 19, 3) := by decide +kernel
theorem d_Mo_keep_40 : decode m_Mo_keep.2.1 40 = .ok (.invokestatic 142, 3) := by decide +kernel
set_option maxRecDepth 100000 in
theorem s_Mo_keep_40 {G : r_X} {n : Nat} {h : r_HI} {g : r_HR} {z : r_HL} {v0 v1 : Value} : r_cl G m_Mo_keep m_Mo_copy 40 [v0, v1] n h g z := r_clS d_Mo_keep_40 w_Mo_copy (r_in 955 rfl rfl) a_Mo_copy n_Mo (by decide +kernel : r_mh m_Mo_copy.1 2)
theorem d_Mo_keep_43 : decode m_Mo_keep.2.1 43 = .ok (.return_, 1) := by decide +kernel
