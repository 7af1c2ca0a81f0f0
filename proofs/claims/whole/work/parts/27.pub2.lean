theorem xeq {x : Int32} {n : Nat} (hn : n < 2 ^ 31) : x = nI n ↔ x.toInt = (n : Int) := ⟨fun e => by rw [e]; exact nI_toInt hn, x_of⟩
theorem a_bg_lt {n th c : Nat} : ∀ (m gap b : Nat), gap + m ≤ c → b < c → a_bg n th m gap b < c
  | 0, _, _, _, h => h
  | m + 1, gap, b, h1, h2 => by
    unfold a_bg
    refine a_bg_lt m (gap + 1) _ (by omega) ?_
    split <;> omega
theorem p_C.ld {h : r_HI} {p q v : Nat} {Z : a_Z} (hC : p_C h p q Z) : p_C (r_up h 0 16 (nI v)) p q (Z.1, Z.2.1, Z.2.2.1, v, Z.2.2.2.2) := by
  obtain ⟨c1, c2, c6, c7, c8, c9, c10, c11, c12⟩ := hC
  have e : r_ex [0] h (r_up h 0 16 (nI v)) := r_ex.rf.up (by decide)
  exact ⟨c1.ex e (by decide) (by decide), c2.ex e (by decide), c6, rfl, c8, c9, c10, c11, fun f => ⟨(c12 f).1.ex e (by decide), (c12 f).2⟩⟩
theorem a_bf_le {c : List Nat → Nat} {b : Nat × List Nat} {x : List Nat} : (a_bf c b x).1 ≤ b.1 ∧ (a_bf c b x).1 ≤ c x := by
  unfold a_bf
  split
  · rename_i h
    exact ⟨Nat.le_of_lt h, Nat.le_refl _⟩
  · rename_i h
    exact ⟨Nat.le_refl _, Nat.le_of_not_lt h⟩
theorem a_fd_b {c : List Nat → Nat} : ∀ {L : List (List Nat)} {b : Nat × List Nat}, (a_fd c b L).1 ≤ b.1
  | [], b => Nat.le_refl _
  | x :: L, b => Nat.le_trans (a_fd_b (L := L) (b := a_bf c b x)) a_bf_le.1
theorem a_fd_le {c : List Nat → Nat} : ∀ {L : List (List Nat)} {b : Nat × List Nat} {x : List Nat}, x ∈ L → (a_fd c b L).1 ≤ c x
  | [], _, _, h => absurd h List.not_mem_nil
  | y :: L, b, x, h => by
    show (a_fd c (a_bf c b y) L).1 ≤ c x
    rcases List.mem_cons.mp h with rfl | h
    · exact Nat.le_trans a_fd_b a_bf_le.2
    · exact a_fd_le h
theorem a_pc_range : ∀ n, n ≤ 7 → List.range n ∈ a_pc n n 0 [] := by
  intro n hn
  have e : n = 0 ∨ n = 1 ∨ n = 2 ∨ n = 3 ∨ n = 4 ∨ n = 5 ∨ n = 6 ∨ n = 7 := by omega
  rcases e with rfl | rfl | rfl | rfl | rfl | rfl | rfl | rfl
  · decide +kernel
  · decide +kernel
  · decide +kernel
  · decide +kernel
  · decide +kernel
  · decide +kernel
  · decide +kernel
  · decide +kernel
theorem a_ef_le {D : a_D} {K : a_K} (ho : a_dok D) (hk : a_kok D K) : ∀ (x : List Nat) (s : Nat × Nat), s.2 < 10 → (∀ i ∈ x, i < K.2.2.2.1) → (x.foldl (fun s i => (a_dn D s.1 s.2 (K.2.2.2.2.1 i) (K.2.2.2.2.2.1 i), K.2.2.2.2.1 i)) s).1 ≤ s.1 + 125 * x.length ∧ (x.foldl (fun s i => (a_dn D s.1 s.2 (K.2.2.2.2.1 i) (K.2.2.2.2.2.1 i), K.2.2.2.2.1 i)) s).2 < 10
  | [], s, h, _ => ⟨by simp, h⟩
  | i :: x, s, h, hx => by
    have hi := hx i List.mem_cons_self
    obtain ⟨g1, g2, g3⟩ := hk.2.2.2 i hi
    have h10 := ho.1
    have h1 := a_ef_le ho hk x (a_dn D s.1 s.2 (K.2.2.2.2.1 i) (K.2.2.2.2.2.1 i), K.2.2.2.2.1 i) (show K.2.2.2.2.1 i < 10 by omega) (fun j hj => hx j (List.mem_cons_of_mem _ hj))
    have h2 := a_dn_le ho (t := s.1) (p := K.2.2.2.2.2.1 i) h g1
    refine ⟨?_, h1.2⟩
    have h3 := h1.1
    simp only [List.foldl_cons, List.length_cons]
    simp only at h3
    omega
theorem a_lst_lt {D : a_D} {K : a_K} (ho : a_dok D) (hk : a_kok D K) (ht : K.1 ≤ 100000) : (a_fd (a_et D K) (2147483647, []) (a_pc K.2.2.2.1 K.2.2.2.1 0 [])).1 < 2 ^ 20 := by
  have h7 := hk.2.2.1
  have h1 := a_fd_le (c := a_et D K) (b := (2147483647, [])) (a_pc_range K.2.2.2.1 h7)
  have h2 := (a_ef_le ho hk (List.range K.2.2.2.1) (K.1, K.2.1) hk.1 (fun i hi => List.mem_range.mp hi)).1
  have h3 : a_et D K (List.range K.2.2.2.1) ≤ K.1 + 125 * K.2.2.2.1 := by
    rw [List.length_range] at h2
    exact h2
  omega
theorem a_lyy_lt {wt : Nat → Nat} (hw : a_wok wt) : (a_lyy wt).1 < 2 ^ 20 := by
  have h6 := a_hm_le wt 6
  have h1 := a_fd_le (c := a_pp wt) (b := (2147483647, [])) (a_pc_range (a_hm wt 6) (by omega))
  have h2 := a_pp_lt hw (x := List.range (a_hm wt 6)) (by rw [List.length_range]; exact h6) (fun j hj => by
    rw [List.length_range] at hj
    rw [List.getD_eq_getElem?_getD, List.getElem?_range hj]
    show j < 6
    omega)
  exact Nat.lt_of_le_of_lt h1 h2
theorem a_beI0 {a b u : Nat} (h1 : a < 24) (h2 : b < 24) (h3 : u ≤ 90) : (48 : Int32) + nI u + iI ((nI b - (nI a + 24 + nI u)).toInt % 24) = nI (48 + u + (b + 23 * (a + 24 + u)) % 24) := by
  rw [show (48 : Int32) = nI 48 from rfl, show (24 : Int32) = nI 24 from rfl]
  simp only [iI_n, iI_add, iI_sub]
  rw [iI_to (by omega) (by omega)]
  congr 1
  omega
theorem a_beI1 {a u : Nat} (h1 : a < 24) (h3 : u ≤ 90) : iI ((nI a + 24 + nI u).toInt % 24) = nI ((a + u) % 24) := by
  rw [show (24 : Int32) = nI 24 from rfl]
  simp only [iI_n, iI_add]
  rw [iI_to (by omega) (by omega)]
  congr 1
  omega
theorem a_beI2 {u : Nat} : (48 : Int32) + nI u = nI (48 + u) := nI_add 48 u
set_option maxRecDepth 100000 in
set_option maxHeartbeats 4000000 in
theorem c_Ra_plate {G : r_X} {d : Nat} {h : r_HI} {p q : Nat} {z : r_HL} {F : Int32 → r_HI → r_HR → r_HL → Prop} {Z : a_Z} (hC : p_C h p q Z) (ho : a_zok Z) (hF : ∀ h' p' q', r_mo h h' → p_C h' p' q' (s_plate Z).2 → F (s_plate Z).1 h' (r_gp p' q') z) : r_Ci G m_Ra_plate (d + 20) 61 [.ref (G.2.1 + 0)] 61 h (r_gp p q) z F := by
  obtain ⟨hP, ⟨hD, hK, hW, hS⟩, hpr, hld, hik, hpo, hkd, hqo, hkept⟩ := id hC
  obtain ⟨op, ⟨od, ok, otk, ow, os, okd⟩, o3, o4, o5, o6, o7⟩ := id ho
  obtain ⟨od1, od2, od3, od4⟩ := id od
  obtain ⟨ok1, ok2, ok3, ok4⟩ := id ok
  have os1 := os.1
  have op1 := op.1
  by_cases hb : a_ipb Z.1 = true
  · obtain ⟨E, hv⟩ := a_vp_of op (a_ipb_iff.mp hb)
    obtain ⟨v1, v2, v3, v4, v5, v6, v7, v8, v9, v10, v11⟩ := id hv
    have hko : a_ko (Z.1.2 (Z.1.1 - 1)) < 5 := by rw [v4]; exact v11
    have hsz : a_re Z.1.2 Z.1.1 0 = E := v5
    subst hsz
    have hs : s_plate Z = (nI (a_re Z.1.2 Z.1.1 0 / 2), ((0, Z.1.2), (a_rd Z.1.2 (a_re Z.1.2 Z.1.1 0), a_K0, (fun _ => 0), (0, Z.2.1.2.2.2.1.2), a_ko (Z.1.2 (Z.1.1 - 1))), Z.2.2.1 + 1, Z.2.2.2.1, 0, Z.2.2.2.2.2)) := by simp [s_plate, hb]
    rw [hs] at hF
    refine r_C_of (by decide +kernel) (Nat.le_of_ble_eq_true rfl) ?_
    refine j_ls (ls' := [(0, _)]) rfl ?_
    refine j_aload_n d_Ra_plate_0 rfl rfl ?_
    refine j_getr d_Ra_plate_1 f_Ra_10 rfl rfl (by decide) rfl ?_
    refine q_i (s_Ra_plate_4 rfl (by decide)) rfl (Nat.le_of_ble_eq_true rfl) (Nat.le_of_ble_eq_true rfl) ?_
    refine c_Pa_isPlate hP op (b := a_ipb Z.1) a_ipb_iff ?_
    rw [if_pos hb]
    refine j_if_ne (tgt := 13) d_Ra_plate_7 rfl (fun bq1 => ?_) (fun bq1 => False.elim (absurd bq1 (by decide)))
    refine j_aload_n d_Ra_plate_13 rfl rfl ?_
    refine j_aload_n d_Ra_plate_14 rfl rfl ?_
    refine j_aload_n d_Ra_plate_15 rfl rfl ?_
    refine j_getr d_Ra_plate_16 f_Ra_10 rfl rfl (by decide) rfl ?_
    refine q_i (s_Ra_plate_19 rfl (by decide)) rfl (Nat.le_of_ble_eq_true rfl) (Nat.le_of_ble_eq_true rfl) ?_
    refine c_Pa_policyKind hP op (by omega) ?_
    rw [if_neg (by omega)]
    refine q_a (s_Ra_plate_22 rfl (by decide)) rfl (Nat.le_of_ble_eq_true rfl) (Nat.le_of_ble_eq_true rfl) ?_
    refine c_Ra_policyOf hko rfl ?_
    refine j_putr d_Ra_plate_25 f_Ra_65 (by decide) rfl rfl (by decide) ?_
    rw [r_gp_p]
    refine j_aload_n d_Ra_plate_28 rfl rfl ?_
    refine j_getr d_Ra_plate_29 f_Ra_19 rfl rfl (by decide) rfl ?_
    refine j_aload_n d_Ra_plate_32 rfl rfl ?_
    refine j_getr d_Ra_plate_33 f_Ra_10 rfl rfl (by decide) rfl ?_
    refine q_v (s_Ra_plate_36 rfl (by decide)) rfl (Nat.le_of_ble_eq_true rfl) (Nat.le_of_ble_eq_true rfl) ?_
    refine c_Di_readFrom hP op hv (fun h1 q1 d1 => ?_)
    refine j_aload_n d_Ra_plate_39 rfl rfl ?_
    refine j_getr d_Ra_plate_40 f_Ra_10 rfl rfl (by decide) rfl ?_
    refine q_i (s_Ra_plate_43 rfl (by decide)) rfl (Nat.le_of_ble_eq_true rfl) (Nat.le_of_ble_eq_true rfl) ?_
    refine c_Pa_clear (hP.ex q1 (by decide) (by decide)) op (fun h2 q2 p2 => ?_)
    refine j_pop d_Ra_plate_46 rfl ?_
    refine j_aload_n d_Ra_plate_47 rfl rfl ?_
    refine j_getr d_Ra_plate_48 f_Ra_28 rfl rfl (by decide) rfl ?_
    refine q_v (s_Ra_plate_51 rfl (by decide)) rfl (Nat.le_of_ble_eq_true rfl) (Nat.le_of_ble_eq_true rfl) ?_
    refine c_Dk_restart (fun h3 q3 k3 => ?_)
    refine j_aload_n d_Ra_plate_54 rfl rfl ?_
    refine j_getr d_Ra_plate_55 f_Ra_35 rfl rfl (by decide) rfl ?_
    refine q_v (s_Ra_plate_58 rfl (by decide)) rfl (Nat.le_of_ble_eq_true rfl) (Nat.le_of_ble_eq_true rfl) ?_
    refine c_Th_clear (fun h4 q4 w4 => ?_)
    refine j_aload_n d_Ra_plate_61 rfl rfl ?_
    refine j_getr d_Ra_plate_62 f_Ra_42 rfl rfl (by decide) rfl ?_
    refine q_i (s_Ra_plate_65 rfl (by decide)) rfl (Nat.le_of_ble_eq_true rfl) (Nat.le_of_ble_eq_true rfl) ?_
    refine c_Si_clear ((((hS.ex q1 (by decide) (by decide) (by decide)).ex q2 (by decide) (by decide) (by decide)).ex q3 (by decide) (by decide) (by decide)).ex q4 (by decide) (by decide) (by decide)) os (fun h5 q5 s5 => ?_)
    refine j_pop d_Ra_plate_68 rfl ?_
    refine j_aload_n d_Ra_plate_69 rfl rfl ?_
    refine j_iconst (v := 0) d_Ra_plate_70 rfl ?_
    refine j_putz d_Ra_plate_71 f_Ra_84 (by decide) rfl rfl (by decide) (by decide) ?_
    refine j_aload_n d_Ra_plate_74 rfl rfl ?_
    refine j_dup d_Ra_plate_75 rfl ?_
    refine j_geti d_Ra_plate_76 f_Ra_98 rfl rfl (by decide) ?_
    refine j_iconst (v := 1) d_Ra_plate_79 rfl ?_
    refine j_iadd d_Ra_plate_80 ?_
    refine j_puti d_Ra_plate_81 f_Ra_98 (by decide) rfl rfl (by decide) ?_
    refine j_aload_n d_Ra_plate_84 rfl rfl ?_
    refine j_getr d_Ra_plate_85 f_Ra_19 rfl rfl (by decide) rfl ?_
    refine j_geti d_Ra_plate_88 f_Ra_140 rfl rfl (by decide) ?_
    refine j_iret d_Ra_plate_91 rfl ?_
    have z1 : r_ex [1, 3, 4, 5, 6, 7, 12, 15] h h5 := ((((q1.mono (by decide)).tr q2 (by decide)).tr q3 (by decide)).tr q4 (by decide)).tr q5 (by decide)
    have z2 : r_ex [0, 1, 3, 4, 5, 6, 7, 12, 15] h (r_up (r_up h5 0 12 0) 0 15 (nI (Z.2.2.1 + 1))) := ((z1.mono (by decide)).up (by decide)).up (by decide)
    have z3 : r_ex [0] h5 (r_up (r_up h5 0 12 0) 0 15 (nI (Z.2.2.1 + 1))) := (r_ex.rf.up (by decide)).up (by decide)
    have z4 : r_ex [1, 7, 12, 15] h1 h5 := (((q2.mono (by decide)).tr q3 (by decide)).tr q4 (by decide)).tr q5 (by decide)
    have z5 : r_ex [7, 12, 15] h2 h5 := ((q3.mono (by decide)).tr q4 (by decide)).tr q5 (by decide)
    have z6 : r_ex [12, 15] h3 h5 := (q4.mono (by decide)).tr q5 (by decide)
    have y3 : h5 0 15 = nI Z.2.2.1 := by rw [z1 0 (by decide)]; exact hpr
    have y4 : r_up (r_up h5 0 12 0) 0 15 (r_up h5 0 12 0 0 15 + 1) = r_up (r_up h5 0 12 0) 0 15 (nI (Z.2.2.1 + 1)) := by
      congr 1
      show h5 0 15 + 1 = _
      rw [y3, nI_1]
    refine q_h1 (hF _ _ _ (z2.mo (by decide)) ?_) ?_ y4
    · exact ⟨(p2.ex z5 (by decide) (by decide)).ex z3 (by decide) (by decide), ⟨(d1.ex z4 (by decide) (by decide) (by decide) (by decide)).ex z3 (by decide) (by decide) (by decide) (by decide), (k3.ex z6 (by decide) (by decide) (by decide) (by decide)).ex z3 (by decide) (by decide) (by decide) (by decide), (w4.ex q5 (by decide)).ex z3 (by decide), s5.ex z3 (by decide) (by decide) (by decide)⟩, rfl, by rw [← hld]; exact congrFun (z1 0 (by decide)) 16, rfl, ⟨by omega, by omega⟩, (show ∀ k, k < 5 → r_kd (19 + k) = k by decide) _ hko, hqo, fun f => absurd (show (0 : Nat) = 1 from f) (by decide)⟩
    · show h5 3 3 = _
      rw [z4 3 (by decide)]
      exact d1.1
  · have hs : s_plate Z = (-103, Z) := by simp [s_plate, hb]
    rw [hs] at hF
    refine r_C_of (by decide +kernel) (Nat.le_of_ble_eq_true rfl) ?_
    refine j_ls (ls' := [(0, _)]) rfl ?_
    refine j_aload_n d_Ra_plate_0 rfl rfl ?_
    refine j_getr d_Ra_plate_1 f_Ra_10 rfl rfl (by decide) rfl ?_
    refine q_i (s_Ra_plate_4 rfl (by decide)) rfl (Nat.le_of_ble_eq_true rfl) (Nat.le_of_ble_eq_true rfl) ?_
    refine c_Pa_isPlate hP op (b := a_ipb Z.1) a_ipb_iff ?_
    rw [if_neg hb]
    refine j_if_ne (tgt := 13) d_Ra_plate_7 rfl (fun bq1 => False.elim (bq1 rfl)) (fun bq1 => ?_)
    refine j_bipush (v := (-103)) d_Ra_plate_10 (by decide) ?_
    refine j_iret d_Ra_plate_12 rfl ?_
    exact q_i1 (hF _ _ _ r_mo.rf hC) rfl
set_option maxRecDepth 100000 in
set_option maxHeartbeats 4000000 in
theorem c_Ra_run {G : r_X} {d : Nat} {h : r_HI} {p q : Nat} {z : r_HL} {F : Int32 → r_HI → r_HR → r_HL → Prop} {Z : a_Z} {x w : Int32} (hC : p_C h p q Z) (ho : a_zok Z) (hF : ∀ h', r_ex r_scr h h' → F (s_run Z x w) h' (r_gp p q) z) : r_Ci G m_Ra_run (d + 20) 61 [.ref (G.2.1 + 0), .int x, .int w] 61 h (r_gp p q) z F := by
  obtain ⟨hP, ⟨hD, hK, hW, hS⟩, hpr, hld, hik, hpo, hkd, hqo, hkept⟩ := id hC
  obtain ⟨op, ⟨od, ok, otk, ow, os, okd⟩, o3, o4, o5, o6, o7⟩ := id ho
  obtain ⟨od1, od2, od3, od4⟩ := id od
  obtain ⟨ok1, ok2, ok3, ok4⟩ := id ok
  have os1 := os.1
  have op1 := op.1
  rcases ixc x 5 with ⟨ix1, hr1⟩ | ⟨k, hj1, e1, ix1, t1⟩
  · have hs : s_run Z x w = -102 := by simp [s_run, ix1]
    rw [hs] at hF
    refine r_C_of (by decide +kernel) (Nat.le_of_ble_eq_true rfl) ?_
    refine j_ls (ls' := [(0, _), (1, _), (2, _)]) rfl ?_
    refine j_iload_n d_Ra_run_0 rfl rfl ?_
    refine q_i s_Ra_run_1 rfl (Nat.le_of_ble_eq_true rfl) (Nat.le_of_ble_eq_true rfl) ?_
    refine c_Ra_kindN hr1 ?_
    refine j_if_eq (tgt := 16) d_Ra_run_4 rfl (fun bq1 => ?_) (fun bq1 => False.elim (bq1 rfl))
    refine j_bipush (v := (-102)) d_Ra_run_16 (by decide) ?_
    refine j_iret d_Ra_run_18 rfl ?_
    exact q_i1 (hF _ r_ex.rf) rfl
  · rcases ixc w 2 with ⟨ix2, hr2⟩ | ⟨v, hj2, e2, ix2, t2⟩
    · rcases hr2 with hr2 | hr2
      · have hs : s_run Z x w = -102 := by simp [s_run, ix1, ix2]
        rw [hs] at hF
        refine r_C_of (by decide +kernel) (Nat.le_of_ble_eq_true rfl) ?_
        refine j_ls (ls' := [(0, _), (1, _), (2, _)]) rfl ?_
        refine j_iload_n d_Ra_run_0 rfl rfl ?_
        refine q_i s_Ra_run_1 rfl (Nat.le_of_ble_eq_true rfl) (Nat.le_of_ble_eq_true rfl) ?_
        refine c_Ra_kindY hj1 e1 ?_
        refine j_if_eq (tgt := 16) d_Ra_run_4 rfl (fun bq1 => False.elim (absurd bq1 (by decide))) (fun bq1 => ?_)
        refine j_iload_n d_Ra_run_7 rfl rfl ?_
        refine j_if_lt (tgt := 16) d_Ra_run_8 rfl (fun bq2 => ?_) (fun bq2 => False.elim (bq2 ((xlt (n := 0) (by decide)).mpr (by omega))))
        refine j_bipush (v := (-102)) d_Ra_run_16 (by decide) ?_
        refine j_iret d_Ra_run_18 rfl ?_
        exact q_i1 (hF _ r_ex.rf) rfl
      · have hs : s_run Z x w = -102 := by simp [s_run, ix1, ix2]
        rw [hs] at hF
        refine r_C_of (by decide +kernel) (Nat.le_of_ble_eq_true rfl) ?_
        refine j_ls (ls' := [(0, _), (1, _), (2, _)]) rfl ?_
        refine j_iload_n d_Ra_run_0 rfl rfl ?_
        refine q_i s_Ra_run_1 rfl (Nat.le_of_ble_eq_true rfl) (Nat.le_of_ble_eq_true rfl) ?_
        refine c_Ra_kindY hj1 e1 ?_
        refine j_if_eq (tgt := 16) d_Ra_run_4 rfl (fun bq1 => False.elim (absurd bq1 (by decide))) (fun bq1 => ?_)
        refine j_iload_n d_Ra_run_7 rfl rfl ?_
        refine j_if_lt (tgt := 16) d_Ra_run_8 rfl (fun bq2 => False.elim (absurd ((xlt (n := 0) (by decide)).mp bq2) (by omega))) (fun bq2 => ?_)
        refine j_iload_n d_Ra_run_11 rfl rfl ?_
        refine j_iconst (v := 1) d_Ra_run_12 rfl ?_
        refine j_icmp_le (tgt := 19) d_Ra_run_13 rfl (fun bq3 => False.elim (absurd ((xle (n := 1) (by decide)).mp bq3) (by omega))) (fun bq3 => ?_)
        refine j_bipush (v := (-102)) d_Ra_run_16 (by decide) ?_
        refine j_iret d_Ra_run_18 rfl ?_
        exact q_i1 (hF _ r_ex.rf) rfl
    · by_cases hR : Z.2.1.1.1 = 0
      · have hs : s_run Z x w = -103 := by simp [s_run, ix1, ix2, hR]
        rw [hs] at hF
        refine r_C_of (by decide +kernel) (Nat.le_of_ble_eq_true rfl) ?_
        refine j_ls (ls' := [(0, _), (1, _), (2, _)]) rfl ?_
        refine j_iload_n d_Ra_run_0 rfl rfl ?_
        refine q_i s_Ra_run_1 rfl (Nat.le_of_ble_eq_true rfl) (Nat.le_of_ble_eq_true rfl) ?_
        refine c_Ra_kindY hj1 e1 ?_
        refine j_if_eq (tgt := 16) d_Ra_run_4 rfl (fun bq1 => False.elim (absurd bq1 (by decide))) (fun bq1 => ?_)
        refine j_iload_n d_Ra_run_7 rfl rfl ?_
        refine j_if_lt (tgt := 16) d_Ra_run_8 rfl (fun bq2 => False.elim (absurd ((xlt (n := 0) (by decide)).mp bq2) (by omega))) (fun bq2 => ?_)
        refine j_iload_n d_Ra_run_11 rfl rfl ?_
        refine j_iconst (v := 1) d_Ra_run_12 rfl ?_
        refine j_icmp_le (tgt := 19) d_Ra_run_13 rfl (fun bq3 => ?_) (fun bq3 => False.elim (bq3 ((xle (n := 1) (by decide)).mpr (by omega))))
        refine j_aload_n d_Ra_run_19 rfl rfl ?_
        refine q_i (s_Ra_run_20 rfl (by decide)) rfl (Nat.le_of_ble_eq_true rfl) (Nat.le_of_ble_eq_true rfl) ?_
        refine c_hpN hR hD.1 ?_
        refine j_if_ne (tgt := 29) d_Ra_run_23 rfl (fun bq4 => False.elim (bq4 rfl)) (fun bq4 => ?_)
        refine j_bipush (v := (-103)) d_Ra_run_26 (by decide) ?_
        refine j_iret d_Ra_run_28 rfl ?_
        exact q_i1 (hF _ r_ex.rf) rfl
      · by_cases v0 : v = 0
        · have hs : s_run Z x w = nI (a_all Z.2.1.1 k Z.2.1.2.1.2.2.2.1 Z.2.1.2.1 0).1.1 := by simp [s_run, ix1, ix2, hR, v0]
          rw [hs] at hF
          refine r_C_of (by decide +kernel) (Nat.le_of_ble_eq_true rfl) ?_
          refine j_ls (ls' := [(0, _), (1, _), (2, _)]) rfl ?_
          refine j_iload_n d_Ra_run_0 rfl rfl ?_
          refine q_i s_Ra_run_1 rfl (Nat.le_of_ble_eq_true rfl) (Nat.le_of_ble_eq_true rfl) ?_
          refine c_Ra_kindY hj1 e1 ?_
          refine j_if_eq (tgt := 16) d_Ra_run_4 rfl (fun bq1 => False.elim (absurd bq1 (by decide))) (fun bq1 => ?_)
          refine j_iload_n d_Ra_run_7 rfl rfl ?_
          refine j_if_lt (tgt := 16) d_Ra_run_8 rfl (fun bq2 => False.elim (absurd ((xlt (n := 0) (by decide)).mp bq2) (by omega))) (fun bq2 => ?_)
          refine j_iload_n d_Ra_run_11 rfl rfl ?_
          refine j_iconst (v := 1) d_Ra_run_12 rfl ?_
          refine j_icmp_le (tgt := 19) d_Ra_run_13 rfl (fun bq3 => ?_) (fun bq3 => False.elim (bq3 ((xle (n := 1) (by decide)).mpr (by omega))))
          refine j_aload_n d_Ra_run_19 rfl rfl ?_
          refine q_i (s_Ra_run_20 rfl (by decide)) rfl (Nat.le_of_ble_eq_true rfl) (Nat.le_of_ble_eq_true rfl) ?_
          refine c_hpY (by omega) od1 hD.1 ?_
          refine j_if_ne (tgt := 29) d_Ra_run_23 rfl (fun bq4 => ?_) (fun bq4 => False.elim (absurd bq4 (by decide)))
          refine j_aload_n d_Ra_run_29 rfl rfl ?_
          refine j_getr d_Ra_run_30 f_Ra_88 rfl rfl (by decide) rfl ?_
          refine j_aload_n d_Ra_run_33 rfl rfl ?_
          refine j_getr d_Ra_run_34 f_Ra_28 rfl rfl (by decide) rfl ?_
          refine q_v (s_Ra_run_37 rfl (by decide)) rfl (Nat.le_of_ble_eq_true rfl) (Nat.le_of_ble_eq_true rfl) ?_
          refine c_Dk_copyFrom_40_7 hK ok (fun h1 q1 k1 w1 => ?_)
          refine j_aload_n d_Ra_run_40 rfl rfl ?_
          refine j_getr d_Ra_run_41 f_Ra_88 rfl rfl (by decide) rfl ?_
          refine j_aload_n d_Ra_run_44 rfl rfl ?_
          refine j_iload_n d_Ra_run_45 rfl rfl ?_
          refine q_a (s_Ra_run_46 rfl (by decide)) rfl (Nat.le_of_ble_eq_true rfl) (Nat.le_of_ble_eq_true rfl) ?_
          refine c_Ra_policyOf hj1 e1 ?_
          refine q_v (s_Ra_run_49 rfl (by decide)) rfl (Nat.le_of_ble_eq_true rfl) (Nat.le_of_ble_eq_true rfl) ?_
          have hD1 : p_D h1 3 Z.2.1.1 := hD.ex q1 (by decide) (by decide) (by decide) (by decide)
          refine c_Dk_followAll_40 hD1 od k1 ok (P := 19 + k) (s := 0) ⟨by omega, by omega⟩ (by omega) w1 (fun h2 q2 k2 w2 => ?_)
          rw [show r_kd (19 + k) = k from (show ∀ k, k < 5 → r_kd (19 + k) = k by decide) k hj1] at k2 w2
          refine j_iload_n d_Ra_run_52 rfl rfl ?_
          refine j_if_ne (tgt := 66) d_Ra_run_53 rfl (fun bq5 => False.elim (bq5 ((xeq (n := 0) (by decide)).mpr (by omega)))) (fun bq5 => ?_)
          refine j_aload_n d_Ra_run_56 rfl rfl ?_
          refine j_getr d_Ra_run_57 f_Ra_88 rfl rfl (by decide) rfl ?_
          refine j_geti d_Ra_run_60 f_Ra_205 rfl rfl (by decide) ?_
          refine j_goto (tgt := 73) d_Ra_run_63 rfl ?_
          refine j_iret d_Ra_run_73 rfl ?_
          exact q_i1 (hF _ (r_ex.tr (A := r_scr) (q1.mono (by decide)) q2 (by decide))) k2.2.1
        · have hs : s_run Z x w = nI (a_all Z.2.1.1 k Z.2.1.2.1.2.2.2.1 Z.2.1.2.1 0).2 := by simp [s_run, ix1, ix2, hR, v0]
          rw [hs] at hF
          refine r_C_of (by decide +kernel) (Nat.le_of_ble_eq_true rfl) ?_
          refine j_ls (ls' := [(0, _), (1, _), (2, _)]) rfl ?_
          refine j_iload_n d_Ra_run_0 rfl rfl ?_
          refine q_i s_Ra_run_1 rfl (Nat.le_of_ble_eq_true rfl) (Nat.le_of_ble_eq_true rfl) ?_
          refine c_Ra_kindY hj1 e1 ?_
          refine j_if_eq (tgt := 16) d_Ra_run_4 rfl (fun bq1 => False.elim (absurd bq1 (by decide))) (fun bq1 => ?_)
          refine j_iload_n d_Ra_run_7 rfl rfl ?_
          refine j_if_lt (tgt := 16) d_Ra_run_8 rfl (fun bq2 => False.elim (absurd ((xlt (n := 0) (by decide)).mp bq2) (by omega))) (fun bq2 => ?_)
          refine j_iload_n d_Ra_run_11 rfl rfl ?_
          refine j_iconst (v := 1) d_Ra_run_12 rfl ?_
          refine j_icmp_le (tgt := 19) d_Ra_run_13 rfl (fun bq3 => ?_) (fun bq3 => False.elim (bq3 ((xle (n := 1) (by decide)).mpr (by omega))))
          refine j_aload_n d_Ra_run_19 rfl rfl ?_
          refine q_i (s_Ra_run_20 rfl (by decide)) rfl (Nat.le_of_ble_eq_true rfl) (Nat.le_of_ble_eq_true rfl) ?_
          refine c_hpY (by omega) od1 hD.1 ?_
          refine j_if_ne (tgt := 29) d_Ra_run_23 rfl (fun bq4 => ?_) (fun bq4 => False.elim (absurd bq4 (by decide)))
          refine j_aload_n d_Ra_run_29 rfl rfl ?_
          refine j_getr d_Ra_run_30 f_Ra_88 rfl rfl (by decide) rfl ?_
          refine j_aload_n d_Ra_run_33 rfl rfl ?_
          refine j_getr d_Ra_run_34 f_Ra_28 rfl rfl (by decide) rfl ?_
          refine q_v (s_Ra_run_37 rfl (by decide)) rfl (Nat.le_of_ble_eq_true rfl) (Nat.le_of_ble_eq_true rfl) ?_
          refine c_Dk_copyFrom_40_7 hK ok (fun h1 q1 k1 w1 => ?_)
          refine j_aload_n d_Ra_run_40 rfl rfl ?_
          refine j_getr d_Ra_run_41 f_Ra_88 rfl rfl (by decide) rfl ?_
          refine j_aload_n d_Ra_run_44 rfl rfl ?_
          refine j_iload_n d_Ra_run_45 rfl rfl ?_
          refine q_a (s_Ra_run_46 rfl (by decide)) rfl (Nat.le_of_ble_eq_true rfl) (Nat.le_of_ble_eq_true rfl) ?_
          refine c_Ra_policyOf hj1 e1 ?_
          refine q_v (s_Ra_run_49 rfl (by decide)) rfl (Nat.le_of_ble_eq_true rfl) (Nat.le_of_ble_eq_true rfl) ?_
          have hD1 : p_D h1 3 Z.2.1.1 := hD.ex q1 (by decide) (by decide) (by decide) (by decide)
          refine c_Dk_followAll_40 hD1 od k1 ok (P := 19 + k) (s := 0) ⟨by omega, by omega⟩ (by omega) w1 (fun h2 q2 k2 w2 => ?_)
          rw [show r_kd (19 + k) = k from (show ∀ k, k < 5 → r_kd (19 + k) = k by decide) k hj1] at k2 w2
          refine j_iload_n d_Ra_run_52 rfl rfl ?_
          refine j_if_ne (tgt := 66) d_Ra_run_53 rfl (fun bq5 => ?_) (fun bq5 => False.elim (absurd ((xeq (n := 0) (by decide)).mp bq5) (by omega)))
          refine j_aload_n d_Ra_run_66 rfl rfl ?_
          refine j_getr d_Ra_run_67 f_Ra_88 rfl rfl (by decide) rfl ?_
          refine j_geti d_Ra_run_70 f_Ra_230 rfl rfl (by decide) ?_
          refine j_iret d_Ra_run_73 rfl ?_
          exact q_i1 (hF _ (r_ex.tr (A := r_scr) (q1.mono (by decide)) q2 (by decide))) w2
set_option maxRecDepth 100000 in
set_option maxHeartbeats 4000000 in
theorem c_Ra_least {G : r_X} {d : Nat} {h : r_HI} {p q : Nat} {z : r_HL} {F : Int32 → r_HI → r_HR → r_HL → Prop} {Z : a_Z} {x : Int32} (hC : p_C h p q Z) (ho : a_zok Z) (hF : ∀ h' p' q', r_mo h h' → p_C h' p' q' (s_least Z x).2 → F (s_least Z x).1 h' (r_gp p' q') z) : r_Ci G m_Ra_least (d + 20) 61 [.ref (G.2.1 + 0), .int x] 61 h (r_gp p q) z F := by
  obtain ⟨hP, ⟨hD, hK, hW, hS⟩, hpr, hld, hik, hpo, hkd, hqo, hkept⟩ := id hC
  obtain ⟨op, ⟨od, ok, otk, ow, os, okd⟩, o3, o4, o5, o6, o7⟩ := id ho
  obtain ⟨od1, od2, od3, od4⟩ := id od
  obtain ⟨ok1, ok2, ok3, ok4⟩ := id ok
  have os1 := os.1
  have op1 := op.1
  rcases ixc x 17 with ⟨ix1, hr1⟩ | ⟨v, hj1, e1, ix1, t1⟩
  · rcases hr1 with hr1 | hr1
    · have hs : s_least Z x = (-102, Z) := by simp [s_least, ix1]
      rw [hs] at hF
      refine r_C_of (by decide +kernel) (Nat.le_of_ble_eq_true rfl) ?_
      refine j_ls (ls' := [(0, _), (1, _)]) rfl ?_
      refine j_iload_n d_Ra_least_0 rfl rfl ?_
      refine j_if_eq (tgt := 19) d_Ra_least_1 rfl (fun bq1 => False.elim (absurd ((xeq (n := 0) (by decide)).mp bq1) (by omega))) (fun bq1 => ?_)
      refine j_iload_n d_Ra_least_4 rfl rfl ?_
      refine j_bipush (v := 10) d_Ra_least_5 (by decide) ?_
      refine j_icmp_lt (tgt := 16) d_Ra_least_7 rfl (fun bq2 => ?_) (fun bq2 => False.elim (bq2 ((xlt (n := 10) (by decide)).mpr (by omega))))
      refine j_bipush (v := (-102)) d_Ra_least_16 (by decide) ?_
      refine j_iret d_Ra_least_18 rfl ?_
      exact q_i1 (hF _ _ _ r_mo.rf hC) rfl
    · have hs : s_least Z x = (-102, Z) := by simp [s_least, ix1]
      rw [hs] at hF
      refine r_C_of (by decide +kernel) (Nat.le_of_ble_eq_true rfl) ?_
      refine j_ls (ls' := [(0, _), (1, _)]) rfl ?_
      refine j_iload_n d_Ra_least_0 rfl rfl ?_
      refine j_if_eq (tgt := 19) d_Ra_least_1 rfl (fun bq1 => False.elim (absurd ((xeq (n := 0) (by decide)).mp bq1) (by omega))) (fun bq1 => ?_)
      refine j_iload_n d_Ra_least_4 rfl rfl ?_
      refine j_bipush (v := 10) d_Ra_least_5 (by decide) ?_
      refine j_icmp_lt (tgt := 16) d_Ra_least_7 rfl (fun bq2 => False.elim (absurd ((xlt (n := 10) (by decide)).mp bq2) (by omega))) (fun bq2 => ?_)
      refine j_iload_n d_Ra_least_10 rfl rfl ?_
      refine j_bipush (v := 17) d_Ra_least_11 (by decide) ?_
      refine j_icmp_lt (tgt := 19) d_Ra_least_13 rfl (fun bq3 => False.elim (absurd ((xlt (n := 17) (by decide)).mp bq3) (by omega))) (fun bq3 => ?_)
      refine j_bipush (v := (-102)) d_Ra_least_16 (by decide) ?_
      refine j_iret d_Ra_least_18 rfl ?_
      exact q_i1 (hF _ _ _ r_mo.rf hC) rfl
  · by_cases v0 : v = 0
    · by_cases hR : Z.2.1.1.1 = 0
      · have hs : s_least Z x = (-103, Z) := by simp [s_least, ix1, v0, hR]
        rw [hs] at hF
        refine r_C_of (by decide +kernel) (Nat.le_of_ble_eq_true rfl) ?_
        refine j_ls (ls' := [(0, _), (1, _)]) rfl ?_
        refine j_iload_n d_Ra_least_0 rfl rfl ?_
        refine j_if_eq (tgt := 19) d_Ra_least_1 rfl (fun bq1 => ?_) (fun bq1 => False.elim (bq1 ((xeq (n := 0) (by decide)).mpr (by omega))))
        refine j_aload_n d_Ra_least_19 rfl rfl ?_
        refine q_i (s_Ra_least_20 rfl (by decide)) rfl (Nat.le_of_ble_eq_true rfl) (Nat.le_of_ble_eq_true rfl) ?_
        refine c_hpN hR hD.1 ?_
        refine j_if_eq (tgt := 35) d_Ra_least_23 rfl (fun bq2 => ?_) (fun bq2 => False.elim (bq2 rfl))
        refine j_bipush (v := (-103)) d_Ra_least_35 (by decide) ?_
        refine j_iret d_Ra_least_37 rfl ?_
        exact q_i1 (hF _ _ _ r_mo.rf hC) rfl
      · by_cases h16 : 16 ≤ Z.2.2.2.1
        · have hs : s_least Z x = (-103, Z) := by simp [s_least, ix1, v0, h16]
          rw [hs] at hF
          refine r_C_of (by decide +kernel) (Nat.le_of_ble_eq_true rfl) ?_
          refine j_ls (ls' := [(0, _), (1, _)]) rfl ?_
          refine j_iload_n d_Ra_least_0 rfl rfl ?_
          refine j_if_eq (tgt := 19) d_Ra_least_1 rfl (fun bq1 => ?_) (fun bq1 => False.elim (bq1 ((xeq (n := 0) (by decide)).mpr (by omega))))
          refine j_aload_n d_Ra_least_19 rfl rfl ?_
          refine q_i (s_Ra_least_20 rfl (by decide)) rfl (Nat.le_of_ble_eq_true rfl) (Nat.le_of_ble_eq_true rfl) ?_
          refine c_hpY (by omega) od1 hD.1 ?_
          refine j_if_eq (tgt := 35) d_Ra_least_23 rfl (fun bq2 => False.elim (absurd bq2 (by decide))) (fun bq2 => ?_)
          refine j_aload_n d_Ra_least_26 rfl rfl ?_
          refine j_geti d_Ra_least_27 f_Ra_102 rfl rfl (by decide) ?_
          rw [hld]
          refine j_bipush (v := 16) d_Ra_least_30 (by decide) ?_
          refine j_icmp_lt (tgt := 38) d_Ra_least_32 rfl (fun bq3 => False.elim (nI_nlt (a := Z.2.2.2.1) (b := 16) (by omega) (by omega) bq3)) (fun bq3 => ?_)
          refine j_bipush (v := (-103)) d_Ra_least_35 (by decide) ?_
          refine j_iret d_Ra_least_37 rfl ?_
          exact q_i1 (hF _ _ _ r_mo.rf hC) rfl
        · have hs : s_least Z x = (nI (a_lst Z).1, (Z.1, Z.2.1, Z.2.2.1, Z.2.2.2.1 + 1, Z.2.2.2.2)) := by simp [s_least, ix1, v0, hR, h16]
          rw [hs] at hF
          refine r_C_of (by decide +kernel) (Nat.le_of_ble_eq_true rfl) ?_
          refine j_ls (ls' := [(0, _), (1, _)]) rfl ?_
          refine j_iload_n d_Ra_least_0 rfl rfl ?_
          refine j_if_eq (tgt := 19) d_Ra_least_1 rfl (fun bq1 => ?_) (fun bq1 => False.elim (bq1 ((xeq (n := 0) (by decide)).mpr (by omega))))
          refine j_aload_n d_Ra_least_19 rfl rfl ?_
          refine q_i (s_Ra_least_20 rfl (by decide)) rfl (Nat.le_of_ble_eq_true rfl) (Nat.le_of_ble_eq_true rfl) ?_
          refine c_hpY (by omega) od1 hD.1 ?_
          refine j_if_eq (tgt := 35) d_Ra_least_23 rfl (fun bq2 => False.elim (absurd bq2 (by decide))) (fun bq2 => ?_)
          refine j_aload_n d_Ra_least_26 rfl rfl ?_
          refine j_geti d_Ra_least_27 f_Ra_102 rfl rfl (by decide) ?_
          rw [hld]
          refine j_bipush (v := 16) d_Ra_least_30 (by decide) ?_
          refine j_icmp_lt (tgt := 38) d_Ra_least_32 rfl (fun bq3 => ?_) (fun bq3 => False.elim (bq3 (nI_lt (a := Z.2.2.2.1) (b := 16) (by omega) (by omega))))
          refine j_aload_n d_Ra_least_38 rfl rfl ?_
          refine j_dup d_Ra_least_39 rfl ?_
          refine j_geti d_Ra_least_40 f_Ra_102 rfl rfl (by decide) ?_
          refine j_iconst (v := 1) d_Ra_least_43 rfl ?_
          refine j_iadd d_Ra_least_44 ?_
          rw [hld, nI_1]
          refine j_puti d_Ra_least_45 f_Ra_102 (by decide) rfl rfl (by decide) ?_
          refine j_aload_n d_Ra_least_48 rfl rfl ?_
          refine j_getr d_Ra_least_49 f_Ra_94 rfl rfl (by decide) rfl ?_
          refine j_aload_n d_Ra_least_52 rfl rfl ?_
          refine j_getr d_Ra_least_53 f_Ra_28 rfl rfl (by decide) rfl ?_
          refine q_v (s_Ra_least_56 rfl (by decide)) rfl (Nat.le_of_ble_eq_true rfl) (Nat.le_of_ble_eq_true rfl) ?_
          have q0 : r_ex [0] h (r_up h 0 16 (nI (Z.2.2.2.1 + 1))) := r_ex.rf.up (by decide)
          rw [show d + 19 = d + (16 - Z.2.1.2.1.2.2.2.1) + Z.2.1.2.1.2.2.2.1 + 3 by omega]
          refine c_Or_solve (hD.ex q0 (by decide) (by decide) (by decide) (by decide)) od (hK.ex q0 (by decide) (by decide) (by decide) (by decide)) ok (by omega) (fun h1 q1 z1 b1 => ?_)
          have hL : p_C h1 p q (Z.1, Z.2.1, Z.2.2.1, Z.2.2.2.1 + 1, Z.2.2.2.2) := hC.ld.scr (q1.mono (by decide))
          have hM : r_mo h h1 := fun a ha => (q1 a (fun e => absurd (show a < 47 from (show ∀ a ∈ [44, 45, 46], a < 47 by decide) a e) (by omega))).trans (q0 a (fun e => absurd (show a < 47 from (show ∀ a ∈ [0], a < 47 by decide) a e) (by omega)))
          refine j_iload_n d_Ra_least_59 rfl rfl ?_
          refine j_if_ne (tgt := 71) d_Ra_least_60 rfl (fun bq4 => False.elim (bq4 ((xeq (n := 0) (by decide)).mpr (by omega)))) (fun bq4 => ?_)
          refine j_aload_n d_Ra_least_63 rfl rfl ?_
          refine j_getr d_Ra_least_64 f_Ra_94 rfl rfl (by decide) rfl ?_
          refine j_geti d_Ra_least_67 f_Ra_236 rfl rfl (by decide) ?_
          refine j_iret d_Ra_least_70 rfl ?_
          exact q_i1 (hF _ _ _ hM hL) b1.1
    · by_cases vv : v < 10
      · have hs : s_least Z x = (-102, Z) := by simp [s_least, ix1, v0, vv]
        rw [hs] at hF
        refine r_C_of (by decide +kernel) (Nat.le_of_ble_eq_true rfl) ?_
        refine j_ls (ls' := [(0, _), (1, _)]) rfl ?_
        refine j_iload_n d_Ra_least_0 rfl rfl ?_
        refine j_if_eq (tgt := 19) d_Ra_least_1 rfl (fun bq1 => False.elim (absurd ((xeq (n := 0) (by decide)).mp bq1) (by omega))) (fun bq1 => ?_)
        refine j_iload_n d_Ra_least_4 rfl rfl ?_
        refine j_bipush (v := 10) d_Ra_least_5 (by decide) ?_
        refine j_icmp_lt (tgt := 16) d_Ra_least_7 rfl (fun bq2 => ?_) (fun bq2 => False.elim (bq2 ((xlt (n := 10) (by decide)).mpr (by omega))))
        refine j_bipush (v := (-102)) d_Ra_least_16 (by decide) ?_
        refine j_iret d_Ra_least_18 rfl ?_
        exact q_i1 (hF _ _ _ r_mo.rf hC) rfl
      · have e10 : x - 10 = nI (v - 10) := by
          rw [e1, show v = 10 + (v - 10) by omega, nI_10]
          congr 1
          omega
        by_cases hR : Z.2.1.1.1 = 0
        · have hs : s_least Z x = (-103, Z) := by simp [s_least, ix1, v0, vv, hR]
          rw [hs] at hF
          refine r_C_of (by decide +kernel) (Nat.le_of_ble_eq_true rfl) ?_
          refine j_ls (ls' := [(0, _), (1, _)]) rfl ?_
          refine j_iload_n d_Ra_least_0 rfl rfl ?_
          refine j_if_eq (tgt := 19) d_Ra_least_1 rfl (fun bq1 => False.elim (absurd ((xeq (n := 0) (by decide)).mp bq1) (by omega))) (fun bq1 => ?_)
          refine j_iload_n d_Ra_least_4 rfl rfl ?_
          refine j_bipush (v := 10) d_Ra_least_5 (by decide) ?_
          refine j_icmp_lt (tgt := 16) d_Ra_least_7 rfl (fun bq2 => False.elim (absurd ((xlt (n := 10) (by decide)).mp bq2) (by omega))) (fun bq2 => ?_)
          refine j_iload_n d_Ra_least_10 rfl rfl ?_
          refine j_bipush (v := 17) d_Ra_least_11 (by decide) ?_
          refine j_icmp_lt (tgt := 19) d_Ra_least_13 rfl (fun bq3 => ?_) (fun bq3 => False.elim (bq3 ((xlt (n := 17) (by decide)).mpr (by omega))))
          refine j_aload_n d_Ra_least_19 rfl rfl ?_
          refine q_i (s_Ra_least_20 rfl (by decide)) rfl (Nat.le_of_ble_eq_true rfl) (Nat.le_of_ble_eq_true rfl) ?_
          refine c_hpN hR hD.1 ?_
          refine j_if_eq (tgt := 35) d_Ra_least_23 rfl (fun bq4 => ?_) (fun bq4 => False.elim (bq4 rfl))
          refine j_bipush (v := (-103)) d_Ra_least_35 (by decide) ?_
          refine j_iret d_Ra_least_37 rfl ?_
          exact q_i1 (hF _ _ _ r_mo.rf hC) rfl
        · by_cases h16 : 16 ≤ Z.2.2.2.1
          · have hs : s_least Z x = (-103, Z) := by simp [s_least, ix1, v0, vv, h16]
            rw [hs] at hF
            refine r_C_of (by decide +kernel) (Nat.le_of_ble_eq_true rfl) ?_
            refine j_ls (ls' := [(0, _), (1, _)]) rfl ?_
            refine j_iload_n d_Ra_least_0 rfl rfl ?_
            refine j_if_eq (tgt := 19) d_Ra_least_1 rfl (fun bq1 => False.elim (absurd ((xeq (n := 0) (by decide)).mp bq1) (by omega))) (fun bq1 => ?_)
            refine j_iload_n d_Ra_least_4 rfl rfl ?_
            refine j_bipush (v := 10) d_Ra_least_5 (by decide) ?_
            refine j_icmp_lt (tgt := 16) d_Ra_least_7 rfl (fun bq2 => False.elim (absurd ((xlt (n := 10) (by decide)).mp bq2) (by omega))) (fun bq2 => ?_)
            refine j_iload_n d_Ra_least_10 rfl rfl ?_
            refine j_bipush (v := 17) d_Ra_least_11 (by decide) ?_
            refine j_icmp_lt (tgt := 19) d_Ra_least_13 rfl (fun bq3 => ?_) (fun bq3 => False.elim (bq3 ((xlt (n := 17) (by decide)).mpr (by omega))))
            refine j_aload_n d_Ra_least_19 rfl rfl ?_
            refine q_i (s_Ra_least_20 rfl (by decide)) rfl (Nat.le_of_ble_eq_true rfl) (Nat.le_of_ble_eq_true rfl) ?_
            refine c_hpY (by omega) od1 hD.1 ?_
            refine j_if_eq (tgt := 35) d_Ra_least_23 rfl (fun bq4 => False.elim (absurd bq4 (by decide))) (fun bq4 => ?_)
            refine j_aload_n d_Ra_least_26 rfl rfl ?_
            refine j_geti d_Ra_least_27 f_Ra_102 rfl rfl (by decide) ?_
            rw [hld]
            refine j_bipush (v := 16) d_Ra_least_30 (by decide) ?_
            refine j_icmp_lt (tgt := 38) d_Ra_least_32 rfl (fun bq5 => False.elim (nI_nlt (a := Z.2.2.2.1) (b := 16) (by omega) (by omega) bq5)) (fun bq5 => ?_)
            refine j_bipush (v := (-103)) d_Ra_least_35 (by decide) ?_
            refine j_iret d_Ra_least_37 rfl ?_
            exact q_i1 (hF _ _ _ r_mo.rf hC) rfl
          · by_cases hi : v - 10 < Z.2.1.2.1.2.2.2.1
            · have hs : s_least Z x = (nI ((a_lst Z).2.getD (v - 10) 0), (Z.1, Z.2.1, Z.2.2.1, Z.2.2.2.1 + 1, Z.2.2.2.2)) := by simp [s_least, ix1, v0, vv, hR, h16, hi]
              rw [hs] at hF
              refine r_C_of (by decide +kernel) (Nat.le_of_ble_eq_true rfl) ?_
              refine j_ls (ls' := [(0, _), (1, _)]) rfl ?_
              refine j_iload_n d_Ra_least_0 rfl rfl ?_
              refine j_if_eq (tgt := 19) d_Ra_least_1 rfl (fun bq1 => False.elim (absurd ((xeq (n := 0) (by decide)).mp bq1) (by omega))) (fun bq1 => ?_)
              refine j_iload_n d_Ra_least_4 rfl rfl ?_
              refine j_bipush (v := 10) d_Ra_least_5 (by decide) ?_
              refine j_icmp_lt (tgt := 16) d_Ra_least_7 rfl (fun bq2 => False.elim (absurd ((xlt (n := 10) (by decide)).mp bq2) (by omega))) (fun bq2 => ?_)
              refine j_iload_n d_Ra_least_10 rfl rfl ?_
              refine j_bipush (v := 17) d_Ra_least_11 (by decide) ?_
              refine j_icmp_lt (tgt := 19) d_Ra_least_13 rfl (fun bq3 => ?_) (fun bq3 => False.elim (bq3 ((xlt (n := 17) (by decide)).mpr (by omega))))
              refine j_aload_n d_Ra_least_19 rfl rfl ?_
              refine q_i (s_Ra_least_20 rfl (by decide)) rfl (Nat.le_of_ble_eq_true rfl) (Nat.le_of_ble_eq_true rfl) ?_
              refine c_hpY (by omega) od1 hD.1 ?_
              refine j_if_eq (tgt := 35) d_Ra_least_23 rfl (fun bq4 => False.elim (absurd bq4 (by decide))) (fun bq4 => ?_)
              refine j_aload_n d_Ra_least_26 rfl rfl ?_
              refine j_geti d_Ra_least_27 f_Ra_102 rfl rfl (by decide) ?_
              rw [hld]
              refine j_bipush (v := 16) d_Ra_least_30 (by decide) ?_
              refine j_icmp_lt (tgt := 38) d_Ra_least_32 rfl (fun bq5 => ?_) (fun bq5 => False.elim (bq5 (nI_lt (a := Z.2.2.2.1) (b := 16) (by omega) (by omega))))
              refine j_aload_n d_Ra_least_38 rfl rfl ?_
              refine j_dup d_Ra_least_39 rfl ?_
              refine j_geti d_Ra_least_40 f_Ra_102 rfl rfl (by decide) ?_
              refine j_iconst (v := 1) d_Ra_least_43 rfl ?_
              refine j_iadd d_Ra_least_44 ?_
              rw [hld, nI_1]
              refine j_puti d_Ra_least_45 f_Ra_102 (by decide) rfl rfl (by decide) ?_
              refine j_aload_n d_Ra_least_48 rfl rfl ?_
              refine j_getr d_Ra_least_49 f_Ra_94 rfl rfl (by decide) rfl ?_
              refine j_aload_n d_Ra_least_52 rfl rfl ?_
              refine j_getr d_Ra_least_53 f_Ra_28 rfl rfl (by decide) rfl ?_
              refine q_v (s_Ra_least_56 rfl (by decide)) rfl (Nat.le_of_ble_eq_true rfl) (Nat.le_of_ble_eq_true rfl) ?_
              have q0 : r_ex [0] h (r_up h 0 16 (nI (Z.2.2.2.1 + 1))) := r_ex.rf.up (by decide)
              rw [show d + 19 = d + (16 - Z.2.1.2.1.2.2.2.1) + Z.2.1.2.1.2.2.2.1 + 3 by omega]
              refine c_Or_solve (hD.ex q0 (by decide) (by decide) (by decide) (by decide)) od (hK.ex q0 (by decide) (by decide) (by decide) (by decide)) ok (by omega) (fun h1 q1 z1 b1 => ?_)
              have hL : p_C h1 p q (Z.1, Z.2.1, Z.2.2.1, Z.2.2.2.1 + 1, Z.2.2.2.2) := hC.ld.scr (q1.mono (by decide))
              have hM : r_mo h h1 := fun a ha => (q1 a (fun e => absurd (show a < 47 from (show ∀ a ∈ [44, 45, 46], a < 47 by decide) a e) (by omega))).trans (q0 a (fun e => absurd (show a < 47 from (show ∀ a ∈ [0], a < 47 by decide) a e) (by omega)))
              refine j_iload_n d_Ra_least_59 rfl rfl ?_
              refine j_if_ne (tgt := 71) d_Ra_least_60 rfl (fun bq6 => ?_) (fun bq6 => False.elim (absurd ((xeq (n := 0) (by decide)).mp bq6) (by omega)))
              refine j_iload_n d_Ra_least_71 rfl rfl ?_
              refine j_bipush (v := 10) d_Ra_least_72 (by decide) ?_
              refine j_isub d_Ra_least_74 ?_
              refine j_aload_n d_Ra_least_75 rfl rfl ?_
              refine j_getr d_Ra_least_76 f_Ra_94 rfl rfl (by decide) rfl ?_
              refine j_geti d_Ra_least_79 f_Ra_239 rfl rfl (by decide) ?_
              refine j_icmp_ge (tgt := 102) d_Ra_least_82 rfl (fun bq7 => False.elim (nI_ge (a := v - 10) (b := Z.2.1.2.1.2.2.2.1) hi (by omega) (by rw [← e10, ← z1]; exact bq7))) (fun bq7 => ?_)
              refine j_aload_n d_Ra_least_85 rfl rfl ?_
              refine j_getr d_Ra_least_86 f_Ra_94 rfl rfl (by decide) rfl ?_
              refine j_getr d_Ra_least_89 f_Ra_240 rfl rfl (by decide) rfl ?_
              refine j_iload_n d_Ra_least_92 rfl rfl ?_
              refine j_bipush (v := 10) d_Ra_least_93 (by decide) ?_
              refine j_isub d_Ra_least_95 ?_
              refine q_i s_Ra_least_96 rfl (Nat.le_of_ble_eq_true rfl) (Nat.le_of_ble_eq_true rfl) ?_
              refine c_Ra_av (j := v - 10) rfl (by decide) e10 (by omega) ((b1.2.2.resolve_left (fun e => absurd (show (a_lst Z).1 < 2 ^ 20 from a_lst_lt od ok otk) (by have e : (a_lst Z).1 = 2147483647 := e; omega))) (v - 10) hi) ?_
              refine j_goto (tgt := 103) d_Ra_least_99 rfl ?_
              refine j_iret d_Ra_least_103 rfl ?_
              exact q_i1 (hF _ _ _ hM hL) rfl
            · have hs : s_least Z x = (-1, (Z.1, Z.2.1, Z.2.2.1, Z.2.2.2.1 + 1, Z.2.2.2.2)) := by simp [s_least, ix1, v0, vv, hR, h16, hi]
              rw [hs] at hF
              refine r_C_of (by decide +kernel) (Nat.le_of_ble_eq_true rfl) ?_
              refine j_ls (ls' := [(0, _), (1, _)]) rfl ?_
              refine j_iload_n d_Ra_least_0 rfl rfl ?_
              refine j_if_eq (tgt := 19) d_Ra_least_1 rfl (fun bq1 => False.elim (absurd ((xeq (n := 0) (by decide)).mp bq1) (by omega))) (fun bq1 => ?_)
              refine j_iload_n d_Ra_least_4 rfl rfl ?_
              refine j_bipush (v := 10) d_Ra_least_5 (by decide) ?_
              refine j_icmp_lt (tgt := 16) d_Ra_least_7 rfl (fun bq2 => False.elim (absurd ((xlt (n := 10) (by decide)).mp bq2) (by omega))) (fun bq2 => ?_)
              refine j_iload_n d_Ra_least_10 rfl rfl ?_
              refine j_bipush (v := 17) d_Ra_least_11 (by decide) ?_
              refine j_icmp_lt (tgt := 19) d_Ra_least_13 rfl (fun bq3 => ?_) (fun bq3 => False.elim (bq3 ((xlt (n := 17) (by decide)).mpr (by omega))))
              refine j_aload_n d_Ra_least_19 rfl rfl ?_
              refine q_i (s_Ra_least_20 rfl (by decide)) rfl (Nat.le_of_ble_eq_true rfl) (Nat.le_of_ble_eq_true rfl) ?_
              refine c_hpY (by omega) od1 hD.1 ?_
              refine j_if_eq (tgt := 35) d_Ra_least_23 rfl (fun bq4 => False.elim (absurd bq4 (by decide))) (fun bq4 => ?_)
              refine j_aload_n d_Ra_least_26 rfl rfl ?_
              refine j_geti d_Ra_least_27 f_Ra_102 rfl rfl (by decide) ?_
              rw [hld]
              refine j_bipush (v := 16) d_Ra_least_30 (by decide) ?_
              refine j_icmp_lt (tgt := 38) d_Ra_least_32 rfl (fun bq5 => ?_) (fun bq5 => False.elim (bq5 (nI_lt (a := Z.2.2.2.1) (b := 16) (by omega) (by omega))))
              refine j_aload_n d_Ra_least_38 rfl rfl ?_
              refine j_dup d_Ra_least_39 rfl ?_
              refine j_geti d_Ra_least_40 f_Ra_102 rfl rfl (by decide) ?_
              refine j_iconst (v := 1) d_Ra_least_43 rfl ?_
              refine j_iadd d_Ra_least_44 ?_
              rw [hld, nI_1]
              refine j_puti d_Ra_least_45 f_Ra_102 (by decide) rfl rfl (by decide) ?_
              refine j_aload_n d_Ra_least_48 rfl rfl ?_
              refine j_getr d_Ra_least_49 f_Ra_94 rfl rfl (by decide) rfl ?_
              refine j_aload_n d_Ra_least_52 rfl rfl ?_
              refine j_getr d_Ra_least_53 f_Ra_28 rfl rfl (by decide) rfl ?_
              refine q_v (s_Ra_least_56 rfl (by decide)) rfl (Nat.le_of_ble_eq_true rfl) (Nat.le_of_ble_eq_true rfl) ?_
              have q0 : r_ex [0] h (r_up h 0 16 (nI (Z.2.2.2.1 + 1))) := r_ex.rf.up (by decide)
              rw [show d + 19 = d + (16 - Z.2.1.2.1.2.2.2.1) + Z.2.1.2.1.2.2.2.1 + 3 by omega]
              refine c_Or_solve (hD.ex q0 (by decide) (by decide) (by decide) (by decide)) od (hK.ex q0 (by decide) (by decide) (by decide) (by decide)) ok (by omega) (fun h1 q1 z1 b1 => ?_)
              have hL : p_C h1 p q (Z.1, Z.2.1, Z.2.2.1, Z.2.2.2.1 + 1, Z.2.2.2.2) := hC.ld.scr (q1.mono (by decide))
              have hM : r_mo h h1 := fun a ha => (q1 a (fun e => absurd (show a < 47 from (show ∀ a ∈ [44, 45, 46], a < 47 by decide) a e) (by omega))).trans (q0 a (fun e => absurd (show a < 47 from (show ∀ a ∈ [0], a < 47 by decide) a e) (by omega)))
              refine j_iload_n d_Ra_least_59 rfl rfl ?_
              refine j_if_ne (tgt := 71) d_Ra_least_60 rfl (fun bq6 => ?_) (fun bq6 => False.elim (absurd ((xeq (n := 0) (by decide)).mp bq6) (by omega)))
              refine j_iload_n d_Ra_least_71 rfl rfl ?_
              refine j_bipush (v := 10) d_Ra_least_72 (by decide) ?_
              refine j_isub d_Ra_least_74 ?_
              refine j_aload_n d_Ra_least_75 rfl rfl ?_
              refine j_getr d_Ra_least_76 f_Ra_94 rfl rfl (by decide) rfl ?_
              refine j_geti d_Ra_least_79 f_Ra_239 rfl rfl (by decide) ?_
              refine j_icmp_ge (tgt := 102) d_Ra_least_82 rfl (fun bq7 => ?_) (fun bq7 => False.elim (bq7 (by rw [e10, z1]; exact nI_le (a := Z.2.1.2.1.2.2.2.1) (b := v - 10) (by omega) (by omega))))
              refine j_iconst (v := (-1)) d_Ra_least_102 rfl ?_
              refine j_iret d_Ra_least_103 rfl ?_
              exact q_i1 (hF _ _ _ hM hL) rfl
set_option maxRecDepth 100000 in
set_option maxHeartbeats 4000000 in
theorem c_Ra_weigh {G : r_X} {d : Nat} {h : r_HI} {p q : Nat} {z : r_HL} {F : Int32 → r_HI → r_HR → r_HL → Prop} {Z : a_Z} {x y : Int32} (hC : p_C h p q Z) (ho : a_zok Z) (hF : ∀ h' p' q', r_mo h h' → p_C h' p' q' (s_weigh Z x y).2 → F (s_weigh Z x y).1 h' (r_gp p' q') z) : r_Ci G m_Ra_weigh (d + 20) 61 [.ref (G.2.1 + 0), .int x, .int y] 61 h (r_gp p q) z F := by
  obtain ⟨hP, ⟨hD, hK, hW, hS⟩, hpr, hld, hik, hpo, hkd, hqo, hkept⟩ := id hC
  obtain ⟨op, ⟨od, ok, otk, ow, os, okd⟩, o3, o4, o5, o6, o7⟩ := id ho
  obtain ⟨od1, od2, od3, od4⟩ := id od
  obtain ⟨ok1, ok2, ok3, ok4⟩ := id ok
  have os1 := os.1
  have op1 := op.1
  rcases ixc x 6 with ⟨ix1, hr1⟩ | ⟨r, hj1, e1, ix1, t1⟩
  · rcases hr1 with hr1 | hr1
    · have hs : s_weigh Z x y = (-101, Z) := by simp [s_weigh, ix1]
      rw [hs] at hF
      refine r_C_of (by decide +kernel) (Nat.le_of_ble_eq_true rfl) ?_
      refine j_ls (ls' := [(0, _), (1, _), (2, _)]) rfl ?_
      refine j_iload_n d_Ra_weigh_0 rfl rfl ?_
      refine j_if_lt (tgt := 21) d_Ra_weigh_1 rfl (fun bq1 => ?_) (fun bq1 => False.elim (bq1 ((xlt (n := 0) (by decide)).mpr (by omega))))
      refine j_bipush (v := (-101)) d_Ra_weigh_21 (by decide) ?_
      refine j_iret d_Ra_weigh_23 rfl ?_
      exact q_i1 (hF _ _ _ r_mo.rf hC) rfl
    · have hs : s_weigh Z x y = (-101, Z) := by simp [s_weigh, ix1]
      rw [hs] at hF
      refine r_C_of (by decide +kernel) (Nat.le_of_ble_eq_true rfl) ?_
      refine j_ls (ls' := [(0, _), (1, _), (2, _)]) rfl ?_
      refine j_iload_n d_Ra_weigh_0 rfl rfl ?_
      refine j_if_lt (tgt := 21) d_Ra_weigh_1 rfl (fun bq1 => False.elim (absurd ((xlt (n := 0) (by decide)).mp bq1) (by omega))) (fun bq1 => ?_)
      refine j_iload_n d_Ra_weigh_4 rfl rfl ?_
      refine j_bipush (v := 6) d_Ra_weigh_5 (by decide) ?_
      refine j_icmp_ge (tgt := 21) d_Ra_weigh_7 rfl (fun bq2 => ?_) (fun bq2 => False.elim (bq2 ((nlex (n := 6) (by decide)).mpr (by omega))))
      refine j_bipush (v := (-101)) d_Ra_weigh_21 (by decide) ?_
      refine j_iret d_Ra_weigh_23 rfl ?_
      exact q_i1 (hF _ _ _ r_mo.rf hC) rfl
  · by_cases hw : Z.2.1.1.1 ≤ r
    · have hs : s_weigh Z x y = (-101, Z) := by simp [s_weigh, ix1, hw]
      rw [hs] at hF
      refine r_C_of (by decide +kernel) (Nat.le_of_ble_eq_true rfl) ?_
      refine j_ls (ls' := [(0, _), (1, _), (2, _)]) rfl ?_
      refine j_iload_n d_Ra_weigh_0 rfl rfl ?_
      refine j_if_lt (tgt := 21) d_Ra_weigh_1 rfl (fun bq1 => False.elim (absurd ((xlt (n := 0) (by decide)).mp bq1) (by omega))) (fun bq1 => ?_)
      refine j_iload_n d_Ra_weigh_4 rfl rfl ?_
      refine j_bipush (v := 6) d_Ra_weigh_5 (by decide) ?_
      refine j_icmp_ge (tgt := 21) d_Ra_weigh_7 rfl (fun bq2 => False.elim (absurd ((nlex (n := 6) (by decide)).mp bq2) (by omega))) (fun bq2 => ?_)
      refine j_aload_n d_Ra_weigh_10 rfl rfl ?_
      refine j_getr d_Ra_weigh_11 f_Ra_19 rfl rfl (by decide) rfl ?_
      refine j_iload_n d_Ra_weigh_14 rfl rfl ?_
      refine q_i (s_Ra_weigh_15 rfl (by decide)) rfl (Nat.le_of_ble_eq_true rfl) (Nat.le_of_ble_eq_true rfl) ?_
      refine c_Di_hasN (R := Z.2.1.1.1) (by omega) hD.1 (by omega) ?_
      refine j_if_ne (tgt := 24) d_Ra_weigh_18 rfl (fun bq3 => False.elim (bq3 rfl)) (fun bq3 => ?_)
      refine j_bipush (v := (-101)) d_Ra_weigh_21 (by decide) ?_
      refine j_iret d_Ra_weigh_23 rfl ?_
      exact q_i1 (hF _ _ _ r_mo.rf hC) rfl
    · rcases ixc y 10 with ⟨ix2, hr2⟩ | ⟨v, hj2, e2, ix2, t2⟩
      · rcases hr2 with hr2 | hr2
        · have hs : s_weigh Z x y = (-102, Z) := by simp [s_weigh, ix1, ix2, hw]
          rw [hs] at hF
          refine r_C_of (by decide +kernel) (Nat.le_of_ble_eq_true rfl) ?_
          refine j_ls (ls' := [(0, _), (1, _), (2, _)]) rfl ?_
          refine j_iload_n d_Ra_weigh_0 rfl rfl ?_
          refine j_if_lt (tgt := 21) d_Ra_weigh_1 rfl (fun bq1 => False.elim (absurd ((xlt (n := 0) (by decide)).mp bq1) (by omega))) (fun bq1 => ?_)
          refine j_iload_n d_Ra_weigh_4 rfl rfl ?_
          refine j_bipush (v := 6) d_Ra_weigh_5 (by decide) ?_
          refine j_icmp_ge (tgt := 21) d_Ra_weigh_7 rfl (fun bq2 => False.elim (absurd ((nlex (n := 6) (by decide)).mp bq2) (by omega))) (fun bq2 => ?_)
          refine j_aload_n d_Ra_weigh_10 rfl rfl ?_
          refine j_getr d_Ra_weigh_11 f_Ra_19 rfl rfl (by decide) rfl ?_
          refine j_iload_n d_Ra_weigh_14 rfl rfl ?_
          refine q_i (s_Ra_weigh_15 rfl (by decide)) rfl (Nat.le_of_ble_eq_true rfl) (Nat.le_of_ble_eq_true rfl) ?_
          refine c_Di_hasY (R := Z.2.1.1.1) (by omega) hD.1 e1 (by omega) ?_
          refine j_if_ne (tgt := 24) d_Ra_weigh_18 rfl (fun bq3 => ?_) (fun bq3 => False.elim (absurd bq3 (by decide)))
          refine j_iload_n d_Ra_weigh_24 rfl rfl ?_
          refine j_if_lt (tgt := 34) d_Ra_weigh_25 rfl (fun bq4 => ?_) (fun bq4 => False.elim (bq4 ((xlt (n := 0) (by decide)).mpr (by omega))))
          refine j_bipush (v := (-102)) d_Ra_weigh_34 (by decide) ?_
          refine j_iret d_Ra_weigh_36 rfl ?_
          exact q_i1 (hF _ _ _ r_mo.rf hC) rfl
        · have hs : s_weigh Z x y = (-102, Z) := by simp [s_weigh, ix1, ix2, hw]
          rw [hs] at hF
          refine r_C_of (by decide +kernel) (Nat.le_of_ble_eq_true rfl) ?_
          refine j_ls (ls' := [(0, _), (1, _), (2, _)]) rfl ?_
          refine j_iload_n d_Ra_weigh_0 rfl rfl ?_
          refine j_if_lt (tgt := 21) d_Ra_weigh_1 rfl (fun bq1 => False.elim (absurd ((xlt (n := 0) (by decide)).mp bq1) (by omega))) (fun bq1 => ?_)
          refine j_iload_n d_Ra_weigh_4 rfl rfl ?_
          refine j_bipush (v := 6) d_Ra_weigh_5 (by decide) ?_
          refine j_icmp_ge (tgt := 21) d_Ra_weigh_7 rfl (fun bq2 => False.elim (absurd ((nlex (n := 6) (by decide)).mp bq2) (by omega))) (fun bq2 => ?_)
          refine j_aload_n d_Ra_weigh_10 rfl rfl ?_
          refine j_getr d_Ra_weigh_11 f_Ra_19 rfl rfl (by decide) rfl ?_
          refine j_iload_n d_Ra_weigh_14 rfl rfl ?_
          refine q_i (s_Ra_weigh_15 rfl (by decide)) rfl (Nat.le_of_ble_eq_true rfl) (Nat.le_of_ble_eq_true rfl) ?_
          refine c_Di_hasY (R := Z.2.1.1.1) (by omega) hD.1 e1 (by omega) ?_
          refine j_if_ne (tgt := 24) d_Ra_weigh_18 rfl (fun bq3 => ?_) (fun bq3 => False.elim (absurd bq3 (by decide)))
          refine j_iload_n d_Ra_weigh_24 rfl rfl ?_
          refine j_if_lt (tgt := 34) d_Ra_weigh_25 rfl (fun bq4 => False.elim (absurd ((xlt (n := 0) (by decide)).mp bq4) (by omega))) (fun bq4 => ?_)
          refine j_iload_n d_Ra_weigh_28 rfl rfl ?_
          refine j_bipush (v := 9) d_Ra_weigh_29 (by decide) ?_
          refine j_icmp_le (tgt := 37) d_Ra_weigh_31 rfl (fun bq5 => False.elim (absurd ((xle (n := 9) (by decide)).mp bq5) (by omega))) (fun bq5 => ?_)
          refine j_bipush (v := (-102)) d_Ra_weigh_34 (by decide) ?_
          refine j_iret d_Ra_weigh_36 rfl ?_
          exact q_i1 (hF _ _ _ r_mo.rf hC) rfl
      · have hs : s_weigh Z x y = (nI (Z.2.1.2.2.1 r), z_W Z (va_up Z.2.1.2.2.1 r v)) := by simp [s_weigh, ix1, ix2, hw]
        rw [hs] at hF
        refine r_C_of (by decide +kernel) (Nat.le_of_ble_eq_true rfl) ?_
        refine j_ls (ls' := [(0, _), (1, _), (2, _)]) rfl ?_
        refine j_iload_n d_Ra_weigh_0 rfl rfl ?_
        refine j_if_lt (tgt := 21) d_Ra_weigh_1 rfl (fun bq1 => False.elim (absurd ((xlt (n := 0) (by decide)).mp bq1) (by omega))) (fun bq1 => ?_)
        refine j_iload_n d_Ra_weigh_4 rfl rfl ?_
        refine j_bipush (v := 6) d_Ra_weigh_5 (by decide) ?_
        refine j_icmp_ge (tgt := 21) d_Ra_weigh_7 rfl (fun bq2 => False.elim (absurd ((nlex (n := 6) (by decide)).mp bq2) (by omega))) (fun bq2 => ?_)
        refine j_aload_n d_Ra_weigh_10 rfl rfl ?_
        refine j_getr d_Ra_weigh_11 f_Ra_19 rfl rfl (by decide) rfl ?_
        refine j_iload_n d_Ra_weigh_14 rfl rfl ?_
        refine q_i (s_Ra_weigh_15 rfl (by decide)) rfl (Nat.le_of_ble_eq_true rfl) (Nat.le_of_ble_eq_true rfl) ?_
        refine c_Di_hasY (R := Z.2.1.1.1) (by omega) hD.1 e1 (by omega) ?_
        refine j_if_ne (tgt := 24) d_Ra_weigh_18 rfl (fun bq3 => ?_) (fun bq3 => False.elim (absurd bq3 (by decide)))
        refine j_iload_n d_Ra_weigh_24 rfl rfl ?_
        refine j_if_lt (tgt := 34) d_Ra_weigh_25 rfl (fun bq4 => False.elim (absurd ((xlt (n := 0) (by decide)).mp bq4) (by omega))) (fun bq4 => ?_)
        refine j_iload_n d_Ra_weigh_28 rfl rfl ?_
        refine j_bipush (v := 9) d_Ra_weigh_29 (by decide) ?_
        refine j_icmp_le (tgt := 37) d_Ra_weigh_31 rfl (fun bq5 => ?_) (fun bq5 => False.elim (bq5 ((xle (n := 9) (by decide)).mpr (by omega))))
        refine j_aload_n d_Ra_weigh_37 rfl rfl ?_
        refine j_getr d_Ra_weigh_38 f_Ra_35 rfl rfl (by decide) rfl ?_
        refine j_getr d_Ra_weigh_41 f_Ra_243 rfl rfl (by decide) rfl ?_
        refine j_iload_n d_Ra_weigh_44 rfl rfl ?_
        refine q_i s_Ra_weigh_45 rfl (Nat.le_of_ble_eq_true rfl) (Nat.le_of_ble_eq_true rfl) ?_
        refine c_Ra_av (j := r) rfl (by decide) e1 (by omega) (hW r hj1) ?_
        refine j_istore_n (ls' := [(3, _), (0, _), (1, _), (2, _)]) d_Ra_weigh_48 rfl (by decide) rfl ?_
        refine j_aload_n d_Ra_weigh_49 rfl rfl ?_
        refine j_getr d_Ra_weigh_50 f_Ra_35 rfl rfl (by decide) rfl ?_
        refine j_getr d_Ra_weigh_53 f_Ra_243 rfl rfl (by decide) rfl ?_
        refine j_iload_n d_Ra_weigh_56 rfl rfl ?_
        refine j_iload_n d_Ra_weigh_57 rfl rfl ?_
        refine q_v s_Ra_weigh_58 rfl (Nat.le_of_ble_eq_true rfl) (Nat.le_of_ble_eq_true rfl) ?_
        refine c_Ra_put (j := r) rfl (by decide) e1 (by omega) ?_
        refine j_iload_n d_Ra_weigh_61 rfl rfl ?_
        refine j_iret d_Ra_weigh_62 rfl ?_
        have q1 : r_ex [12] h (r_up h 12 r y) := r_ex.rf.up (by decide)
        refine q_i1 (hF _ _ _ (q1.mo (by decide)) (hC.W q1 ?_)) rfl
        intro i hi
        show r_up h 12 r y 12 i = nI (va_up Z.2.1.2.2.1 r v i)
        rw [r_up_k]
        by_cases e9 : i = r
        · subst e9
          simp [upd, va_up]
          exact e2
        · simp only [upd, va_up, if_neg e9]
          exact hW i hi
set_option maxRecDepth 100000 in
set_option maxHeartbeats 4000000 in
theorem c_Ra_lay {G : r_X} {d : Nat} {h : r_HI} {p q : Nat} {z : r_HL} {F : Int32 → r_HI → r_HR → r_HL → Prop} {Z : a_Z} {x : Int32} (hC : p_C h p q Z) (ho : a_zok Z) (hF : ∀ h', r_ex r_scr h h' → F (s_lay Z x) h' (r_gp p q) z) : r_Ci G m_Ra_lay (d + 20) 61 [.ref (G.2.1 + 0), .int x] 61 h (r_gp p q) z F := by
  obtain ⟨hP, ⟨hD, hK, hW, hS⟩, hpr, hld, hik, hpo, hkd, hqo, hkept⟩ := id hC
  obtain ⟨op, ⟨od, ok, otk, ow, os, okd⟩, o3, o4, o5, o6, o7⟩ := id ho
  obtain ⟨od1, od2, od3, od4⟩ := id od
  obtain ⟨ok1, ok2, ok3, ok4⟩ := id ok
  have os1 := os.1
  have op1 := op.1
  rcases ixc x 16 with ⟨ix1, hr1⟩ | ⟨v, hj1, e1, ix1, t1⟩
  · rcases hr1 with hr1 | hr1
    · have hs : s_lay Z x = -102 := by simp [s_lay, ix1]
      rw [hs] at hF
      refine r_C_of (by decide +kernel) (Nat.le_of_ble_eq_true rfl) ?_
      refine j_ls (ls' := [(0, _), (1, _)]) rfl ?_
      refine j_iload_n d_Ra_lay_0 rfl rfl ?_
      refine j_if_eq (tgt := 19) d_Ra_lay_1 rfl (fun bq1 => False.elim (absurd ((xeq (n := 0) (by decide)).mp bq1) (by omega))) (fun bq1 => ?_)
      refine j_iload_n d_Ra_lay_4 rfl rfl ?_
      refine j_bipush (v := 10) d_Ra_lay_5 (by decide) ?_
      refine j_icmp_lt (tgt := 16) d_Ra_lay_7 rfl (fun bq2 => ?_) (fun bq2 => False.elim (bq2 ((xlt (n := 10) (by decide)).mpr (by omega))))
      refine j_bipush (v := (-102)) d_Ra_lay_16 (by decide) ?_
      refine j_iret d_Ra_lay_18 rfl ?_
      exact q_i1 (hF _ r_ex.rf) rfl
    · have hs : s_lay Z x = -102 := by simp [s_lay, ix1]
      rw [hs] at hF
      refine r_C_of (by decide +kernel) (Nat.le_of_ble_eq_true rfl) ?_
      refine j_ls (ls' := [(0, _), (1, _)]) rfl ?_
      refine j_iload_n d_Ra_lay_0 rfl rfl ?_
      refine j_if_eq (tgt := 19) d_Ra_lay_1 rfl (fun bq1 => False.elim (absurd ((xeq (n := 0) (by decide)).mp bq1) (by omega))) (fun bq1 => ?_)
      refine j_iload_n d_Ra_lay_4 rfl rfl ?_
      refine j_bipush (v := 10) d_Ra_lay_5 (by decide) ?_
      refine j_icmp_lt (tgt := 16) d_Ra_lay_7 rfl (fun bq2 => False.elim (absurd ((xlt (n := 10) (by decide)).mp bq2) (by omega))) (fun bq2 => ?_)
      refine j_iload_n d_Ra_lay_10 rfl rfl ?_
      refine j_bipush (v := 16) d_Ra_lay_11 (by decide) ?_
      refine j_icmp_lt (tgt := 19) d_Ra_lay_13 rfl (fun bq3 => False.elim (absurd ((xlt (n := 16) (by decide)).mp bq3) (by omega))) (fun bq3 => ?_)
      refine j_bipush (v := (-102)) d_Ra_lay_16 (by decide) ?_
      refine j_iret d_Ra_lay_18 rfl ?_
      exact q_i1 (hF _ r_ex.rf) rfl
  · have h6 := a_hm_le Z.2.1.2.2.1 6
    by_cases v0 : v = 0
    · by_cases hR : Z.2.1.1.1 = 0
      · have hs : s_lay Z x = -103 := by simp [s_lay, ix1, v0, hR]
        rw [hs] at hF
        refine r_C_of (by decide +kernel) (Nat.le_of_ble_eq_true rfl) ?_
        refine j_ls (ls' := [(0, _), (1, _)]) rfl ?_
        refine j_iload_n d_Ra_lay_0 rfl rfl ?_
        refine j_if_eq (tgt := 19) d_Ra_lay_1 rfl (fun bq1 => ?_) (fun bq1 => False.elim (bq1 ((xeq (n := 0) (by decide)).mpr (by omega))))
        refine j_aload_n d_Ra_lay_19 rfl rfl ?_
        refine q_i (s_Ra_lay_20 rfl (by decide)) rfl (Nat.le_of_ble_eq_true rfl) (Nat.le_of_ble_eq_true rfl) ?_
        refine c_hpN hR hD.1 ?_
        refine j_if_ne (tgt := 29) d_Ra_lay_23 rfl (fun bq2 => False.elim (bq2 rfl)) (fun bq2 => ?_)
        refine j_bipush (v := (-103)) d_Ra_lay_26 (by decide) ?_
        refine j_iret d_Ra_lay_28 rfl ?_
        exact q_i1 (hF _ r_ex.rf) rfl
      · have hs : s_lay Z x = nI (a_lyy Z.2.1.2.2.1).1 := by simp [s_lay, ix1, v0, hR, a_lay1]
        rw [hs] at hF
        refine r_C_of (by decide +kernel) (Nat.le_of_ble_eq_true rfl) ?_
        refine j_ls (ls' := [(0, _), (1, _)]) rfl ?_
        refine j_iload_n d_Ra_lay_0 rfl rfl ?_
        refine j_if_eq (tgt := 19) d_Ra_lay_1 rfl (fun bq1 => ?_) (fun bq1 => False.elim (bq1 ((xeq (n := 0) (by decide)).mpr (by omega))))
        refine j_aload_n d_Ra_lay_19 rfl rfl ?_
        refine q_i (s_Ra_lay_20 rfl (by decide)) rfl (Nat.le_of_ble_eq_true rfl) (Nat.le_of_ble_eq_true rfl) ?_
        refine c_hpY (by omega) od1 hD.1 ?_
        refine j_if_ne (tgt := 29) d_Ra_lay_23 rfl (fun bq2 => ?_) (fun bq2 => False.elim (absurd bq2 (by decide)))
        refine j_aload_n d_Ra_lay_29 rfl rfl ?_
        refine j_getr d_Ra_lay_30 f_Ra_35 rfl rfl (by decide) rfl ?_
        refine q_v (s_Ra_lay_33 rfl (by decide)) rfl (Nat.le_of_ble_eq_true rfl) (Nat.le_of_ble_eq_true rfl) ?_
        rw [show d + 19 = d + (16 - a_hm Z.2.1.2.2.1 6) + a_hm Z.2.1.2.2.1 6 + 3 by omega]
        refine c_Th_solve hW ow (fun h1 q1 b1 => ?_)
        refine j_aload_n d_Ra_lay_36 rfl rfl ?_
        refine j_getr d_Ra_lay_37 f_Ra_35 rfl rfl (by decide) rfl ?_
        refine j_iload_n d_Ra_lay_40 rfl rfl ?_
        refine q_i (s_Ra_lay_41 rfl (by decide)) rfl (Nat.le_of_ble_eq_true rfl) (Nat.le_of_ble_eq_true rfl) ?_
        have e0 : x = 0 := x_of (j := 0) (by omega)
        rw [e0]
        refine c_Th_told0 ?_
        refine j_iret d_Ra_lay_44 rfl ?_
        exact q_i1 (hF _ (q1.mono (by decide))) b1.1
    · by_cases vv : v < 10
      · have hs : s_lay Z x = -102 := by simp [s_lay, ix1, v0, vv]
        rw [hs] at hF
        refine r_C_of (by decide +kernel) (Nat.le_of_ble_eq_true rfl) ?_
        refine j_ls (ls' := [(0, _), (1, _)]) rfl ?_
        refine j_iload_n d_Ra_lay_0 rfl rfl ?_
        refine j_if_eq (tgt := 19) d_Ra_lay_1 rfl (fun bq1 => False.elim (absurd ((xeq (n := 0) (by decide)).mp bq1) (by omega))) (fun bq1 => ?_)
        refine j_iload_n d_Ra_lay_4 rfl rfl ?_
        refine j_bipush (v := 10) d_Ra_lay_5 (by decide) ?_
        refine j_icmp_lt (tgt := 16) d_Ra_lay_7 rfl (fun bq2 => ?_) (fun bq2 => False.elim (bq2 ((xlt (n := 10) (by decide)).mpr (by omega))))
        refine j_bipush (v := (-102)) d_Ra_lay_16 (by decide) ?_
        refine j_iret d_Ra_lay_18 rfl ?_
        exact q_i1 (hF _ r_ex.rf) rfl
      · by_cases hR : Z.2.1.1.1 = 0
        · have hs : s_lay Z x = -103 := by simp [s_lay, ix1, v0, vv, hR]
          rw [hs] at hF
          refine r_C_of (by decide +kernel) (Nat.le_of_ble_eq_true rfl) ?_
          refine j_ls (ls' := [(0, _), (1, _)]) rfl ?_
          refine j_iload_n d_Ra_lay_0 rfl rfl ?_
          refine j_if_eq (tgt := 19) d_Ra_lay_1 rfl (fun bq1 => False.elim (absurd ((xeq (n := 0) (by decide)).mp bq1) (by omega))) (fun bq1 => ?_)
          refine j_iload_n d_Ra_lay_4 rfl rfl ?_
          refine j_bipush (v := 10) d_Ra_lay_5 (by decide) ?_
          refine j_icmp_lt (tgt := 16) d_Ra_lay_7 rfl (fun bq2 => False.elim (absurd ((xlt (n := 10) (by decide)).mp bq2) (by omega))) (fun bq2 => ?_)
          refine j_iload_n d_Ra_lay_10 rfl rfl ?_
          refine j_bipush (v := 16) d_Ra_lay_11 (by decide) ?_
          refine j_icmp_lt (tgt := 19) d_Ra_lay_13 rfl (fun bq3 => ?_) (fun bq3 => False.elim (bq3 ((xlt (n := 16) (by decide)).mpr (by omega))))
          refine j_aload_n d_Ra_lay_19 rfl rfl ?_
          refine q_i (s_Ra_lay_20 rfl (by decide)) rfl (Nat.le_of_ble_eq_true rfl) (Nat.le_of_ble_eq_true rfl) ?_
          refine c_hpN hR hD.1 ?_
          refine j_if_ne (tgt := 29) d_Ra_lay_23 rfl (fun bq4 => False.elim (bq4 rfl)) (fun bq4 => ?_)
          refine j_bipush (v := (-103)) d_Ra_lay_26 (by decide) ?_
          refine j_iret d_Ra_lay_28 rfl ?_
          exact q_i1 (hF _ r_ex.rf) rfl
        · have hs : s_lay Z x = if v - 10 < a_hm Z.2.1.2.2.1 6 then nI ((a_lyy Z.2.1.2.2.1).2.getD (v - 10) 0) else -1 := by simp [s_lay, ix1, v0, vv, hR, a_lay1]
          rw [hs] at hF
          refine r_C_of (by decide +kernel) (Nat.le_of_ble_eq_true rfl) ?_
          refine j_ls (ls' := [(0, _), (1, _)]) rfl ?_
          refine j_iload_n d_Ra_lay_0 rfl rfl ?_
          refine j_if_eq (tgt := 19) d_Ra_lay_1 rfl (fun bq1 => False.elim (absurd ((xeq (n := 0) (by decide)).mp bq1) (by omega))) (fun bq1 => ?_)
          refine j_iload_n d_Ra_lay_4 rfl rfl ?_
          refine j_bipush (v := 10) d_Ra_lay_5 (by decide) ?_
          refine j_icmp_lt (tgt := 16) d_Ra_lay_7 rfl (fun bq2 => False.elim (absurd ((xlt (n := 10) (by decide)).mp bq2) (by omega))) (fun bq2 => ?_)
          refine j_iload_n d_Ra_lay_10 rfl rfl ?_
          refine j_bipush (v := 16) d_Ra_lay_11 (by decide) ?_
          refine j_icmp_lt (tgt := 19) d_Ra_lay_13 rfl (fun bq3 => ?_) (fun bq3 => False.elim (bq3 ((xlt (n := 16) (by decide)).mpr (by omega))))
          refine j_aload_n d_Ra_lay_19 rfl rfl ?_
          refine q_i (s_Ra_lay_20 rfl (by decide)) rfl (Nat.le_of_ble_eq_true rfl) (Nat.le_of_ble_eq_true rfl) ?_
          refine c_hpY (by omega) od1 hD.1 ?_
          refine j_if_ne (tgt := 29) d_Ra_lay_23 rfl (fun bq4 => ?_) (fun bq4 => False.elim (absurd bq4 (by decide)))
          refine j_aload_n d_Ra_lay_29 rfl rfl ?_
          refine j_getr d_Ra_lay_30 f_Ra_35 rfl rfl (by decide) rfl ?_
          refine q_v (s_Ra_lay_33 rfl (by decide)) rfl (Nat.le_of_ble_eq_true rfl) (Nat.le_of_ble_eq_true rfl) ?_
          rw [show d + 19 = d + (16 - a_hm Z.2.1.2.2.1 6) + a_hm Z.2.1.2.2.1 6 + 3 by omega]
          refine c_Th_solve hW ow (fun h1 q1 b1 => ?_)
          refine j_aload_n d_Ra_lay_36 rfl rfl ?_
          refine j_getr d_Ra_lay_37 f_Ra_35 rfl rfl (by decide) rfl ?_
          refine j_iload_n d_Ra_lay_40 rfl rfl ?_
          refine q_i (s_Ra_lay_41 rfl (by decide)) rfl (Nat.le_of_ble_eq_true rfl) (Nat.le_of_ble_eq_true rfl) ?_
          refine c_Th_told (hW.ex q1 (by decide)) ow (t := v - 10) (by omega) (by rw [e1]; congr 1; omega) ?_
          refine j_iret d_Ra_lay_44 rfl ?_
          refine q_i1 (hF _ (q1.mono (by decide))) ?_
          by_cases hi : v - 10 < a_hm Z.2.1.2.2.1 6
          · rw [if_pos hi, if_pos hi]
            exact (b1.2.2.resolve_left (fun e => absurd (a_lyy_lt ow) (by have e : (a_lyy Z.2.1.2.2.1).1 = 2147483647 := e; omega))) (v - 10) hi
          · rw [if_neg hi, if_neg hi]
set_option maxRecDepth 100000 in
set_option maxHeartbeats 4000000 in
theorem c_Ra_behind {G : r_X} {d : Nat} {h : r_HI} {p q : Nat} {z : r_HL} {F : Int32 → r_HI → r_HR → r_HL → Prop} {Z : a_Z} {x y w : Int32} (hC : p_C h p q Z) (ho : a_zok Z) (hF : F (s_behind Z x y w) h (r_gp p q) z) : r_Ci G m_Ra_behind (d + 20) 61 [.ref (G.2.1 + 0), .int x, .int y, .int w] 61 h (r_gp p q) z F := by
  obtain ⟨hP, ⟨hD, hK, hW, hS⟩, hpr, hld, hik, hpo, hkd, hqo, hkept⟩ := id hC
  obtain ⟨op, ⟨od, ok, otk, ow, os, okd⟩, o3, o4, o5, o6, o7⟩ := id ho
  obtain ⟨od1, od2, od3, od4⟩ := id od
  obtain ⟨ok1, ok2, ok3, ok4⟩ := id ok
  have os1 := os.1
  have op1 := op.1
  rcases ixc x Z.2.1.1.1 with ⟨ix1, hr1⟩ | ⟨r, hj1, e1, ix1, t1⟩
  · have hs : s_behind Z x y w = -101 := by simp [s_behind, ix1]
    rw [hs] at hF
    refine r_C_of (by decide +kernel) (Nat.le_of_ble_eq_true rfl) ?_
    refine j_ls (ls' := [(0, _), (1, _), (2, _), (3, _)]) rfl ?_
    refine j_aload_n d_Ra_behind_0 rfl rfl ?_
    refine j_getr d_Ra_behind_1 f_Ra_19 rfl rfl (by decide) rfl ?_
    refine j_iload_n d_Ra_behind_4 rfl rfl ?_
    refine q_i (s_Ra_behind_5 rfl (by decide)) rfl (Nat.le_of_ble_eq_true rfl) (Nat.le_of_ble_eq_true rfl) ?_
    refine c_Di_hasN (R := Z.2.1.1.1) (by omega) hD.1 hr1 ?_
    refine j_if_eq (tgt := 27) d_Ra_behind_8 rfl (fun bq1 => ?_) (fun bq1 => False.elim (bq1 rfl))
    refine j_bipush (v := (-101)) d_Ra_behind_27 (by decide) ?_
    refine j_iret d_Ra_behind_29 rfl ?_
    exact q_i1 hF rfl
  · rcases ixc y Z.2.1.1.1 with ⟨ix2, hr2⟩ | ⟨s, hj2, e2, ix2, t2⟩
    · have hs : s_behind Z x y w = -101 := by simp [s_behind, ix1, ix2]
      rw [hs] at hF
      refine r_C_of (by decide +kernel) (Nat.le_of_ble_eq_true rfl) ?_
      refine j_ls (ls' := [(0, _), (1, _), (2, _), (3, _)]) rfl ?_
      refine j_aload_n d_Ra_behind_0 rfl rfl ?_
      refine j_getr d_Ra_behind_1 f_Ra_19 rfl rfl (by decide) rfl ?_
      refine j_iload_n d_Ra_behind_4 rfl rfl ?_
      refine q_i (s_Ra_behind_5 rfl (by decide)) rfl (Nat.le_of_ble_eq_true rfl) (Nat.le_of_ble_eq_true rfl) ?_
      refine c_Di_hasY (R := Z.2.1.1.1) (by omega) hD.1 e1 hj1 ?_
      refine j_if_eq (tgt := 27) d_Ra_behind_8 rfl (fun bq1 => False.elim (absurd bq1 (by decide))) (fun bq1 => ?_)
      refine j_aload_n d_Ra_behind_11 rfl rfl ?_
      refine j_getr d_Ra_behind_12 f_Ra_19 rfl rfl (by decide) rfl ?_
      refine j_iload_n d_Ra_behind_15 rfl rfl ?_
      refine q_i (s_Ra_behind_16 rfl (by decide)) rfl (Nat.le_of_ble_eq_true rfl) (Nat.le_of_ble_eq_true rfl) ?_
      refine c_Di_hasN (R := Z.2.1.1.1) (by omega) hD.1 hr2 ?_
      refine j_if_eq (tgt := 27) d_Ra_behind_19 rfl (fun bq2 => ?_) (fun bq2 => False.elim (bq2 rfl))
      refine j_bipush (v := (-101)) d_Ra_behind_27 (by decide) ?_
      refine j_iret d_Ra_behind_29 rfl ?_
      exact q_i1 hF rfl
    · by_cases rs : r = s
      · have hs : s_behind Z x y w = -101 := by simp [s_behind, ix1, ix2, rs]
        rw [hs] at hF
        refine r_C_of (by decide +kernel) (Nat.le_of_ble_eq_true rfl) ?_
        refine j_ls (ls' := [(0, _), (1, _), (2, _), (3, _)]) rfl ?_
        refine j_aload_n d_Ra_behind_0 rfl rfl ?_
        refine j_getr d_Ra_behind_1 f_Ra_19 rfl rfl (by decide) rfl ?_
        refine j_iload_n d_Ra_behind_4 rfl rfl ?_
        refine q_i (s_Ra_behind_5 rfl (by decide)) rfl (Nat.le_of_ble_eq_true rfl) (Nat.le_of_ble_eq_true rfl) ?_
        refine c_Di_hasY (R := Z.2.1.1.1) (by omega) hD.1 e1 hj1 ?_
        refine j_if_eq (tgt := 27) d_Ra_behind_8 rfl (fun bq1 => False.elim (absurd bq1 (by decide))) (fun bq1 => ?_)
        refine j_aload_n d_Ra_behind_11 rfl rfl ?_
        refine j_getr d_Ra_behind_12 f_Ra_19 rfl rfl (by decide) rfl ?_
        refine j_iload_n d_Ra_behind_15 rfl rfl ?_
        refine q_i (s_Ra_behind_16 rfl (by decide)) rfl (Nat.le_of_ble_eq_true rfl) (Nat.le_of_ble_eq_true rfl) ?_
        refine c_Di_hasY (R := Z.2.1.1.1) (by omega) hD.1 e2 hj2 ?_
        refine j_if_eq (tgt := 27) d_Ra_behind_19 rfl (fun bq2 => False.elim (absurd bq2 (by decide))) (fun bq2 => ?_)
        refine j_iload_n d_Ra_behind_22 rfl rfl ?_
        refine j_iload_n d_Ra_behind_23 rfl rfl ?_
        refine j_icmp_ne (tgt := 30) d_Ra_behind_24 rfl (fun bq3 => False.elim (bq3 (by rw [e1, e2, rs]))) (fun bq3 => ?_)
        refine j_bipush (v := (-101)) d_Ra_behind_27 (by decide) ?_
        refine j_iret d_Ra_behind_29 rfl ?_
        exact q_i1 hF rfl
      · have hu := a_tr_le od (x := r) (y := s) (by omega) (by omega)
        have ho1 := (od4 r hj1).2
        have ho2 := (od4 s hj2).2
        refine r_C_of (by decide +kernel) (Nat.le_of_ble_eq_true rfl) ?_
        refine j_ls (ls' := [(0, _), (1, _), (2, _), (3, _)]) rfl ?_
        refine j_aload_n d_Ra_behind_0 rfl rfl ?_
        refine j_getr d_Ra_behind_1 f_Ra_19 rfl rfl (by decide) rfl ?_
        refine j_iload_n d_Ra_behind_4 rfl rfl ?_
        refine q_i (s_Ra_behind_5 rfl (by decide)) rfl (Nat.le_of_ble_eq_true rfl) (Nat.le_of_ble_eq_true rfl) ?_
        refine c_Di_hasY (R := Z.2.1.1.1) (by omega) hD.1 e1 hj1 ?_
        refine j_if_eq (tgt := 27) d_Ra_behind_8 rfl (fun bq1 => False.elim (absurd bq1 (by decide))) (fun bq1 => ?_)
        refine j_aload_n d_Ra_behind_11 rfl rfl ?_
        refine j_getr d_Ra_behind_12 f_Ra_19 rfl rfl (by decide) rfl ?_
        refine j_iload_n d_Ra_behind_15 rfl rfl ?_
        refine q_i (s_Ra_behind_16 rfl (by decide)) rfl (Nat.le_of_ble_eq_true rfl) (Nat.le_of_ble_eq_true rfl) ?_
        refine c_Di_hasY (R := Z.2.1.1.1) (by omega) hD.1 e2 hj2 ?_
        refine j_if_eq (tgt := 27) d_Ra_behind_19 rfl (fun bq2 => False.elim (absurd bq2 (by decide))) (fun bq2 => ?_)
        refine j_iload_n d_Ra_behind_22 rfl rfl ?_
        refine j_iload_n d_Ra_behind_23 rfl rfl ?_
        refine j_icmp_ne (tgt := 30) d_Ra_behind_24 rfl (fun bq3 => ?_) (fun bq3 => False.elim (rs ((nI_eq (by omega) (by omega)).mp (e1.symm.trans (bq3.trans e2)))))
        refine j_aload_n d_Ra_behind_30 rfl rfl ?_
        refine j_getr d_Ra_behind_31 f_Ra_19 rfl rfl (by decide) rfl ?_
        refine j_getr d_Ra_behind_34 f_Ra_153 rfl rfl (by decide) rfl ?_
        refine j_iload_n d_Ra_behind_37 rfl rfl ?_
        refine q_i s_Ra_behind_38 rfl (Nat.le_of_ble_eq_true rfl) (Nat.le_of_ble_eq_true rfl) ?_
        refine c_Ra_av (j := r) rfl (by decide) e1 (by omega) (hD.2.2.2 r hj1).2.1 ?_
        refine j_bipush (v := 24) d_Ra_behind_41 (by decide) ?_
        refine j_iadd d_Ra_behind_43 ?_
        refine j_aload_n d_Ra_behind_44 rfl rfl ?_
        refine j_getr d_Ra_behind_45 f_Ra_19 rfl rfl (by decide) rfl ?_
        refine j_iload_n d_Ra_behind_48 rfl rfl ?_
        refine j_iload_n d_Ra_behind_49 rfl rfl ?_
        refine q_i (s_Ra_behind_50 rfl (by decide)) rfl (Nat.le_of_ble_eq_true rfl) (Nat.le_of_ble_eq_true rfl) ?_
        refine c_Di_travel hD od (x := r) (y := s) (by omega) (by omega) e1 e2 ?_
        refine j_iadd d_Ra_behind_53 ?_
        refine j_istore (ls' := [(4, _), (0, _), (1, _), (2, _), (3, _)]) d_Ra_behind_54 (by decide) rfl ?_
        refine j_iload d_Ra_behind_56 rfl ?_
        refine j_bipush (v := 24) d_Ra_behind_58 (by decide) ?_
        refine q_i s_Ra_behind_60 rfl (Nat.le_of_ble_eq_true rfl) (Nat.le_of_ble_eq_true rfl) ?_
        refine c_Jm_floorMod ?_
        refine j_istore (ls' := [(5, _), (4, _), (0, _), (1, _), (2, _), (3, _)]) d_Ra_behind_63 (by decide) rfl ?_
        refine j_bipush (v := 48) d_Ra_behind_65 (by decide) ?_
        refine j_aload_n d_Ra_behind_67 rfl rfl ?_
        refine j_getr d_Ra_behind_68 f_Ra_19 rfl rfl (by decide) rfl ?_
        refine j_iload_n d_Ra_behind_71 rfl rfl ?_
        refine j_iload_n d_Ra_behind_72 rfl rfl ?_
        refine q_i (s_Ra_behind_73 rfl (by decide)) rfl (Nat.le_of_ble_eq_true rfl) (Nat.le_of_ble_eq_true rfl) ?_
        refine c_Di_travel hD od (x := r) (y := s) (by omega) (by omega) e1 e2 ?_
        refine j_iadd d_Ra_behind_76 ?_
        refine j_istore (ls' := [(6, _), (5, _), (4, _), (0, _), (1, _), (2, _), (3, _)]) d_Ra_behind_77 (by decide) rfl ?_
        refine j_iload_n d_Ra_behind_79 rfl rfl ?_
        rcases (show w.toInt < 0 ∨ 2 < w.toInt ∨ w.toInt = 0 ∨ w.toInt = 1 ∨ w.toInt = 2 by omega) with t9 | t9 | t9 | t9 | t9
        · refine j_tabOut (tgt := 137) d_Ra_behind_80 (Or.inl t9) rfl ?_
          refine j_bipush (v := (-102)) d_Ra_behind_137 (by decide) ?_
          refine j_iret d_Ra_behind_139 rfl ?_
          have hs : s_behind Z x y w = -102 := by simp [s_behind, ix1, ix2, rs, a_be, a_ix_no (x := w) (n := 3) (by omega)]
          rw [hs] at hF
          exact q_i1 hF rfl
        · refine j_tabOut (tgt := 137) d_Ra_behind_80 (Or.inr t9) rfl ?_
          refine j_bipush (v := (-102)) d_Ra_behind_137 (by decide) ?_
          refine j_iret d_Ra_behind_139 rfl ?_
          have hs : s_behind Z x y w = -102 := by simp [s_behind, ix1, ix2, rs, a_be, a_ix_no (x := w) (n := 3) (by omega)]
          rw [hs] at hF
          exact q_i1 hF rfl
        · refine j_tabIn (off := 28) (tgt := 108) d_Ra_behind_80 (by rw [t9]; decide) (by rw [t9]; decide) (by rw [t9]; rfl) rfl ?_
          refine j_iload d_Ra_behind_108 rfl ?_
          refine j_aload_n d_Ra_behind_110 rfl rfl ?_
          refine j_getr d_Ra_behind_111 f_Ra_19 rfl rfl (by decide) rfl ?_
          refine j_getr d_Ra_behind_114 f_Ra_153 rfl rfl (by decide) rfl ?_
          refine j_iload_n d_Ra_behind_117 rfl rfl ?_
          refine q_i s_Ra_behind_118 rfl (Nat.le_of_ble_eq_true rfl) (Nat.le_of_ble_eq_true rfl) ?_
          refine c_Ra_av (j := s) rfl (by decide) e2 (by omega) (hD.2.2.2 s hj2).2.1 ?_
          refine j_iload d_Ra_behind_121 rfl ?_
          refine j_isub d_Ra_behind_123 ?_
          refine j_bipush (v := 24) d_Ra_behind_124 (by decide) ?_
          refine q_i s_Ra_behind_126 rfl (Nat.le_of_ble_eq_true rfl) (Nat.le_of_ble_eq_true rfl) ?_
          refine c_Jm_floorMod ?_
          refine j_iadd d_Ra_behind_129 ?_
          refine j_iret d_Ra_behind_130 rfl ?_
          have hs : s_behind Z x y w = nI (48 + (a_tr Z.2.1.1 r s) + (Z.2.1.1.2.2.2.2 s + 23 * (Z.2.1.1.2.2.2.2 r + 24 + (a_tr Z.2.1.1 r s))) % 24) := by simp [s_behind, ix1, ix2, rs, a_be, a_ix_of (x := w) (n := 3) (j := 0) (by omega) (by decide)]
          rw [hs] at hF
          exact q_i1 hF (a_beI0 ho1 ho2 hu)
        · refine j_tabIn (off := 51) (tgt := 131) d_Ra_behind_80 (by rw [t9]; decide) (by rw [t9]; decide) (by rw [t9]; rfl) rfl ?_
          refine j_iload d_Ra_behind_131 rfl ?_
          refine j_iret d_Ra_behind_133 rfl ?_
          have hs : s_behind Z x y w = nI ((Z.2.1.1.2.2.2.2 r + (a_tr Z.2.1.1 r s)) % 24) := by simp [s_behind, ix1, ix2, rs, a_be, a_ix_of (x := w) (n := 3) (j := 1) (by omega) (by decide)]
          rw [hs] at hF
          exact q_i1 hF (a_beI1 ho1 hu)
        · refine j_tabIn (off := 54) (tgt := 134) d_Ra_behind_80 (by rw [t9]; decide) (by rw [t9]; decide) (by rw [t9]; rfl) rfl ?_
          refine j_iload d_Ra_behind_134 rfl ?_
          refine j_iret d_Ra_behind_136 rfl ?_
          have hs : s_behind Z x y w = nI (48 + (a_tr Z.2.1.1 r s)) := by simp [s_behind, ix1, ix2, rs, a_be, a_ix_of (x := w) (n := 3) (j := 2) (by omega) (by decide)]
          rw [hs] at hF
          exact q_i1 hF a_beI2
set_option maxRecDepth 100000 in
set_option maxHeartbeats 4000000 in
theorem c_Ra_apart {G : r_X} {d : Nat} {h : r_HI} {p q : Nat} {z : r_HL} {F : Int32 → r_HI → r_HR → r_HL → Prop} {Z : a_Z} {x y w : Int32} (hC : p_C h p q Z) (ho : a_zok Z) (hF : F (s_apart Z x y w) h (r_gp p q) z) : r_Ci G m_Ra_apart (d + 20) 61 [.ref (G.2.1 + 0), .int x, .int y, .int w] 61 h (r_gp p q) z F := by
  obtain ⟨hP, ⟨hD, hK, hW, hS⟩, hpr, hld, hik, hpo, hkd, hqo, hkept⟩ := id hC
  obtain ⟨op, ⟨od, ok, otk, ow, os, okd⟩, o3, o4, o5, o6, o7⟩ := id ho
  obtain ⟨od1, od2, od3, od4⟩ := id od
  obtain ⟨ok1, ok2, ok3, ok4⟩ := id ok
  have os1 := os.1
  have op1 := op.1
  rcases ixc x Z.2.1.1.1 with ⟨ix1, hr1⟩ | ⟨r, hj1, e1, ix1, t1⟩
  · have hs : s_apart Z x y w = -101 := by simp [s_apart, ix1]
    rw [hs] at hF
    refine r_C_of (by decide +kernel) (Nat.le_of_ble_eq_true rfl) ?_
    refine j_ls (ls' := [(0, _), (1, _), (2, _), (3, _)]) rfl ?_
    refine j_aload_n d_Ra_apart_0 rfl rfl ?_
    refine j_getr d_Ra_apart_1 f_Ra_19 rfl rfl (by decide) rfl ?_
    refine j_iload_n d_Ra_apart_4 rfl rfl ?_
    refine q_i (s_Ra_apart_5 rfl (by decide)) rfl (Nat.le_of_ble_eq_true rfl) (Nat.le_of_ble_eq_true rfl) ?_
    refine c_Di_hasN (R := Z.2.1.1.1) (by omega) hD.1 hr1 ?_
    refine j_if_ne (tgt := 14) d_Ra_apart_8 rfl (fun bq1 => False.elim (bq1 rfl)) (fun bq1 => ?_)
    refine j_bipush (v := (-101)) d_Ra_apart_11 (by decide) ?_
    refine j_iret d_Ra_apart_13 rfl ?_
    exact q_i1 hF rfl
  · rcases ixc y 24 with ⟨ix2, hr2⟩ | ⟨t, hj2, e2, ix2, t2⟩
    · rcases hr2 with hr2 | hr2
      · have hs : s_apart Z x y w = -102 := by simp [s_apart, ix1, ix2]
        rw [hs] at hF
        refine r_C_of (by decide +kernel) (Nat.le_of_ble_eq_true rfl) ?_
        refine j_ls (ls' := [(0, _), (1, _), (2, _), (3, _)]) rfl ?_
        refine j_aload_n d_Ra_apart_0 rfl rfl ?_
        refine j_getr d_Ra_apart_1 f_Ra_19 rfl rfl (by decide) rfl ?_
        refine j_iload_n d_Ra_apart_4 rfl rfl ?_
        refine q_i (s_Ra_apart_5 rfl (by decide)) rfl (Nat.le_of_ble_eq_true rfl) (Nat.le_of_ble_eq_true rfl) ?_
        refine c_Di_hasY (R := Z.2.1.1.1) (by omega) hD.1 e1 hj1 ?_
        refine j_if_ne (tgt := 14) d_Ra_apart_8 rfl (fun bq1 => ?_) (fun bq1 => False.elim (absurd bq1 (by decide)))
        refine j_iload_n d_Ra_apart_14 rfl rfl ?_
        refine j_if_lt (tgt := 33) d_Ra_apart_15 rfl (fun bq2 => ?_) (fun bq2 => False.elim (bq2 ((xlt (n := 0) (by decide)).mpr (by omega))))
        refine j_bipush (v := (-102)) d_Ra_apart_33 (by decide) ?_
        refine j_iret d_Ra_apart_35 rfl ?_
        exact q_i1 hF rfl
      · have hs : s_apart Z x y w = -102 := by simp [s_apart, ix1, ix2]
        rw [hs] at hF
        refine r_C_of (by decide +kernel) (Nat.le_of_ble_eq_true rfl) ?_
        refine j_ls (ls' := [(0, _), (1, _), (2, _), (3, _)]) rfl ?_
        refine j_aload_n d_Ra_apart_0 rfl rfl ?_
        refine j_getr d_Ra_apart_1 f_Ra_19 rfl rfl (by decide) rfl ?_
        refine j_iload_n d_Ra_apart_4 rfl rfl ?_
        refine q_i (s_Ra_apart_5 rfl (by decide)) rfl (Nat.le_of_ble_eq_true rfl) (Nat.le_of_ble_eq_true rfl) ?_
        refine c_Di_hasY (R := Z.2.1.1.1) (by omega) hD.1 e1 hj1 ?_
        refine j_if_ne (tgt := 14) d_Ra_apart_8 rfl (fun bq1 => ?_) (fun bq1 => False.elim (absurd bq1 (by decide)))
        refine j_iload_n d_Ra_apart_14 rfl rfl ?_
        refine j_if_lt (tgt := 33) d_Ra_apart_15 rfl (fun bq2 => False.elim (absurd ((xlt (n := 0) (by decide)).mp bq2) (by omega))) (fun bq2 => ?_)
        refine j_iload_n d_Ra_apart_18 rfl rfl ?_
        refine j_bipush (v := 24) d_Ra_apart_19 (by decide) ?_
        refine j_icmp_ge (tgt := 33) d_Ra_apart_21 rfl (fun bq3 => ?_) (fun bq3 => False.elim (bq3 ((nlex (n := 24) (by decide)).mpr (by omega))))
        refine j_bipush (v := (-102)) d_Ra_apart_33 (by decide) ?_
        refine j_iret d_Ra_apart_35 rfl ?_
        exact q_i1 hF rfl
    · rcases ixc w 2 with ⟨ix3, hr3⟩ | ⟨v, hj3, e3, ix3, t3⟩
      · rcases hr3 with hr3 | hr3
        · have hs : s_apart Z x y w = -102 := by simp [s_apart, ix1, ix2, ix3]
          rw [hs] at hF
          refine r_C_of (by decide +kernel) (Nat.le_of_ble_eq_true rfl) ?_
          refine j_ls (ls' := [(0, _), (1, _), (2, _), (3, _)]) rfl ?_
          refine j_aload_n d_Ra_apart_0 rfl rfl ?_
          refine j_getr d_Ra_apart_1 f_Ra_19 rfl rfl (by decide) rfl ?_
          refine j_iload_n d_Ra_apart_4 rfl rfl ?_
          refine q_i (s_Ra_apart_5 rfl (by decide)) rfl (Nat.le_of_ble_eq_true rfl) (Nat.le_of_ble_eq_true rfl) ?_
          refine c_Di_hasY (R := Z.2.1.1.1) (by omega) hD.1 e1 hj1 ?_
          refine j_if_ne (tgt := 14) d_Ra_apart_8 rfl (fun bq1 => ?_) (fun bq1 => False.elim (absurd bq1 (by decide)))
          refine j_iload_n d_Ra_apart_14 rfl rfl ?_
          refine j_if_lt (tgt := 33) d_Ra_apart_15 rfl (fun bq2 => False.elim (absurd ((xlt (n := 0) (by decide)).mp bq2) (by omega))) (fun bq2 => ?_)
          refine j_iload_n d_Ra_apart_18 rfl rfl ?_
          refine j_bipush (v := 24) d_Ra_apart_19 (by decide) ?_
          refine j_icmp_ge (tgt := 33) d_Ra_apart_21 rfl (fun bq3 => False.elim (absurd ((nlex (n := 24) (by decide)).mp bq3) (by omega))) (fun bq3 => ?_)
          refine j_iload_n d_Ra_apart_24 rfl rfl ?_
          refine j_if_lt (tgt := 33) d_Ra_apart_25 rfl (fun bq4 => ?_) (fun bq4 => False.elim (bq4 ((xlt (n := 0) (by decide)).mpr (by omega))))
          refine j_bipush (v := (-102)) d_Ra_apart_33 (by decide) ?_
          refine j_iret d_Ra_apart_35 rfl ?_
          exact q_i1 hF rfl
        · have hs : s_apart Z x y w = -102 := by simp [s_apart, ix1, ix2, ix3]
          rw [hs] at hF
          refine r_C_of (by decide +kernel) (Nat.le_of_ble_eq_true rfl) ?_
          refine j_ls (ls' := [(0, _), (1, _), (2, _), (3, _)]) rfl ?_
          refine j_aload_n d_Ra_apart_0 rfl rfl ?_
          refine j_getr d_Ra_apart_1 f_Ra_19 rfl rfl (by decide) rfl ?_
          refine j_iload_n d_Ra_apart_4 rfl rfl ?_
          refine q_i (s_Ra_apart_5 rfl (by decide)) rfl (Nat.le_of_ble_eq_true rfl) (Nat.le_of_ble_eq_true rfl) ?_
          refine c_Di_hasY (R := Z.2.1.1.1) (by omega) hD.1 e1 hj1 ?_
          refine j_if_ne (tgt := 14) d_Ra_apart_8 rfl (fun bq1 => ?_) (fun bq1 => False.elim (absurd bq1 (by decide)))
          refine j_iload_n d_Ra_apart_14 rfl rfl ?_
          refine j_if_lt (tgt := 33) d_Ra_apart_15 rfl (fun bq2 => False.elim (absurd ((xlt (n := 0) (by decide)).mp bq2) (by omega))) (fun bq2 => ?_)
          refine j_iload_n d_Ra_apart_18 rfl rfl ?_
          refine j_bipush (v := 24) d_Ra_apart_19 (by decide) ?_
          refine j_icmp_ge (tgt := 33) d_Ra_apart_21 rfl (fun bq3 => False.elim (absurd ((nlex (n := 24) (by decide)).mp bq3) (by omega))) (fun bq3 => ?_)
          refine j_iload_n d_Ra_apart_24 rfl rfl ?_
          refine j_if_lt (tgt := 33) d_Ra_apart_25 rfl (fun bq4 => False.elim (absurd ((xlt (n := 0) (by decide)).mp bq4) (by omega))) (fun bq4 => ?_)
          refine j_iload_n d_Ra_apart_28 rfl rfl ?_
          refine j_iconst (v := 1) d_Ra_apart_29 rfl ?_
          refine j_icmp_le (tgt := 36) d_Ra_apart_30 rfl (fun bq5 => False.elim (absurd ((xle (n := 1) (by decide)).mp bq5) (by omega))) (fun bq5 => ?_)
          refine j_bipush (v := (-102)) d_Ra_apart_33 (by decide) ?_
          refine j_iret d_Ra_apart_35 rfl ?_
          exact q_i1 hF rfl
      · have hpl := a_pl (od4 r hj1).1
        have hbg : a_bg (Z.2.1.1.2.2.2.1 r) t (Z.2.1.1.2.2.2.1 r - 2) 2 1 < 12 := a_bg_lt _ _ _ (by omega) (by omega)
        by_cases v0 : v = 0
        · have hs : s_apart Z x y w = nI (a_bg (Z.2.1.1.2.2.2.1 r) t (Z.2.1.1.2.2.2.1 r - 2) 2 1) := by simp [s_apart, ix1, ix2, ix3, v0, a_ap]
          rw [hs] at hF
          refine r_C_of (by decide +kernel) (Nat.le_of_ble_eq_true rfl) ?_
          refine j_ls (ls' := [(0, _), (1, _), (2, _), (3, _)]) rfl ?_
          refine j_aload_n d_Ra_apart_0 rfl rfl ?_
          refine j_getr d_Ra_apart_1 f_Ra_19 rfl rfl (by decide) rfl ?_
          refine j_iload_n d_Ra_apart_4 rfl rfl ?_
          refine q_i (s_Ra_apart_5 rfl (by decide)) rfl (Nat.le_of_ble_eq_true rfl) (Nat.le_of_ble_eq_true rfl) ?_
          refine c_Di_hasY (R := Z.2.1.1.1) (by omega) hD.1 e1 hj1 ?_
          refine j_if_ne (tgt := 14) d_Ra_apart_8 rfl (fun bq1 => ?_) (fun bq1 => False.elim (absurd bq1 (by decide)))
          refine j_iload_n d_Ra_apart_14 rfl rfl ?_
          refine j_if_lt (tgt := 33) d_Ra_apart_15 rfl (fun bq2 => False.elim (absurd ((xlt (n := 0) (by decide)).mp bq2) (by omega))) (fun bq2 => ?_)
          refine j_iload_n d_Ra_apart_18 rfl rfl ?_
          refine j_bipush (v := 24) d_Ra_apart_19 (by decide) ?_
          refine j_icmp_ge (tgt := 33) d_Ra_apart_21 rfl (fun bq3 => False.elim (absurd ((nlex (n := 24) (by decide)).mp bq3) (by omega))) (fun bq3 => ?_)
          refine j_iload_n d_Ra_apart_24 rfl rfl ?_
          refine j_if_lt (tgt := 33) d_Ra_apart_25 rfl (fun bq4 => False.elim (absurd ((xlt (n := 0) (by decide)).mp bq4) (by omega))) (fun bq4 => ?_)
          refine j_iload_n d_Ra_apart_28 rfl rfl ?_
          refine j_iconst (v := 1) d_Ra_apart_29 rfl ?_
          refine j_icmp_le (tgt := 36) d_Ra_apart_30 rfl (fun bq5 => ?_) (fun bq5 => False.elim (bq5 ((xle (n := 1) (by decide)).mpr (by omega))))
          refine j_aload_n d_Ra_apart_36 rfl rfl ?_
          refine j_getr d_Ra_apart_37 f_Ra_19 rfl rfl (by decide) rfl ?_
          refine j_iload_n d_Ra_apart_40 rfl rfl ?_
          refine j_iload_n d_Ra_apart_41 rfl rfl ?_
          refine q_i (s_Ra_apart_42 rfl (by decide)) rfl (Nat.le_of_ble_eq_true rfl) (Nat.le_of_ble_eq_true rfl) ?_
          refine c_Di_bestGap hD od (r := r) (th := t) hj1 hj2 e1 e2 ?_
          refine j_istore (ls' := [(4, _), (0, _), (1, _), (2, _), (3, _)]) d_Ra_apart_45 (by decide) rfl ?_
          refine j_iload_n d_Ra_apart_47 rfl rfl ?_
          refine j_if_ne (tgt := 56) d_Ra_apart_48 rfl (fun bq6 => False.elim (bq6 ((xeq (n := 0) (by decide)).mpr (by omega)))) (fun bq6 => ?_)
          refine j_iload d_Ra_apart_51 rfl ?_
          refine j_goto (tgt := 67) d_Ra_apart_53 rfl ?_
          refine j_iret d_Ra_apart_67 rfl ?_
          exact q_i1 hF rfl
        · have hs : s_apart Z x y w = nI (a_gt (Z.2.1.1.2.2.2.1 r) t (a_bg (Z.2.1.1.2.2.2.1 r) t (Z.2.1.1.2.2.2.1 r - 2) 2 1)) := by simp [s_apart, ix1, ix2, ix3, v0, a_ap]
          rw [hs] at hF
          refine r_C_of (by decide +kernel) (Nat.le_of_ble_eq_true rfl) ?_
          refine j_ls (ls' := [(0, _), (1, _), (2, _), (3, _)]) rfl ?_
          refine j_aload_n d_Ra_apart_0 rfl rfl ?_
          refine j_getr d_Ra_apart_1 f_Ra_19 rfl rfl (by decide) rfl ?_
          refine j_iload_n d_Ra_apart_4 rfl rfl ?_
          refine q_i (s_Ra_apart_5 rfl (by decide)) rfl (Nat.le_of_ble_eq_true rfl) (Nat.le_of_ble_eq_true rfl) ?_
          refine c_Di_hasY (R := Z.2.1.1.1) (by omega) hD.1 e1 hj1 ?_
          refine j_if_ne (tgt := 14) d_Ra_apart_8 rfl (fun bq1 => ?_) (fun bq1 => False.elim (absurd bq1 (by decide)))
          refine j_iload_n d_Ra_apart_14 rfl rfl ?_
          refine j_if_lt (tgt := 33) d_Ra_apart_15 rfl (fun bq2 => False.elim (absurd ((xlt (n := 0) (by decide)).mp bq2) (by omega))) (fun bq2 => ?_)
          refine j_iload_n d_Ra_apart_18 rfl rfl ?_
          refine j_bipush (v := 24) d_Ra_apart_19 (by decide) ?_
          refine j_icmp_ge (tgt := 33) d_Ra_apart_21 rfl (fun bq3 => False.elim (absurd ((nlex (n := 24) (by decide)).mp bq3) (by omega))) (fun bq3 => ?_)
          refine j_iload_n d_Ra_apart_24 rfl rfl ?_
          refine j_if_lt (tgt := 33) d_Ra_apart_25 rfl (fun bq4 => False.elim (absurd ((xlt (n := 0) (by decide)).mp bq4) (by omega))) (fun bq4 => ?_)
          refine j_iload_n d_Ra_apart_28 rfl rfl ?_
          refine j_iconst (v := 1) d_Ra_apart_29 rfl ?_
          refine j_icmp_le (tgt := 36) d_Ra_apart_30 rfl (fun bq5 => ?_) (fun bq5 => False.elim (bq5 ((xle (n := 1) (by decide)).mpr (by omega))))
          refine j_aload_n d_Ra_apart_36 rfl rfl ?_
          refine j_getr d_Ra_apart_37 f_Ra_19 rfl rfl (by decide) rfl ?_
          refine j_iload_n d_Ra_apart_40 rfl rfl ?_
          refine j_iload_n d_Ra_apart_41 rfl rfl ?_
          refine q_i (s_Ra_apart_42 rfl (by decide)) rfl (Nat.le_of_ble_eq_true rfl) (Nat.le_of_ble_eq_true rfl) ?_
          refine c_Di_bestGap hD od (r := r) (th := t) hj1 hj2 e1 e2 ?_
          refine j_istore (ls' := [(4, _), (0, _), (1, _), (2, _), (3, _)]) d_Ra_apart_45 (by decide) rfl ?_
          refine j_iload_n d_Ra_apart_47 rfl rfl ?_
          refine j_if_ne (tgt := 56) d_Ra_apart_48 rfl (fun bq6 => ?_) (fun bq6 => False.elim (absurd ((xeq (n := 0) (by decide)).mp bq6) (by omega)))
          refine j_aload_n d_Ra_apart_56 rfl rfl ?_
          refine j_getr d_Ra_apart_57 f_Ra_19 rfl rfl (by decide) rfl ?_
          refine j_iload_n d_Ra_apart_60 rfl rfl ?_
          refine j_iload_n d_Ra_apart_61 rfl rfl ?_
          refine j_iload d_Ra_apart_62 rfl ?_
          refine q_i (s_Ra_apart_64 rfl (by decide)) rfl (Nat.le_of_ble_eq_true rfl) (Nat.le_of_ble_eq_true rfl) ?_
          refine c_Di_gapTicks hD od hj1 hj2 hbg e1 e2 rfl ?_
          refine j_iret d_Ra_apart_67 rfl ?_
          exact q_i1 hF rfl
set_option maxRecDepth 100000 in
set_option maxHeartbeats 4000000 in
theorem c_Ra_see {G : r_X} {d : Nat} {h : r_HI} {p q : Nat} {z : r_HL} {F : Int32 → r_HI → r_HR → r_HL → Prop} {Z : a_Z} {x y : Int32} (hC : p_C h p q Z) (ho : a_zok Z) (hF : ∀ h' p' q', r_mo h h' → p_C h' p' q' (s_see Z x y).2 → F (s_see Z x y).1 h' (r_gp p' q') z) : r_Ci G m_Ra_see (d + 20) 61 [.ref (G.2.1 + 0), .int x, .int y] 61 h (r_gp p q) z F := by
  obtain ⟨hP, ⟨hD, hK, hW, hS⟩, hpr, hld, hik, hpo, hkd, hqo, hkept⟩ := id hC
  obtain ⟨op, ⟨od, ok, otk, ow, os, okd⟩, o3, o4, o5, o6, o7⟩ := id ho
  obtain ⟨od1, od2, od3, od4⟩ := id od
  obtain ⟨ok1, ok2, ok3, ok4⟩ := id ok
  have os1 := os.1
  have op1 := op.1
  rcases ixc x 10 with ⟨ix1, hr1⟩ | ⟨r, hj1, e1, ix1, t1⟩
  · rcases hr1 with hr1 | hr1
    · have hs : s_see Z x y = (-102, Z) := by simp [s_see, ix1]
      rw [hs] at hF
      refine r_C_of (by decide +kernel) (Nat.le_of_ble_eq_true rfl) ?_
      refine j_ls (ls' := [(0, _), (1, _), (2, _)]) rfl ?_
      refine j_iload_n d_Ra_see_0 rfl rfl ?_
      refine j_iconst (v := 1) d_Ra_see_1 rfl ?_
      refine j_icmp_lt (tgt := 21) d_Ra_see_2 rfl (fun bq1 => ?_) (fun bq1 => False.elim (bq1 ((xlt (n := 1) (by decide)).mpr (by omega))))
      refine j_bipush (v := (-102)) d_Ra_see_21 (by decide) ?_
      refine j_iret d_Ra_see_23 rfl ?_
      exact q_i1 (hF _ _ _ r_mo.rf hC) rfl
    · have hs : s_see Z x y = (-102, Z) := by simp [s_see, ix1]
      rw [hs] at hF
      refine r_C_of (by decide +kernel) (Nat.le_of_ble_eq_true rfl) ?_
      refine j_ls (ls' := [(0, _), (1, _), (2, _)]) rfl ?_
      refine j_iload_n d_Ra_see_0 rfl rfl ?_
      refine j_iconst (v := 1) d_Ra_see_1 rfl ?_
      refine j_icmp_lt (tgt := 21) d_Ra_see_2 rfl (fun bq1 => False.elim (absurd ((xlt (n := 1) (by decide)).mp bq1) (by omega))) (fun bq1 => ?_)
      refine j_iload_n d_Ra_see_5 rfl rfl ?_
      refine j_bipush (v := 9) d_Ra_see_6 (by decide) ?_
      refine j_icmp_gt (tgt := 21) d_Ra_see_8 rfl (fun bq2 => ?_) (fun bq2 => False.elim (bq2 ((nlx (n := 9) (by decide)).mpr (by omega))))
      refine j_bipush (v := (-102)) d_Ra_see_21 (by decide) ?_
      refine j_iret d_Ra_see_23 rfl ?_
      exact q_i1 (hF _ _ _ r_mo.rf hC) rfl
  · by_cases c0 : r = 0
    · have hs : s_see Z x y = (-102, Z) := by simp [s_see, ix1, c0]
      rw [hs] at hF
      refine r_C_of (by decide +kernel) (Nat.le_of_ble_eq_true rfl) ?_
      refine j_ls (ls' := [(0, _), (1, _), (2, _)]) rfl ?_
      refine j_iload_n d_Ra_see_0 rfl rfl ?_
      refine j_iconst (v := 1) d_Ra_see_1 rfl ?_
      refine j_icmp_lt (tgt := 21) d_Ra_see_2 rfl (fun bq1 => ?_) (fun bq1 => False.elim (bq1 ((xlt (n := 1) (by decide)).mpr (by omega))))
      refine j_bipush (v := (-102)) d_Ra_see_21 (by decide) ?_
      refine j_iret d_Ra_see_23 rfl ?_
      exact q_i1 (hF _ _ _ r_mo.rf hC) rfl
    · rcases ixc y 100 with ⟨ix2, hr2⟩ | ⟨t, hj2, e2, ix2, t2⟩
      · rcases hr2 with hr2 | hr2
        · have hs : s_see Z x y = (-102, Z) := by simp [s_see, ix1, ix2, c0]
          rw [hs] at hF
          refine r_C_of (by decide +kernel) (Nat.le_of_ble_eq_true rfl) ?_
          refine j_ls (ls' := [(0, _), (1, _), (2, _)]) rfl ?_
          refine j_iload_n d_Ra_see_0 rfl rfl ?_
          refine j_iconst (v := 1) d_Ra_see_1 rfl ?_
          refine j_icmp_lt (tgt := 21) d_Ra_see_2 rfl (fun bq1 => False.elim (absurd ((xlt (n := 1) (by decide)).mp bq1) (by omega))) (fun bq1 => ?_)
          refine j_iload_n d_Ra_see_5 rfl rfl ?_
          refine j_bipush (v := 9) d_Ra_see_6 (by decide) ?_
          refine j_icmp_gt (tgt := 21) d_Ra_see_8 rfl (fun bq2 => False.elim (absurd ((nlx (n := 9) (by decide)).mp bq2) (by omega))) (fun bq2 => ?_)
          refine j_iload_n d_Ra_see_11 rfl rfl ?_
          refine j_if_lt (tgt := 21) d_Ra_see_12 rfl (fun bq3 => ?_) (fun bq3 => False.elim (bq3 ((xlt (n := 0) (by decide)).mpr (by omega))))
          refine j_bipush (v := (-102)) d_Ra_see_21 (by decide) ?_
          refine j_iret d_Ra_see_23 rfl ?_
          exact q_i1 (hF _ _ _ r_mo.rf hC) rfl
        · have hs : s_see Z x y = (-102, Z) := by simp [s_see, ix1, ix2, c0]
          rw [hs] at hF
          refine r_C_of (by decide +kernel) (Nat.le_of_ble_eq_true rfl) ?_
          refine j_ls (ls' := [(0, _), (1, _), (2, _)]) rfl ?_
          refine j_iload_n d_Ra_see_0 rfl rfl ?_
          refine j_iconst (v := 1) d_Ra_see_1 rfl ?_
          refine j_icmp_lt (tgt := 21) d_Ra_see_2 rfl (fun bq1 => False.elim (absurd ((xlt (n := 1) (by decide)).mp bq1) (by omega))) (fun bq1 => ?_)
          refine j_iload_n d_Ra_see_5 rfl rfl ?_
          refine j_bipush (v := 9) d_Ra_see_6 (by decide) ?_
          refine j_icmp_gt (tgt := 21) d_Ra_see_8 rfl (fun bq2 => False.elim (absurd ((nlx (n := 9) (by decide)).mp bq2) (by omega))) (fun bq2 => ?_)
          refine j_iload_n d_Ra_see_11 rfl rfl ?_
          refine j_if_lt (tgt := 21) d_Ra_see_12 rfl (fun bq3 => False.elim (absurd ((xlt (n := 0) (by decide)).mp bq3) (by omega))) (fun bq3 => ?_)
          refine j_iload_n d_Ra_see_15 rfl rfl ?_
          refine j_bipush (v := 99) d_Ra_see_16 (by decide) ?_
          refine j_icmp_le (tgt := 24) d_Ra_see_18 rfl (fun bq4 => False.elim (absurd ((xle (n := 99) (by decide)).mp bq4) (by omega))) (fun bq4 => ?_)
          refine j_bipush (v := (-102)) d_Ra_see_21 (by decide) ?_
          refine j_iret d_Ra_see_23 rfl ?_
          exact q_i1 (hF _ _ _ r_mo.rf hC) rfl
      · by_cases hR : Z.2.1.1.1 = 0
        · have hs : s_see Z x y = (-103, Z) := by simp [s_see, ix1, ix2, c0, hR]
          rw [hs] at hF
          refine r_C_of (by decide +kernel) (Nat.le_of_ble_eq_true rfl) ?_
          refine j_ls (ls' := [(0, _), (1, _), (2, _)]) rfl ?_
          refine j_iload_n d_Ra_see_0 rfl rfl ?_
          refine j_iconst (v := 1) d_Ra_see_1 rfl ?_
          refine j_icmp_lt (tgt := 21) d_Ra_see_2 rfl (fun bq1 => False.elim (absurd ((xlt (n := 1) (by decide)).mp bq1) (by omega))) (fun bq1 => ?_)
          refine j_iload_n d_Ra_see_5 rfl rfl ?_
          refine j_bipush (v := 9) d_Ra_see_6 (by decide) ?_
          refine j_icmp_gt (tgt := 21) d_Ra_see_8 rfl (fun bq2 => False.elim (absurd ((nlx (n := 9) (by decide)).mp bq2) (by omega))) (fun bq2 => ?_)
          refine j_iload_n d_Ra_see_11 rfl rfl ?_
          refine j_if_lt (tgt := 21) d_Ra_see_12 rfl (fun bq3 => False.elim (absurd ((xlt (n := 0) (by decide)).mp bq3) (by omega))) (fun bq3 => ?_)
          refine j_iload_n d_Ra_see_15 rfl rfl ?_
          refine j_bipush (v := 99) d_Ra_see_16 (by decide) ?_
          refine j_icmp_le (tgt := 24) d_Ra_see_18 rfl (fun bq4 => ?_) (fun bq4 => False.elim (bq4 ((xle (n := 99) (by decide)).mpr (by omega))))
          refine j_aload_n d_Ra_see_24 rfl rfl ?_
          refine q_i (s_Ra_see_25 rfl (by decide)) rfl (Nat.le_of_ble_eq_true rfl) (Nat.le_of_ble_eq_true rfl) ?_
          refine c_hpN hR hD.1 ?_
          refine j_if_ne (tgt := 34) d_Ra_see_28 rfl (fun bq5 => False.elim (bq5 rfl)) (fun bq5 => ?_)
          refine j_bipush (v := (-103)) d_Ra_see_31 (by decide) ?_
          refine j_iret d_Ra_see_33 rfl ?_
          exact q_i1 (hF _ _ _ r_mo.rf hC) rfl
        · by_cases h6 : 6 ≤ Z.2.1.2.2.2.1.1
          · have hs : s_see Z x y = (-104, Z) := by simp [s_see, ix1, ix2, c0, hR, h6]
            rw [hs] at hF
            refine r_C_of (by decide +kernel) (Nat.le_of_ble_eq_true rfl) ?_
            refine j_ls (ls' := [(0, _), (1, _), (2, _)]) rfl ?_
            refine j_iload_n d_Ra_see_0 rfl rfl ?_
            refine j_iconst (v := 1) d_Ra_see_1 rfl ?_
            refine j_icmp_lt (tgt := 21) d_Ra_see_2 rfl (fun bq1 => False.elim (absurd ((xlt (n := 1) (by decide)).mp bq1) (by omega))) (fun bq1 => ?_)
            refine j_iload_n d_Ra_see_5 rfl rfl ?_
            refine j_bipush (v := 9) d_Ra_see_6 (by decide) ?_
            refine j_icmp_gt (tgt := 21) d_Ra_see_8 rfl (fun bq2 => False.elim (absurd ((nlx (n := 9) (by decide)).mp bq2) (by omega))) (fun bq2 => ?_)
            refine j_iload_n d_Ra_see_11 rfl rfl ?_
            refine j_if_lt (tgt := 21) d_Ra_see_12 rfl (fun bq3 => False.elim (absurd ((xlt (n := 0) (by decide)).mp bq3) (by omega))) (fun bq3 => ?_)
            refine j_iload_n d_Ra_see_15 rfl rfl ?_
            refine j_bipush (v := 99) d_Ra_see_16 (by decide) ?_
            refine j_icmp_le (tgt := 24) d_Ra_see_18 rfl (fun bq4 => ?_) (fun bq4 => False.elim (bq4 ((xle (n := 99) (by decide)).mpr (by omega))))
            refine j_aload_n d_Ra_see_24 rfl rfl ?_
            refine q_i (s_Ra_see_25 rfl (by decide)) rfl (Nat.le_of_ble_eq_true rfl) (Nat.le_of_ble_eq_true rfl) ?_
            refine c_hpY (by omega) od1 hD.1 ?_
            refine j_if_ne (tgt := 34) d_Ra_see_28 rfl (fun bq5 => ?_) (fun bq5 => False.elim (absurd bq5 (by decide)))
            refine j_aload_n d_Ra_see_34 rfl rfl ?_
            refine j_getr d_Ra_see_35 f_Ra_42 rfl rfl (by decide) rfl ?_
            refine j_geti d_Ra_see_38 f_Ra_263 rfl rfl (by decide) ?_
            rw [hS.1]
            refine j_bipush (v := 6) d_Ra_see_41 (by decide) ?_
            refine j_icmp_lt (tgt := 49) d_Ra_see_43 rfl (fun bq6 => False.elim (nI_nlt (a := Z.2.1.2.2.2.1.1) (b := 6) (by omega) (by omega) bq6)) (fun bq6 => ?_)
            refine j_bipush (v := (-104)) d_Ra_see_46 (by decide) ?_
            refine j_iret d_Ra_see_48 rfl ?_
            exact q_i1 (hF _ _ _ r_mo.rf hC) rfl
          · have hs : s_see Z x y = (nI (Z.2.1.2.2.2.1.1 + 1), z_S Z (Z.2.1.2.2.2.1.1 + 1, va_up Z.2.1.2.2.2.1.2.1 Z.2.1.2.2.2.1.1 r, va_up Z.2.1.2.2.2.1.2.2 Z.2.1.2.2.2.1.1 t)) := by simp [s_see, ix1, ix2, c0, hR, h6]
            rw [hs] at hF
            refine r_C_of (by decide +kernel) (Nat.le_of_ble_eq_true rfl) ?_
            refine j_ls (ls' := [(0, _), (1, _), (2, _)]) rfl ?_
            refine j_iload_n d_Ra_see_0 rfl rfl ?_
            refine j_iconst (v := 1) d_Ra_see_1 rfl ?_
            refine j_icmp_lt (tgt := 21) d_Ra_see_2 rfl (fun bq1 => False.elim (absurd ((xlt (n := 1) (by decide)).mp bq1) (by omega))) (fun bq1 => ?_)
            refine j_iload_n d_Ra_see_5 rfl rfl ?_
            refine j_bipush (v := 9) d_Ra_see_6 (by decide) ?_
            refine j_icmp_gt (tgt := 21) d_Ra_see_8 rfl (fun bq2 => False.elim (absurd ((nlx (n := 9) (by decide)).mp bq2) (by omega))) (fun bq2 => ?_)
            refine j_iload_n d_Ra_see_11 rfl rfl ?_
            refine j_if_lt (tgt := 21) d_Ra_see_12 rfl (fun bq3 => False.elim (absurd ((xlt (n := 0) (by decide)).mp bq3) (by omega))) (fun bq3 => ?_)
            refine j_iload_n d_Ra_see_15 rfl rfl ?_
            refine j_bipush (v := 99) d_Ra_see_16 (by decide) ?_
            refine j_icmp_le (tgt := 24) d_Ra_see_18 rfl (fun bq4 => ?_) (fun bq4 => False.elim (bq4 ((xle (n := 99) (by decide)).mpr (by omega))))
            refine j_aload_n d_Ra_see_24 rfl rfl ?_
            refine q_i (s_Ra_see_25 rfl (by decide)) rfl (Nat.le_of_ble_eq_true rfl) (Nat.le_of_ble_eq_true rfl) ?_
            refine c_hpY (by omega) od1 hD.1 ?_
            refine j_if_ne (tgt := 34) d_Ra_see_28 rfl (fun bq5 => ?_) (fun bq5 => False.elim (absurd bq5 (by decide)))
            refine j_aload_n d_Ra_see_34 rfl rfl ?_
            refine j_getr d_Ra_see_35 f_Ra_42 rfl rfl (by decide) rfl ?_
            refine j_geti d_Ra_see_38 f_Ra_263 rfl rfl (by decide) ?_
            rw [hS.1]
            refine j_bipush (v := 6) d_Ra_see_41 (by decide) ?_
            refine j_icmp_lt (tgt := 49) d_Ra_see_43 rfl (fun bq6 => ?_) (fun bq6 => False.elim (bq6 (nI_lt (a := Z.2.1.2.2.2.1.1) (b := 6) (by omega) (by omega))))
            refine j_aload_n d_Ra_see_49 rfl rfl ?_
            refine j_getr d_Ra_see_50 f_Ra_42 rfl rfl (by decide) rfl ?_
            refine j_iload_n d_Ra_see_53 rfl rfl ?_
            refine j_iload_n d_Ra_see_54 rfl rfl ?_
            refine q_i (s_Ra_see_55 rfl (by decide)) rfl (Nat.le_of_ble_eq_true rfl) (Nat.le_of_ble_eq_true rfl) ?_
            refine c_Si_append hS os (by omega) e1 e2 (fun h' q1 q2 => ?_)
            refine j_iret d_Ra_see_58 rfl ?_
            exact q_i1 (hF _ _ _ (q1.mo (by decide)) (hC.S q1 q2)) rfl
set_option maxRecDepth 100000 in
set_option maxHeartbeats 4000000 in
theorem c_Ra_forget {G : r_X} {d : Nat} {h : r_HI} {p q : Nat} {z : r_HL} {F : Int32 → r_HI → r_HR → r_HL → Prop} {Z : a_Z} (hC : p_C h p q Z) (ho : a_zok Z) (hF : ∀ h' p' q', r_mo h h' → p_C h' p' q' (s_forget Z).2 → F (s_forget Z).1 h' (r_gp p' q') z) : r_Ci G m_Ra_forget (d + 20) 61 [.ref (G.2.1 + 0)] 61 h (r_gp p q) z F := by
  obtain ⟨hP, ⟨hD, hK, hW, hS⟩, hpr, hld, hik, hpo, hkd, hqo, hkept⟩ := id hC
  obtain ⟨op, ⟨od, ok, otk, ow, os, okd⟩, o3, o4, o5, o6, o7⟩ := id ho
  obtain ⟨od1, od2, od3, od4⟩ := id od
  obtain ⟨ok1, ok2, ok3, ok4⟩ := id ok
  have os1 := os.1
  have op1 := op.1
  have hs : s_forget Z = (nI Z.2.1.2.2.2.1.1, z_S Z (0, Z.2.1.2.2.2.1.2)) := by simp [s_forget, s_forget]
  rw [hs] at hF
  refine r_C_of (by decide +kernel) (Nat.le_of_ble_eq_true rfl) ?_
  refine j_ls (ls' := [(0, _)]) rfl ?_
  refine j_aload_n d_Ra_forget_0 rfl rfl ?_
  refine j_getr d_Ra_forget_1 f_Ra_42 rfl rfl (by decide) rfl ?_
  refine q_i (s_Ra_forget_4 rfl (by decide)) rfl (Nat.le_of_ble_eq_true rfl) (Nat.le_of_ble_eq_true rfl) ?_
  refine c_Si_clear hS os (fun h' q1 q2 => ?_)
  refine j_iret d_Ra_forget_7 rfl ?_
  exact q_i1 (hF _ _ _ (q1.mo (by decide)) (hC.S (q1.mono (by decide)) q2)) rfl
set_option maxRecDepth 100000 in
set_option maxHeartbeats 4000000 in
theorem c_Ra_steps {G : r_X} {d : Nat} {h : r_HI} {p q : Nat} {z : r_HL} {F : Int32 → r_HI → r_HR → r_HL → Prop} {Z : a_Z} (hC : p_C h p q Z) (ho : a_zok Z) (hF : F (s_steps Z) h (r_gp p q) z) : r_Ci G m_Ra_steps (d + 20) 61 [.ref (G.2.1 + 0)] 61 h (r_gp p q) z F := by
  obtain ⟨hP, ⟨hD, hK, hW, hS⟩, hpr, hld, hik, hpo, hkd, hqo, hkept⟩ := id hC
  obtain ⟨op, ⟨od, ok, otk, ow, os, okd⟩, o3, o4, o5, o6, o7⟩ := id ho
  obtain ⟨od1, od2, od3, od4⟩ := id od
  obtain ⟨ok1, ok2, ok3, ok4⟩ := id ok
  have os1 := os.1
  have op1 := op.1
  by_cases hR : Z.2.1.1.1 = 0
  · have hs : s_steps Z = -103 := by simp [s_steps, hR]
    rw [hs] at hF
    refine r_C_of (by decide +kernel) (Nat.le_of_ble_eq_true rfl) ?_
    refine j_ls (ls' := [(0, _)]) rfl ?_
    refine j_aload_n d_Ra_steps_0 rfl rfl ?_
    refine q_i (s_Ra_steps_1 rfl (by decide)) rfl (Nat.le_of_ble_eq_true rfl) (Nat.le_of_ble_eq_true rfl) ?_
    refine c_hpN hR hD.1 ?_
    refine j_if_ne (tgt := 10) d_Ra_steps_4 rfl (fun bq1 => False.elim (bq1 rfl)) (fun bq1 => ?_)
    refine j_bipush (v := (-103)) d_Ra_steps_7 (by decide) ?_
    refine j_iret d_Ra_steps_9 rfl ?_
    exact q_i1 hF rfl
  · have hs : s_steps Z = nI (a_ft Z.2.1.1.2.1 Z.2.1.2.2.2.1 9) := by simp [s_steps, hR]
    rw [hs] at hF
    refine r_C_of (by decide +kernel) (Nat.le_of_ble_eq_true rfl) ?_
    refine j_ls (ls' := [(0, _)]) rfl ?_
    refine j_aload_n d_Ra_steps_0 rfl rfl ?_
    refine q_i (s_Ra_steps_1 rfl (by decide)) rfl (Nat.le_of_ble_eq_true rfl) (Nat.le_of_ble_eq_true rfl) ?_
    refine c_hpY (by omega) od1 hD.1 ?_
    refine j_if_ne (tgt := 10) d_Ra_steps_4 rfl (fun bq1 => ?_) (fun bq1 => False.elim (absurd bq1 (by decide)))
    refine j_aload_n d_Ra_steps_10 rfl rfl ?_
    refine j_getr d_Ra_steps_11 f_Ra_42 rfl rfl (by decide) rfl ?_
    refine j_aload_n d_Ra_steps_14 rfl rfl ?_
    refine j_getr d_Ra_steps_15 f_Ra_19 rfl rfl (by decide) rfl ?_
    refine j_geti d_Ra_steps_18 f_Ra_219 rfl rfl (by decide) ?_
    refine q_i (s_Ra_steps_21 rfl (by decide)) rfl (Nat.le_of_ble_eq_true rfl) (Nat.le_of_ble_eq_true rfl) ?_
    refine c_Si_fitting hS os od2 hD.2.1 ?_
    refine j_iret d_Ra_steps_24 rfl ?_
    exact q_i1 hF rfl
set_option maxRecDepth 100000 in
set_option maxHeartbeats 4000000 in
theorem c_Ra_trial {G : r_X} {d : Nat} {h : r_HI} {p q : Nat} {z : r_HL} {F : Int32 → r_HI → r_HR → r_HL → Prop} {Z : a_Z} (hC : p_C h p q Z) (ho : a_zok Z) (hF : F (s_trial Z) h (r_gp p q) z) : r_Ci G m_Ra_trial (d + 20) 61 [.ref (G.2.1 + 0)] 61 h (r_gp p q) z F := by
  obtain ⟨hP, ⟨hD, hK, hW, hS⟩, hpr, hld, hik, hpo, hkd, hqo, hkept⟩ := id hC
  obtain ⟨op, ⟨od, ok, otk, ow, os, okd⟩, o3, o4, o5, o6, o7⟩ := id ho
  obtain ⟨od1, od2, od3, od4⟩ := id od
  obtain ⟨ok1, ok2, ok3, ok4⟩ := id ok
  have os1 := os.1
  have op1 := op.1
  by_cases hR : Z.2.1.1.1 = 0
  · have hs : s_trial Z = -103 := by simp [s_trial, hR]
    rw [hs] at hF
    refine r_C_of (by decide +kernel) (Nat.le_of_ble_eq_true rfl) ?_
    refine j_ls (ls' := [(0, _)]) rfl ?_
    refine j_aload_n d_Ra_trial_0 rfl rfl ?_
    refine q_i (s_Ra_trial_1 rfl (by decide)) rfl (Nat.le_of_ble_eq_true rfl) (Nat.le_of_ble_eq_true rfl) ?_
    refine c_hpN hR hD.1 ?_
    refine j_if_ne (tgt := 10) d_Ra_trial_4 rfl (fun bq1 => False.elim (bq1 rfl)) (fun bq1 => ?_)
    refine j_bipush (v := (-103)) d_Ra_trial_7 (by decide) ?_
    refine j_iret d_Ra_trial_9 rfl ?_
    exact q_i1 hF rfl
  · have hft := a_ft_lt Z.2.1.1.2.1 Z.2.1.2.2.2.1 9
    have hs : s_trial Z = a_tri (a_ft Z.2.1.1.2.1 Z.2.1.2.2.2.1 9) := by simp [s_trial, hR]
    rw [hs] at hF
    refine r_C_of (by decide +kernel) (Nat.le_of_ble_eq_true rfl) ?_
    refine j_ls (ls' := [(0, _)]) rfl ?_
    refine j_aload_n d_Ra_trial_0 rfl rfl ?_
    refine q_i (s_Ra_trial_1 rfl (by decide)) rfl (Nat.le_of_ble_eq_true rfl) (Nat.le_of_ble_eq_true rfl) ?_
    refine c_hpY (by omega) od1 hD.1 ?_
    refine j_if_ne (tgt := 10) d_Ra_trial_4 rfl (fun bq1 => ?_) (fun bq1 => False.elim (absurd bq1 (by decide)))
    refine j_aload_n d_Ra_trial_10 rfl rfl ?_
    refine j_getr d_Ra_trial_11 f_Ra_42 rfl rfl (by decide) rfl ?_
    refine j_aload_n d_Ra_trial_14 rfl rfl ?_
    refine j_getr d_Ra_trial_15 f_Ra_19 rfl rfl (by decide) rfl ?_
    refine j_geti d_Ra_trial_18 f_Ra_219 rfl rfl (by decide) ?_
    refine q_i (s_Ra_trial_21 rfl (by decide)) rfl (Nat.le_of_ble_eq_true rfl) (Nat.le_of_ble_eq_true rfl) ?_
    refine c_Si_fitting hS os od2 hD.2.1 ?_
    refine q_i s_Ra_trial_24 rfl (Nat.le_of_ble_eq_true rfl) (Nat.le_of_ble_eq_true rfl) ?_
    refine c_Ra_bestTry (b := (a_ft Z.2.1.1.2.1 Z.2.1.2.2.2.1 9)) (by omega) rfl ?_
    refine j_iret d_Ra_trial_27 rfl ?_
    exact q_i1 hF rfl
set_option maxRecDepth 100000 in
set_option maxHeartbeats 4000000 in
theorem c_Ra_days {G : r_X} {d : Nat} {h : r_HI} {p q : Nat} {z : r_HL} {F : Int32 → r_HI → r_HR → r_HL → Prop} {Z : a_Z} {x y w : Int32} (hC : p_C h p q Z) (ho : a_zok Z) (hF : ∀ h', r_ex r_scr h h' → F (s_days Z x y w) h' (r_gp p q) z) : r_Ci G m_Ra_days (d + 20) 61 [.ref (G.2.1 + 0), .int x, .int y, .int w] 61 h (r_gp p q) z F := by
  obtain ⟨hP, ⟨hD, hK, hW, hS⟩, hpr, hld, hik, hpo, hkd, hqo, hkept⟩ := id hC
  obtain ⟨op, ⟨od, ok, otk, ow, os, okd⟩, o3, o4, o5, o6, o7⟩ := id ho
  obtain ⟨od1, od2, od3, od4⟩ := id od
  obtain ⟨ok1, ok2, ok3, ok4⟩ := id ok
  have os1 := os.1
  have op1 := op.1
  rcases ixc x 61 with ⟨ix1, hr1⟩ | ⟨t, hj1, e1, ix1, t1⟩
  · rcases hr1 with hr1 | hr1
    · have hs : s_days Z x y w = -102 := by simp [s_days, ix1]
      rw [hs] at hF
      refine r_C_of (by decide +kernel) (Nat.le_of_ble_eq_true rfl) ?_
      refine j_ls (ls' := [(0, _), (1, _), (2, _), (3, _)]) rfl ?_
      refine j_iload_n d_Ra_days_0 rfl rfl ?_
      refine j_iconst (v := 1) d_Ra_days_1 rfl ?_
      refine j_icmp_lt (tgt := 24) d_Ra_days_2 rfl (fun bq1 => ?_) (fun bq1 => False.elim (bq1 ((xlt (n := 1) (by decide)).mpr (by omega))))
      refine j_bipush (v := (-102)) d_Ra_days_24 (by decide) ?_
      refine j_iret d_Ra_days_26 rfl ?_
      exact q_i1 (hF _ r_ex.rf) rfl
    · have hs : s_days Z x y w = -102 := by simp [s_days, ix1]
      rw [hs] at hF
      refine r_C_of (by decide +kernel) (Nat.le_of_ble_eq_true rfl) ?_
      refine j_ls (ls' := [(0, _), (1, _), (2, _), (3, _)]) rfl ?_
      refine j_iload_n d_Ra_days_0 rfl rfl ?_
      refine j_iconst (v := 1) d_Ra_days_1 rfl ?_
      refine j_icmp_lt (tgt := 24) d_Ra_days_2 rfl (fun bq1 => False.elim (absurd ((xlt (n := 1) (by decide)).mp bq1) (by omega))) (fun bq1 => ?_)
      refine j_iload_n d_Ra_days_5 rfl rfl ?_
      refine j_bipush (v := 60) d_Ra_days_6 (by decide) ?_
      refine j_icmp_gt (tgt := 24) d_Ra_days_8 rfl (fun bq2 => ?_) (fun bq2 => False.elim (bq2 ((nlx (n := 60) (by decide)).mpr (by omega))))
      refine j_bipush (v := (-102)) d_Ra_days_24 (by decide) ?_
      refine j_iret d_Ra_days_26 rfl ?_
      exact q_i1 (hF _ r_ex.rf) rfl
  · by_cases c0 : t = 0
    · have hs : s_days Z x y w = -102 := by simp [s_days, ix1, c0]
      rw [hs] at hF
      refine r_C_of (by decide +kernel) (Nat.le_of_ble_eq_true rfl) ?_
      refine j_ls (ls' := [(0, _), (1, _), (2, _), (3, _)]) rfl ?_
      refine j_iload_n d_Ra_days_0 rfl rfl ?_
      refine j_iconst (v := 1) d_Ra_days_1 rfl ?_
      refine j_icmp_lt (tgt := 24) d_Ra_days_2 rfl (fun bq1 => ?_) (fun bq1 => False.elim (bq1 ((xlt (n := 1) (by decide)).mpr (by omega))))
      refine j_bipush (v := (-102)) d_Ra_days_24 (by decide) ?_
      refine j_iret d_Ra_days_26 rfl ?_
      exact q_i1 (hF _ r_ex.rf) rfl
    · by_cases y0 : y.toInt < 0
      · have hs : s_days Z x y w = -102 := by simp [s_days, ix1, c0, y0]
        rw [hs] at hF
        refine r_C_of (by decide +kernel) (Nat.le_of_ble_eq_true rfl) ?_
        refine j_ls (ls' := [(0, _), (1, _), (2, _), (3, _)]) rfl ?_
        refine j_iload_n d_Ra_days_0 rfl rfl ?_
        refine j_iconst (v := 1) d_Ra_days_1 rfl ?_
        refine j_icmp_lt (tgt := 24) d_Ra_days_2 rfl (fun bq1 => False.elim (absurd ((xlt (n := 1) (by decide)).mp bq1) (by omega))) (fun bq1 => ?_)
        refine j_iload_n d_Ra_days_5 rfl rfl ?_
        refine j_bipush (v := 60) d_Ra_days_6 (by decide) ?_
        refine j_icmp_gt (tgt := 24) d_Ra_days_8 rfl (fun bq2 => False.elim (absurd ((nlx (n := 60) (by decide)).mp bq2) (by omega))) (fun bq2 => ?_)
        refine j_iload_n d_Ra_days_11 rfl rfl ?_
        refine j_if_lt (tgt := 24) d_Ra_days_12 rfl (fun bq3 => ?_) (fun bq3 => False.elim (bq3 ((xlt (n := 0) (by decide)).mpr (by omega))))
        refine j_bipush (v := (-102)) d_Ra_days_24 (by decide) ?_
        refine j_iret d_Ra_days_26 rfl ?_
        exact q_i1 (hF _ r_ex.rf) rfl
      · rcases ixc w 3 with ⟨ix3, hr3⟩ | ⟨v, hj3, e3, ix3, t3⟩
        · rcases hr3 with hr3 | hr3
          · have hs : s_days Z x y w = -102 := by simp [s_days, ix1, ix3, c0, y0]
            rw [hs] at hF
            refine r_C_of (by decide +kernel) (Nat.le_of_ble_eq_true rfl) ?_
            refine j_ls (ls' := [(0, _), (1, _), (2, _), (3, _)]) rfl ?_
            refine j_iload_n d_Ra_days_0 rfl rfl ?_
            refine j_iconst (v := 1) d_Ra_days_1 rfl ?_
            refine j_icmp_lt (tgt := 24) d_Ra_days_2 rfl (fun bq1 => False.elim (absurd ((xlt (n := 1) (by decide)).mp bq1) (by omega))) (fun bq1 => ?_)
            refine j_iload_n d_Ra_days_5 rfl rfl ?_
            refine j_bipush (v := 60) d_Ra_days_6 (by decide) ?_
            refine j_icmp_gt (tgt := 24) d_Ra_days_8 rfl (fun bq2 => False.elim (absurd ((nlx (n := 60) (by decide)).mp bq2) (by omega))) (fun bq2 => ?_)
            refine j_iload_n d_Ra_days_11 rfl rfl ?_
            refine j_if_lt (tgt := 24) d_Ra_days_12 rfl (fun bq3 => False.elim (absurd ((xlt (n := 0) (by decide)).mp bq3) (by omega))) (fun bq3 => ?_)
            refine j_iload_n d_Ra_days_15 rfl rfl ?_
            refine j_if_lt (tgt := 24) d_Ra_days_16 rfl (fun bq4 => ?_) (fun bq4 => False.elim (bq4 ((xlt (n := 0) (by decide)).mpr (by omega))))
            refine j_bipush (v := (-102)) d_Ra_days_24 (by decide) ?_
            refine j_iret d_Ra_days_26 rfl ?_
            exact q_i1 (hF _ r_ex.rf) rfl
          · have hs : s_days Z x y w = -102 := by simp [s_days, ix1, ix3, c0, y0]
            rw [hs] at hF
            refine r_C_of (by decide +kernel) (Nat.le_of_ble_eq_true rfl) ?_
            refine j_ls (ls' := [(0, _), (1, _), (2, _), (3, _)]) rfl ?_
            refine j_iload_n d_Ra_days_0 rfl rfl ?_
            refine j_iconst (v := 1) d_Ra_days_1 rfl ?_
            refine j_icmp_lt (tgt := 24) d_Ra_days_2 rfl (fun bq1 => False.elim (absurd ((xlt (n := 1) (by decide)).mp bq1) (by omega))) (fun bq1 => ?_)
            refine j_iload_n d_Ra_days_5 rfl rfl ?_
            refine j_bipush (v := 60) d_Ra_days_6 (by decide) ?_
            refine j_icmp_gt (tgt := 24) d_Ra_days_8 rfl (fun bq2 => False.elim (absurd ((nlx (n := 60) (by decide)).mp bq2) (by omega))) (fun bq2 => ?_)
            refine j_iload_n d_Ra_days_11 rfl rfl ?_
            refine j_if_lt (tgt := 24) d_Ra_days_12 rfl (fun bq3 => False.elim (absurd ((xlt (n := 0) (by decide)).mp bq3) (by omega))) (fun bq3 => ?_)
            refine j_iload_n d_Ra_days_15 rfl rfl ?_
            refine j_if_lt (tgt := 24) d_Ra_days_16 rfl (fun bq4 => False.elim (absurd ((xlt (n := 0) (by decide)).mp bq4) (by omega))) (fun bq4 => ?_)
            refine j_iload_n d_Ra_days_19 rfl rfl ?_
            refine j_iconst (v := 2) d_Ra_days_20 rfl ?_
            refine j_icmp_le (tgt := 27) d_Ra_days_21 rfl (fun bq5 => False.elim (absurd ((xle (n := 2) (by decide)).mp bq5) (by omega))) (fun bq5 => ?_)
            refine j_bipush (v := (-102)) d_Ra_days_24 (by decide) ?_
            refine j_iret d_Ra_days_26 rfl ?_
            exact q_i1 (hF _ r_ex.rf) rfl
        · by_cases hR : Z.2.1.1.1 = 0
          · have hs : s_days Z x y w = -103 := by simp [s_days, ix1, ix3, c0, y0, hR]
            rw [hs] at hF
            refine r_C_of (by decide +kernel) (Nat.le_of_ble_eq_true rfl) ?_
            refine j_ls (ls' := [(0, _), (1, _), (2, _), (3, _)]) rfl ?_
            refine j_iload_n d_Ra_days_0 rfl rfl ?_
            refine j_iconst (v := 1) d_Ra_days_1 rfl ?_
            refine j_icmp_lt (tgt := 24) d_Ra_days_2 rfl (fun bq1 => False.elim (absurd ((xlt (n := 1) (by decide)).mp bq1) (by omega))) (fun bq1 => ?_)
            refine j_iload_n d_Ra_days_5 rfl rfl ?_
            refine j_bipush (v := 60) d_Ra_days_6 (by decide) ?_
            refine j_icmp_gt (tgt := 24) d_Ra_days_8 rfl (fun bq2 => False.elim (absurd ((nlx (n := 60) (by decide)).mp bq2) (by omega))) (fun bq2 => ?_)
            refine j_iload_n d_Ra_days_11 rfl rfl ?_
            refine j_if_lt (tgt := 24) d_Ra_days_12 rfl (fun bq3 => False.elim (absurd ((xlt (n := 0) (by decide)).mp bq3) (by omega))) (fun bq3 => ?_)
            refine j_iload_n d_Ra_days_15 rfl rfl ?_
            refine j_if_lt (tgt := 24) d_Ra_days_16 rfl (fun bq4 => False.elim (absurd ((xlt (n := 0) (by decide)).mp bq4) (by omega))) (fun bq4 => ?_)
            refine j_iload_n d_Ra_days_19 rfl rfl ?_
            refine j_iconst (v := 2) d_Ra_days_20 rfl ?_
            refine j_icmp_le (tgt := 27) d_Ra_days_21 rfl (fun bq5 => ?_) (fun bq5 => False.elim (bq5 ((xle (n := 2) (by decide)).mpr (by omega))))
            refine j_aload_n d_Ra_days_27 rfl rfl ?_
            refine q_i (s_Ra_days_28 rfl (by decide)) rfl (Nat.le_of_ble_eq_true rfl) (Nat.le_of_ble_eq_true rfl) ?_
            refine c_hpN hR hD.1 ?_
            refine j_if_ne (tgt := 37) d_Ra_days_31 rfl (fun bq6 => False.elim (bq6 rfl)) (fun bq6 => ?_)
            refine j_bipush (v := (-103)) d_Ra_days_34 (by decide) ?_
            refine j_iret d_Ra_days_36 rfl ?_
            exact q_i1 (hF _ r_ex.rf) rfl
          · refine r_C_of (by decide +kernel) (Nat.le_of_ble_eq_true rfl) ?_
            refine j_ls (ls' := [(0, _), (1, _), (2, _), (3, _)]) rfl ?_
            refine j_iload_n d_Ra_days_0 rfl rfl ?_
            refine j_iconst (v := 1) d_Ra_days_1 rfl ?_
            refine j_icmp_lt (tgt := 24) d_Ra_days_2 rfl (fun bq1 => False.elim (absurd ((xlt (n := 1) (by decide)).mp bq1) (by omega))) (fun bq1 => ?_)
            refine j_iload_n d_Ra_days_5 rfl rfl ?_
            refine j_bipush (v := 60) d_Ra_days_6 (by decide) ?_
            refine j_icmp_gt (tgt := 24) d_Ra_days_8 rfl (fun bq2 => False.elim (absurd ((nlx (n := 60) (by decide)).mp bq2) (by omega))) (fun bq2 => ?_)
            refine j_iload_n d_Ra_days_11 rfl rfl ?_
            refine j_if_lt (tgt := 24) d_Ra_days_12 rfl (fun bq3 => False.elim (absurd ((xlt (n := 0) (by decide)).mp bq3) (by omega))) (fun bq3 => ?_)
            refine j_iload_n d_Ra_days_15 rfl rfl ?_
            refine j_if_lt (tgt := 24) d_Ra_days_16 rfl (fun bq4 => False.elim (absurd ((xlt (n := 0) (by decide)).mp bq4) (by omega))) (fun bq4 => ?_)
            refine j_iload_n d_Ra_days_19 rfl rfl ?_
            refine j_iconst (v := 2) d_Ra_days_20 rfl ?_
            refine j_icmp_le (tgt := 27) d_Ra_days_21 rfl (fun bq5 => ?_) (fun bq5 => False.elim (bq5 ((xle (n := 2) (by decide)).mpr (by omega))))
            refine j_aload_n d_Ra_days_27 rfl rfl ?_
            refine q_i (s_Ra_days_28 rfl (by decide)) rfl (Nat.le_of_ble_eq_true rfl) (Nat.le_of_ble_eq_true rfl) ?_
            refine c_hpY (by omega) od1 hD.1 ?_
            refine j_if_ne (tgt := 37) d_Ra_days_31 rfl (fun bq6 => ?_) (fun bq6 => False.elim (absurd bq6 (by decide)))
            refine j_aload_n d_Ra_days_37 rfl rfl ?_
            refine j_iload_n d_Ra_days_38 rfl rfl ?_
            refine j_iload_n d_Ra_days_39 rfl rfl ?_
            refine q_i (s_Ra_days_40 rfl (by decide)) rfl (Nat.le_of_ble_eq_true rfl) (Nat.le_of_ble_eq_true rfl) ?_
            refine c_Ra_playDays hD od (by omega) hK ok (by omega) hpo (times := t) (sd := y.toInt.toNat) (by omega) (by have := y.toInt_lt; omega) e1 (x_of (by omega)) (fun h1 q1 k1 w1 => ?_)
            rw [hkd] at k1 w1 ⊢
            refine j_istore (ls' := [(4, _), (0, _), (1, _), (2, _), (3, _)]) d_Ra_days_43 (by decide) rfl ?_
            refine j_iload_n d_Ra_days_45 rfl rfl ?_
            rcases (show w.toInt = 0 ∨ w.toInt = 1 ∨ (w.toInt ≠ 0 ∧ w.toInt ≠ 1) by omega) with t9 | t9 | t9
            · refine j_lookup (off := 26) (tgt := 72) d_Ra_days_46 (by decide) (by rw [t9]; rfl) rfl ?_
              refine j_aload_n d_Ra_days_72 rfl rfl ?_
              refine j_getr d_Ra_days_73 f_Ra_88 rfl rfl (by decide) rfl ?_
              refine j_geti d_Ra_days_76 f_Ra_205 rfl rfl (by decide) ?_
              refine j_iret d_Ra_days_79 rfl ?_
              have hs : s_days Z x y w = nI (a_days Z.2.1.1 Z.2.1.2.2.2.2 t y.toInt.toNat Z.2.1.2.1).2.1.1 := by simp [s_days, ix1, c0, y0, hR, a_ix_of (x := w) (n := 3) (j := 0) (by omega) (by omega)]
              rw [hs] at hF
              exact q_i1 (hF _ (q1.mono (by decide))) k1.2.1
            · refine j_lookup (off := 34) (tgt := 80) d_Ra_days_46 (by decide) (by rw [t9]; rfl) rfl ?_
              refine j_aload_n d_Ra_days_80 rfl rfl ?_
              refine j_getr d_Ra_days_81 f_Ra_88 rfl rfl (by decide) rfl ?_
              refine j_geti d_Ra_days_84 f_Ra_230 rfl rfl (by decide) ?_
              refine j_iret d_Ra_days_87 rfl ?_
              have hs : s_days Z x y w = nI (a_days Z.2.1.1 Z.2.1.2.2.2.2 t y.toInt.toNat Z.2.1.2.1).2.2 := by simp [s_days, ix1, c0, y0, hR, a_ix_of (x := w) (n := 3) (j := 1) (by omega) (by omega)]
              rw [hs] at hF
              exact q_i1 (hF _ (q1.mono (by decide))) w1
            · refine j_lookup (off := 42) (tgt := 88) d_Ra_days_46 (by decide) (r_lk_no (by simp; omega)) rfl ?_
              refine j_iload d_Ra_days_88 rfl ?_
              refine j_iret d_Ra_days_90 rfl ?_
              have hs : s_days Z x y w = nI (a_days Z.2.1.1 Z.2.1.2.2.2.2 t y.toInt.toNat Z.2.1.2.1).1 := by simp [s_days, ix1, c0, y0, hR, a_ix_of (x := w) (n := 3) (j := 2) (by omega) (by omega)]
              rw [hs] at hF
              exact q_i1 (hF _ (q1.mono (by decide))) rfl
set_option maxRecDepth 100000 in
set_option maxHeartbeats 4000000 in
theorem c_Ra_image {G : r_X} {d : Nat} {h : r_HI} {p q : Nat} {z : r_HL} {F : Int32 → r_HI → r_HR → r_HL → Prop} {Z : a_Z} (hC : p_C h p q Z) (ho : a_zok Z) (hF : ∀ h' p' q', r_mo h h' → p_C h' p' q' (s_image Z).2 → F (s_image Z).1 h' (r_gp p' q') z) : r_Ci G m_Ra_image (d + 20) 61 [.ref (G.2.1 + 0)] 61 h (r_gp p q) z F := by
  obtain ⟨hP, ⟨hD, hK, hW, hS⟩, hpr, hld, hik, hpo, hkd, hqo, hkept⟩ := id hC
  obtain ⟨op, ⟨od, ok, otk, ow, os, okd⟩, o3, o4, o5, o6, o7⟩ := id ho
  obtain ⟨od1, od2, od3, od4⟩ := id od
  obtain ⟨ok1, ok2, ok3, ok4⟩ := id ok
  have os1 := os.1
  have op1 := op.1
  by_cases hR : Z.2.1.1.1 = 0
  · have hs : s_image Z = (-103, Z) := by simp [s_image, hR]
    rw [hs] at hF
    refine r_C_of (by decide +kernel) (Nat.le_of_ble_eq_true rfl) ?_
    refine j_ls (ls' := [(0, _)]) rfl ?_
    refine j_aload_n d_Ra_image_0 rfl rfl ?_
    refine q_i (s_Ra_image_1 rfl (by decide)) rfl (Nat.le_of_ble_eq_true rfl) (Nat.le_of_ble_eq_true rfl) ?_
    refine c_hpN hR hD.1 ?_
    refine j_if_ne (tgt := 10) d_Ra_image_4 rfl (fun bq1 => False.elim (bq1 rfl)) (fun bq1 => ?_)
    refine j_bipush (v := (-103)) d_Ra_image_7 (by decide) ?_
    refine j_iret d_Ra_image_9 rfl ?_
    exact q_i1 (hF _ _ _ r_mo.rf hC) rfl
  · have hs : s_image Z = (nI Z.2.1.2.1.1, (Z.1, Z.2.1, Z.2.2.1, Z.2.2.2.1, 1, Z.2.1)) := by simp [s_image, hR]
    rw [hs] at hF
    refine r_C_of (by decide +kernel) (Nat.le_of_ble_eq_true rfl) ?_
    refine j_ls (ls' := [(0, _)]) rfl ?_
    refine j_aload_n d_Ra_image_0 rfl rfl ?_
    refine q_i (s_Ra_image_1 rfl (by decide)) rfl (Nat.le_of_ble_eq_true rfl) (Nat.le_of_ble_eq_true rfl) ?_
    refine c_hpY (by omega) od1 hD.1 ?_
    refine j_if_ne (tgt := 10) d_Ra_image_4 rfl (fun bq1 => ?_) (fun bq1 => False.elim (absurd bq1 (by decide)))
    refine j_aload_n d_Ra_image_10 rfl rfl ?_
    refine j_getr d_Ra_image_11 f_Ra_69 rfl rfl (by decide) rfl ?_
    refine j_aload_n d_Ra_image_14 rfl rfl ?_
    refine j_getr d_Ra_image_15 f_Ra_19 rfl rfl (by decide) rfl ?_
    refine q_v (s_Ra_image_18 rfl (by decide)) rfl (Nat.le_of_ble_eq_true rfl) (Nat.le_of_ble_eq_true rfl) ?_
    refine c_Di_copyFrom_25_3 hD od (fun h1 q1 d1 => ?_)
    refine j_aload_n d_Ra_image_21 rfl rfl ?_
    refine j_getr d_Ra_image_22 f_Ra_72 rfl rfl (by decide) rfl ?_
    refine j_aload_n d_Ra_image_25 rfl rfl ?_
    refine j_getr d_Ra_image_26 f_Ra_28 rfl rfl (by decide) rfl ?_
    refine q_v (s_Ra_image_29 rfl (by decide)) rfl (Nat.le_of_ble_eq_true rfl) (Nat.le_of_ble_eq_true rfl) ?_
    refine c_Dk_copyFrom_29_7 (hK.ex q1 (by decide) (by decide) (by decide) (by decide)) ok (fun h2 q2 k2 w2 => ?_)
    refine j_aload_n d_Ra_image_32 rfl rfl ?_
    refine j_getr d_Ra_image_33 f_Ra_75 rfl rfl (by decide) rfl ?_
    refine j_aload_n d_Ra_image_36 rfl rfl ?_
    refine j_getr d_Ra_image_37 f_Ra_35 rfl rfl (by decide) rfl ?_
    refine q_v (s_Ra_image_40 rfl (by decide)) rfl (Nat.le_of_ble_eq_true rfl) (Nat.le_of_ble_eq_true rfl) ?_
    refine c_Th_copyFrom_33_11 ((hW.ex q1 (by decide)).ex q2 (by decide)) (fun h3 q3 w3 => ?_)
    refine j_aload_n d_Ra_image_43 rfl rfl ?_
    refine j_getr d_Ra_image_44 f_Ra_78 rfl rfl (by decide) rfl ?_
    refine j_aload_n d_Ra_image_47 rfl rfl ?_
    refine j_getr d_Ra_image_48 f_Ra_42 rfl rfl (by decide) rfl ?_
    refine q_v (s_Ra_image_51 rfl (by decide)) rfl (Nat.le_of_ble_eq_true rfl) (Nat.le_of_ble_eq_true rfl) ?_
    refine c_Si_copyFrom_37_15 (((hS.ex q1 (by decide) (by decide) (by decide)).ex q2 (by decide) (by decide) (by decide)).ex q3 (by decide) (by decide) (by decide)) os (fun h4 q4 s4 => ?_)
    refine j_aload_n d_Ra_image_54 rfl rfl ?_
    refine j_aload_n d_Ra_image_55 rfl rfl ?_
    refine j_getr d_Ra_image_56 f_Ra_65 rfl rfl (by decide) rfl ?_
    refine j_putr d_Ra_image_59 f_Ra_81 (by decide) rfl rfl (by decide) ?_
    rw [r_gp_q]
    refine j_aload_n d_Ra_image_62 rfl rfl ?_
    refine j_iconst (v := 1) d_Ra_image_63 rfl ?_
    refine j_putz d_Ra_image_64 f_Ra_84 (by decide) rfl rfl (by decide) (by decide) ?_
    refine j_aload_n d_Ra_image_67 rfl rfl ?_
    refine j_getr d_Ra_image_68 f_Ra_28 rfl rfl (by decide) rfl ?_
    refine j_geti d_Ra_image_71 f_Ra_205 rfl rfl (by decide) ?_
    refine j_iret d_Ra_image_74 rfl ?_
    have z1 : r_ex [25, 26, 27, 28, 29, 30, 31, 32, 34, 37, 38, 39] h h4 := (((q1.mono (by decide)).tr q2 (by decide)).tr q3 (by decide)).tr q4 (by decide)
    have z2 : r_ex [0, 25, 26, 27, 28, 29, 30, 31, 32, 34, 37, 38, 39] h (r_up h4 0 12 1) := (z1.mono (by decide)).up (by decide)
    have z3 : r_ex [0] h4 (r_up h4 0 12 1) := r_ex.rf.up (by decide)
    have z4 : r_ex [29, 30, 31, 32, 34, 37, 38, 39] h1 h4 := ((q2.mono (by decide)).tr q3 (by decide)).tr q4 (by decide)
    have z5 : r_ex [34, 37, 38, 39] h2 h4 := (q3.mono (by decide)).tr q4 (by decide)
    refine q_i1 (hF _ _ _ (z2.mo (by decide)) ?_) ((congrFun (z1 7 (by decide)) 5).trans hK.2.1)
    exact ⟨hP.ex z2 (by decide) (by decide), p_V.ex z2 ⟨hD, hK, hW, hS⟩ (by decide), by rw [← hpr]; exact congrFun (z1 0 (by decide)) 15, by rw [← hld]; exact congrFun (z1 0 (by decide)) 16, rfl, hpo, hkd, hpo, fun _ => ⟨⟨(d1.ex z4 (by decide) (by decide) (by decide) (by decide)).ex z3 (by decide) (by decide) (by decide) (by decide), (k2.ex z5 (by decide) (by decide) (by decide) (by decide)).ex z3 (by decide) (by decide) (by decide) (by decide), (w3.ex q4 (by decide)).ex z3 (by decide), s4.ex z3 (by decide) (by decide) (by decide)⟩, hkd⟩⟩
set_option maxRecDepth 100000 in
set_option maxHeartbeats 4000000 in
theorem c_Ra_restore {G : r_X} {d : Nat} {h : r_HI} {p q : Nat} {z : r_HL} {F : Int32 → r_HI → r_HR → r_HL → Prop} {Z : a_Z} (hC : p_C h p q Z) (ho : a_zok Z) (hF : ∀ h' p' q', r_mo h h' → p_C h' p' q' (s_restore Z).2 → F (s_restore Z).1 h' (r_gp p' q') z) : r_Ci G m_Ra_restore (d + 20) 61 [.ref (G.2.1 + 0)] 61 h (r_gp p q) z F := by
  obtain ⟨hP, ⟨hD, hK, hW, hS⟩, hpr, hld, hik, hpo, hkd, hqo, hkept⟩ := id hC
  obtain ⟨op, ⟨od, ok, otk, ow, os, okd⟩, o3, o4, o5, o6, o7⟩ := id ho
  obtain ⟨od1, od2, od3, od4⟩ := id od
  obtain ⟨ok1, ok2, ok3, ok4⟩ := id ok
  have os1 := os.1
  have op1 := op.1
  by_cases hf : Z.2.2.2.2.1 = 0
  · have hs : s_restore Z = (-103, Z) := by simp [s_restore, hf]
    rw [hs] at hF
    refine r_C_of (by decide +kernel) (Nat.le_of_ble_eq_true rfl) ?_
    refine j_ls (ls' := [(0, _)]) rfl ?_
    refine j_aload_n d_Ra_restore_0 rfl rfl ?_
    refine j_getz d_Ra_restore_1 f_Ra_84 rfl rfl (by decide) ?_
    refine j_if_ne (tgt := 10) d_Ra_restore_4 rfl (fun bq1 => False.elim (bq1 (by rw [hik, hf]; rfl))) (fun bq1 => ?_)
    refine j_bipush (v := (-103)) d_Ra_restore_7 (by decide) ?_
    refine j_iret d_Ra_restore_9 rfl ?_
    exact q_i1 (hF _ _ _ r_mo.rf hC) rfl
  · have hf1 : Z.2.2.2.2.1 = 1 := by omega
    obtain ⟨⟨gD, gK, gW, gS⟩, gk⟩ := hkept hf1
    obtain ⟨g0, ⟨go, gok, gtk, gow, gos, gokd⟩, g1, g2⟩ := o7 hf1
    have hs : s_restore Z = (nI Z.2.2.2.2.2.2.1.1, z_V Z Z.2.2.2.2.2) := by simp [s_restore, hf]
    rw [hs] at hF
    refine r_C_of (by decide +kernel) (Nat.le_of_ble_eq_true rfl) ?_
    refine j_ls (ls' := [(0, _)]) rfl ?_
    refine j_aload_n d_Ra_restore_0 rfl rfl ?_
    refine j_getz d_Ra_restore_1 f_Ra_84 rfl rfl (by decide) ?_
    refine j_if_ne (tgt := 10) d_Ra_restore_4 rfl (fun bq1 => ?_) (fun bq1 => False.elim (absurd (hik.symm.trans bq1) (by rw [hf1]; decide)))
    refine j_aload_n d_Ra_restore_10 rfl rfl ?_
    refine j_getr d_Ra_restore_11 f_Ra_19 rfl rfl (by decide) rfl ?_
    refine j_aload_n d_Ra_restore_14 rfl rfl ?_
    refine j_getr d_Ra_restore_15 f_Ra_69 rfl rfl (by decide) rfl ?_
    refine q_v (s_Ra_restore_18 rfl (by decide)) rfl (Nat.le_of_ble_eq_true rfl) (Nat.le_of_ble_eq_true rfl) ?_
    refine c_Di_copyFrom_3_25 gD go (fun h1 q1 d1 => ?_)
    refine j_aload_n d_Ra_restore_21 rfl rfl ?_
    refine j_getr d_Ra_restore_22 f_Ra_28 rfl rfl (by decide) rfl ?_
    refine j_aload_n d_Ra_restore_25 rfl rfl ?_
    refine j_getr d_Ra_restore_26 f_Ra_72 rfl rfl (by decide) rfl ?_
    refine q_v (s_Ra_restore_29 rfl (by decide)) rfl (Nat.le_of_ble_eq_true rfl) (Nat.le_of_ble_eq_true rfl) ?_
    refine c_Dk_copyFrom_7_29 (gK.ex q1 (by decide) (by decide) (by decide) (by decide)) gok (fun h2 q2 k2 w2 => ?_)
    refine j_aload_n d_Ra_restore_32 rfl rfl ?_
    refine j_getr d_Ra_restore_33 f_Ra_35 rfl rfl (by decide) rfl ?_
    refine j_aload_n d_Ra_restore_36 rfl rfl ?_
    refine j_getr d_Ra_restore_37 f_Ra_75 rfl rfl (by decide) rfl ?_
    refine q_v (s_Ra_restore_40 rfl (by decide)) rfl (Nat.le_of_ble_eq_true rfl) (Nat.le_of_ble_eq_true rfl) ?_
    refine c_Th_copyFrom_11_33 ((gW.ex q1 (by decide)).ex q2 (by decide)) (fun h3 q3 w3 => ?_)
    refine j_aload_n d_Ra_restore_43 rfl rfl ?_
    refine j_getr d_Ra_restore_44 f_Ra_42 rfl rfl (by decide) rfl ?_
    refine j_aload_n d_Ra_restore_47 rfl rfl ?_
    refine j_getr d_Ra_restore_48 f_Ra_78 rfl rfl (by decide) rfl ?_
    refine q_v (s_Ra_restore_51 rfl (by decide)) rfl (Nat.le_of_ble_eq_true rfl) (Nat.le_of_ble_eq_true rfl) ?_
    refine c_Si_copyFrom_15_37 (((gS.ex q1 (by decide) (by decide) (by decide)).ex q2 (by decide) (by decide) (by decide)).ex q3 (by decide) (by decide) (by decide)) gos (fun h4 q4 s4 => ?_)
    refine j_aload_n d_Ra_restore_54 rfl rfl ?_
    refine j_aload_n d_Ra_restore_55 rfl rfl ?_
    refine j_getr d_Ra_restore_56 f_Ra_81 rfl rfl (by decide) rfl ?_
    refine j_putr d_Ra_restore_59 f_Ra_65 (by decide) rfl rfl (by decide) ?_
    rw [r_gp_p]
    refine j_aload_n d_Ra_restore_62 rfl rfl ?_
    refine j_getr d_Ra_restore_63 f_Ra_28 rfl rfl (by decide) rfl ?_
    refine j_geti d_Ra_restore_66 f_Ra_205 rfl rfl (by decide) ?_
    refine j_iret d_Ra_restore_69 rfl ?_
    have z1 : r_ex [3, 4, 5, 6, 7, 8, 9, 10, 12, 15, 16, 17] h h4 := (((q1.mono (by decide)).tr q2 (by decide)).tr q3 (by decide)).tr q4 (by decide)
    have z4 : r_ex [7, 8, 9, 10, 12, 15, 16, 17] h1 h4 := ((q2.mono (by decide)).tr q3 (by decide)).tr q4 (by decide)
    have z5 : r_ex [12, 15, 16, 17] h2 h4 := (q3.mono (by decide)).tr q4 (by decide)
    have kk := k2.ex z5 (by decide) (by decide) (by decide) (by decide)
    refine q_i1 (hF _ _ _ (z1.mo (by decide)) ?_) kk.2.1
    exact ⟨hP.ex z1 (by decide) (by decide), ⟨d1.ex z4 (by decide) (by decide) (by decide) (by decide), kk, w3.ex q4 (by decide), s4⟩, (congrFun (z1 0 (by decide)) 15).trans hpr, (congrFun (z1 0 (by decide)) 16).trans hld, (congrFun (z1 0 (by decide)) 12).trans hik, hqo, gk, hqo, fun f => ⟨(hkept f).1.ex z1 (by decide), gk⟩⟩
set_option maxRecDepth 100000 in
set_option maxHeartbeats 4000000 in
theorem c_Ra_count {G : r_X} {d : Nat} {h : r_HI} {p q : Nat} {z : r_HL} {F : Int32 → r_HI → r_HR → r_HL → Prop} {Z : a_Z} {x : Int32} (hC : p_C h p q Z) (ho : a_zok Z) (hF : F (s_count Z x) h (r_gp p q) z) : r_Ci G m_Ra_count (d + 20) 61 [.ref (G.2.1 + 0), .int x] 61 h (r_gp p q) z F := by
  obtain ⟨hP, ⟨hD, hK, hW, hS⟩, hpr, hld, hik, hpo, hkd, hqo, hkept⟩ := id hC
  obtain ⟨op, ⟨od, ok, otk, ow, os, okd⟩, o3, o4, o5, o6, o7⟩ := id ho
  obtain ⟨od1, od2, od3, od4⟩ := id od
  obtain ⟨ok1, ok2, ok3, ok4⟩ := id ok
  have os1 := os.1
  have op1 := op.1
  by_cases hR : Z.2.1.1.1 = 0
  · refine r_C_of (by decide +kernel) (Nat.le_of_ble_eq_true rfl) ?_
    refine j_ls (ls' := [(0, _), (1, _)]) rfl ?_
    refine j_iload_n d_Ra_count_0 rfl rfl ?_
    rcases (show x.toInt < 0 ∨ 12 < x.toInt ∨ x.toInt = 0 ∨ x.toInt = 1 ∨ x.toInt = 2 ∨ x.toInt = 3 ∨ x.toInt = 4 ∨ x.toInt = 5 ∨ x.toInt = 6 ∨ x.toInt = 7 ∨ x.toInt = 8 ∨ x.toInt = 9 ∨ x.toInt = 10 ∨ x.toInt = 11 ∨ x.toInt = 12 by omega) with t9 | t9 | t9 | t9 | t9 | t9 | t9 | t9 | t9 | t9 | t9 | t9 | t9 | t9 | t9
    · refine j_tabOut (tgt := 181) d_Ra_count_1 (Or.inl t9) rfl ?_
      refine j_bipush (v := (-102)) d_Ra_count_181 (by decide) ?_
      refine j_iret d_Ra_count_183 rfl ?_
      have hs : s_count Z x = -102 := by simp [s_count, a_cnt, a_ix_no (x := x) (n := 13) (by omega)]
      rw [hs] at hF
      exact q_i1 hF rfl
    · refine j_tabOut (tgt := 181) d_Ra_count_1 (Or.inr t9) rfl ?_
      refine j_bipush (v := (-102)) d_Ra_count_181 (by decide) ?_
      refine j_iret d_Ra_count_183 rfl ?_
      have hs : s_count Z x = -102 := by simp [s_count, a_cnt, a_ix_no (x := x) (n := 13) (by omega)]
      rw [hs] at hF
      exact q_i1 hF rfl
    · refine j_tabIn (off := 67) (tgt := 68) d_Ra_count_1 (by rw [t9]; decide) (by rw [t9]; decide) (by rw [t9]; rfl) rfl ?_
      refine j_aload_n d_Ra_count_68 rfl rfl ?_
      refine j_getr d_Ra_count_69 f_Ra_19 rfl rfl (by decide) rfl ?_
      refine j_geti d_Ra_count_72 f_Ra_140 rfl rfl (by decide) ?_
      refine j_iret d_Ra_count_75 rfl ?_
      have hs : s_count Z x = nI Z.2.1.1.1 := by simp [s_count, a_cnt, a_ix_of (x := x) (n := 13) (j := 0) (by omega) (by decide)]
      rw [hs] at hF
      exact q_i1 hF hD.1
    · refine j_tabIn (off := 75) (tgt := 76) d_Ra_count_1 (by rw [t9]; decide) (by rw [t9]; decide) (by rw [t9]; rfl) rfl ?_
      refine j_aload_n d_Ra_count_76 rfl rfl ?_
      refine j_getr d_Ra_count_77 f_Ra_19 rfl rfl (by decide) rfl ?_
      refine q_i (s_Ra_count_80 rfl (by decide)) rfl (Nat.le_of_ble_eq_true rfl) (Nat.le_of_ble_eq_true rfl) ?_
      refine c_Di_allPlaces hD od ?_
      refine j_iret d_Ra_count_83 rfl ?_
      have hs : s_count Z x = nI (a_sum Z.2.1.1.2.2.2.1 Z.2.1.1.1) := by simp [s_count, a_cnt, a_ix_of (x := x) (n := 13) (j := 1) (by omega) (by decide)]
      rw [hs] at hF
      exact q_i1 hF rfl
    · refine j_tabIn (off := 83) (tgt := 84) d_Ra_count_1 (by rw [t9]; decide) (by rw [t9]; decide) (by rw [t9]; rfl) rfl ?_
      refine j_aload_n d_Ra_count_84 rfl rfl ?_
      refine j_getr d_Ra_count_85 f_Ra_28 rfl rfl (by decide) rfl ?_
      refine j_geti d_Ra_count_88 f_Ra_205 rfl rfl (by decide) ?_
      refine j_iret d_Ra_count_91 rfl ?_
      have hs : s_count Z x = nI Z.2.1.2.1.1 := by simp [s_count, a_cnt, a_ix_of (x := x) (n := 13) (j := 2) (by omega) (by decide)]
      rw [hs] at hF
      exact q_i1 hF hK.2.1
    · refine j_tabIn (off := 91) (tgt := 92) d_Ra_count_1 (by rw [t9]; decide) (by rw [t9]; decide) (by rw [t9]; rfl) rfl ?_
      refine j_aload_n d_Ra_count_92 rfl rfl ?_
      refine j_getr d_Ra_count_93 f_Ra_28 rfl rfl (by decide) rfl ?_
      refine j_geti d_Ra_count_96 f_Ra_162 rfl rfl (by decide) ?_
      refine j_iret d_Ra_count_99 rfl ?_
      have hs : s_count Z x = nI Z.2.1.2.1.2.1 := by simp [s_count, a_cnt, a_ix_of (x := x) (n := 13) (j := 3) (by omega) (by decide)]
      rw [hs] at hF
      exact q_i1 hF hK.2.2.1
    · refine j_tabIn (off := 99) (tgt := 100) d_Ra_count_1 (by rw [t9]; decide) (by rw [t9]; decide) (by rw [t9]; rfl) rfl ?_
      refine j_aload_n d_Ra_count_100 rfl rfl ?_
      refine q_i (s_Ra_count_101 rfl (by decide)) rfl (Nat.le_of_ble_eq_true rfl) (Nat.le_of_ble_eq_true rfl) ?_
      refine c_hpN hR hD.1 ?_
      refine j_if_eq (tgt := 121) d_Ra_count_104 rfl (fun bq1 => ?_) (fun bq1 => False.elim (bq1 rfl))
      refine j_iconst (v := 0) d_Ra_count_121 rfl ?_
      refine j_iret d_Ra_count_122 rfl ?_
      have hs : s_count Z x = 0 := by simp [s_count, a_cnt, a_ix_of (x := x) (n := 13) (j := 4) (by omega) (by decide), hR]
      rw [hs] at hF
      exact q_i1 hF rfl
    · refine j_tabIn (off := 122) (tgt := 123) d_Ra_count_1 (by rw [t9]; decide) (by rw [t9]; decide) (by rw [t9]; rfl) rfl ?_
      refine j_aload_n d_Ra_count_123 rfl rfl ?_
      refine j_getr d_Ra_count_124 f_Ra_28 rfl rfl (by decide) rfl ?_
      refine j_geti d_Ra_count_127 f_Ra_197 rfl rfl (by decide) ?_
      refine j_iret d_Ra_count_130 rfl ?_
      have hs : s_count Z x = nI Z.2.1.2.1.2.2.2.1 := by simp [s_count, a_cnt, a_ix_of (x := x) (n := 13) (j := 5) (by omega) (by decide)]
      rw [hs] at hF
      exact q_i1 hF hK.1
    · refine j_tabIn (off := 130) (tgt := 131) d_Ra_count_1 (by rw [t9]; decide) (by rw [t9]; decide) (by rw [t9]; rfl) rfl ?_
      refine j_aload_n d_Ra_count_131 rfl rfl ?_
      refine j_getr d_Ra_count_132 f_Ra_19 rfl rfl (by decide) rfl ?_
      refine j_geti d_Ra_count_135 f_Ra_219 rfl rfl (by decide) ?_
      refine j_iret d_Ra_count_138 rfl ?_
      have hs : s_count Z x = nI Z.2.1.1.2.1 := by simp [s_count, a_cnt, a_ix_of (x := x) (n := 13) (j := 6) (by omega) (by decide)]
      rw [hs] at hF
      exact q_i1 hF hD.2.1
    · refine j_tabIn (off := 138) (tgt := 139) d_Ra_count_1 (by rw [t9]; decide) (by rw [t9]; decide) (by rw [t9]; rfl) rfl ?_
      refine j_aload_n d_Ra_count_139 rfl rfl ?_
      refine j_getr d_Ra_count_140 f_Ra_19 rfl rfl (by decide) rfl ?_
      refine j_geti d_Ra_count_143 f_Ra_216 rfl rfl (by decide) ?_
      refine j_iret d_Ra_count_146 rfl ?_
      have hs : s_count Z x = nI Z.2.1.1.2.2.1 := by simp [s_count, a_cnt, a_ix_of (x := x) (n := 13) (j := 7) (by omega) (by decide)]
      rw [hs] at hF
      exact q_i1 hF hD.2.2.1
    · refine j_tabIn (off := 146) (tgt := 147) d_Ra_count_1 (by rw [t9]; decide) (by rw [t9]; decide) (by rw [t9]; rfl) rfl ?_
      refine j_aload_n d_Ra_count_147 rfl rfl ?_
      refine j_getr d_Ra_count_148 f_Ra_35 rfl rfl (by decide) rfl ?_
      refine q_i (s_Ra_count_151 rfl (by decide)) rfl (Nat.le_of_ble_eq_true rfl) (Nat.le_of_ble_eq_true rfl) ?_
      refine c_Th_howMany hW ow ?_
      refine j_iret d_Ra_count_154 rfl ?_
      have hs : s_count Z x = nI (a_hm Z.2.1.2.2.1 6) := by simp [s_count, a_cnt, a_ix_of (x := x) (n := 13) (j := 8) (by omega) (by decide)]
      rw [hs] at hF
      exact q_i1 hF rfl
    · refine j_tabIn (off := 154) (tgt := 155) d_Ra_count_1 (by rw [t9]; decide) (by rw [t9]; decide) (by rw [t9]; rfl) rfl ?_
      refine j_aload_n d_Ra_count_155 rfl rfl ?_
      refine j_getr d_Ra_count_156 f_Ra_42 rfl rfl (by decide) rfl ?_
      refine j_geti d_Ra_count_159 f_Ra_263 rfl rfl (by decide) ?_
      refine j_iret d_Ra_count_162 rfl ?_
      have hs : s_count Z x = nI Z.2.1.2.2.2.1.1 := by simp [s_count, a_cnt, a_ix_of (x := x) (n := 13) (j := 9) (by omega) (by decide)]
      rw [hs] at hF
      exact q_i1 hF hS.1
    · refine j_tabIn (off := 162) (tgt := 163) d_Ra_count_1 (by rw [t9]; decide) (by rw [t9]; decide) (by rw [t9]; rfl) rfl ?_
      refine j_aload_n d_Ra_count_163 rfl rfl ?_
      refine j_getr d_Ra_count_164 f_Ra_10 rfl rfl (by decide) rfl ?_
      refine j_geti d_Ra_count_167 f_Ra_105 rfl rfl (by decide) ?_
      refine j_iret d_Ra_count_170 rfl ?_
      have hs : s_count Z x = nI Z.1.1 := by simp [s_count, a_cnt, a_ix_of (x := x) (n := 13) (j := 10) (by omega) (by decide)]
      rw [hs] at hF
      exact q_i1 hF hP.1
    · refine j_tabIn (off := 170) (tgt := 171) d_Ra_count_1 (by rw [t9]; decide) (by rw [t9]; decide) (by rw [t9]; rfl) rfl ?_
      refine j_aload_n d_Ra_count_171 rfl rfl ?_
      refine j_geti d_Ra_count_172 f_Ra_98 rfl rfl (by decide) ?_
      refine j_iret d_Ra_count_175 rfl ?_
      have hs : s_count Z x = nI Z.2.2.1 := by simp [s_count, a_cnt, a_ix_of (x := x) (n := 13) (j := 11) (by omega) (by decide)]
      rw [hs] at hF
      exact q_i1 hF hpr
    · refine j_tabIn (off := 175) (tgt := 176) d_Ra_count_1 (by rw [t9]; decide) (by rw [t9]; decide) (by rw [t9]; rfl) rfl ?_
      refine j_aload_n d_Ra_count_176 rfl rfl ?_
      refine j_geti d_Ra_count_177 f_Ra_102 rfl rfl (by decide) ?_
      refine j_iret d_Ra_count_180 rfl ?_
      have hs : s_count Z x = nI Z.2.2.2.1 := by simp [s_count, a_cnt, a_ix_of (x := x) (n := 13) (j := 12) (by omega) (by decide)]
      rw [hs] at hF
      exact q_i1 hF hld
  · by_cases hw : Z.2.1.2.1.2.2.1 = 1
    · refine r_C_of (by decide +kernel) (Nat.le_of_ble_eq_true rfl) ?_
      refine j_ls (ls' := [(0, _), (1, _)]) rfl ?_
      refine j_iload_n d_Ra_count_0 rfl rfl ?_
      rcases (show x.toInt < 0 ∨ 12 < x.toInt ∨ x.toInt = 0 ∨ x.toInt = 1 ∨ x.toInt = 2 ∨ x.toInt = 3 ∨ x.toInt = 4 ∨ x.toInt = 5 ∨ x.toInt = 6 ∨ x.toInt = 7 ∨ x.toInt = 8 ∨ x.toInt = 9 ∨ x.toInt = 10 ∨ x.toInt = 11 ∨ x.toInt = 12 by omega) with t9 | t9 | t9 | t9 | t9 | t9 | t9 | t9 | t9 | t9 | t9 | t9 | t9 | t9 | t9
      · refine j_tabOut (tgt := 181) d_Ra_count_1 (Or.inl t9) rfl ?_
        refine j_bipush (v := (-102)) d_Ra_count_181 (by decide) ?_
        refine j_iret d_Ra_count_183 rfl ?_
        have hs : s_count Z x = -102 := by simp [s_count, a_cnt, a_ix_no (x := x) (n := 13) (by omega)]
        rw [hs] at hF
        exact q_i1 hF rfl
      · refine j_tabOut (tgt := 181) d_Ra_count_1 (Or.inr t9) rfl ?_
        refine j_bipush (v := (-102)) d_Ra_count_181 (by decide) ?_
        refine j_iret d_Ra_count_183 rfl ?_
        have hs : s_count Z x = -102 := by simp [s_count, a_cnt, a_ix_no (x := x) (n := 13) (by omega)]
        rw [hs] at hF
        exact q_i1 hF rfl
      · refine j_tabIn (off := 67) (tgt := 68) d_Ra_count_1 (by rw [t9]; decide) (by rw [t9]; decide) (by rw [t9]; rfl) rfl ?_
        refine j_aload_n d_Ra_count_68 rfl rfl ?_
        refine j_getr d_Ra_count_69 f_Ra_19 rfl rfl (by decide) rfl ?_
        refine j_geti d_Ra_count_72 f_Ra_140 rfl rfl (by decide) ?_
        refine j_iret d_Ra_count_75 rfl ?_
        have hs : s_count Z x = nI Z.2.1.1.1 := by simp [s_count, a_cnt, a_ix_of (x := x) (n := 13) (j := 0) (by omega) (by decide)]
        rw [hs] at hF
        exact q_i1 hF hD.1
      · refine j_tabIn (off := 75) (tgt := 76) d_Ra_count_1 (by rw [t9]; decide) (by rw [t9]; decide) (by rw [t9]; rfl) rfl ?_
        refine j_aload_n d_Ra_count_76 rfl rfl ?_
        refine j_getr d_Ra_count_77 f_Ra_19 rfl rfl (by decide) rfl ?_
        refine q_i (s_Ra_count_80 rfl (by decide)) rfl (Nat.le_of_ble_eq_true rfl) (Nat.le_of_ble_eq_true rfl) ?_
        refine c_Di_allPlaces hD od ?_
        refine j_iret d_Ra_count_83 rfl ?_
        have hs : s_count Z x = nI (a_sum Z.2.1.1.2.2.2.1 Z.2.1.1.1) := by simp [s_count, a_cnt, a_ix_of (x := x) (n := 13) (j := 1) (by omega) (by decide)]
        rw [hs] at hF
        exact q_i1 hF rfl
      · refine j_tabIn (off := 83) (tgt := 84) d_Ra_count_1 (by rw [t9]; decide) (by rw [t9]; decide) (by rw [t9]; rfl) rfl ?_
        refine j_aload_n d_Ra_count_84 rfl rfl ?_
        refine j_getr d_Ra_count_85 f_Ra_28 rfl rfl (by decide) rfl ?_
        refine j_geti d_Ra_count_88 f_Ra_205 rfl rfl (by decide) ?_
        refine j_iret d_Ra_count_91 rfl ?_
        have hs : s_count Z x = nI Z.2.1.2.1.1 := by simp [s_count, a_cnt, a_ix_of (x := x) (n := 13) (j := 2) (by omega) (by decide)]
        rw [hs] at hF
        exact q_i1 hF hK.2.1
      · refine j_tabIn (off := 91) (tgt := 92) d_Ra_count_1 (by rw [t9]; decide) (by rw [t9]; decide) (by rw [t9]; rfl) rfl ?_
        refine j_aload_n d_Ra_count_92 rfl rfl ?_
        refine j_getr d_Ra_count_93 f_Ra_28 rfl rfl (by decide) rfl ?_
        refine j_geti d_Ra_count_96 f_Ra_162 rfl rfl (by decide) ?_
        refine j_iret d_Ra_count_99 rfl ?_
        have hs : s_count Z x = nI Z.2.1.2.1.2.1 := by simp [s_count, a_cnt, a_ix_of (x := x) (n := 13) (j := 3) (by omega) (by decide)]
        rw [hs] at hF
        exact q_i1 hF hK.2.2.1
      · refine j_tabIn (off := 99) (tgt := 100) d_Ra_count_1 (by rw [t9]; decide) (by rw [t9]; decide) (by rw [t9]; rfl) rfl ?_
        refine j_aload_n d_Ra_count_100 rfl rfl ?_
        refine q_i (s_Ra_count_101 rfl (by decide)) rfl (Nat.le_of_ble_eq_true rfl) (Nat.le_of_ble_eq_true rfl) ?_
        refine c_hpY (by omega) od1 hD.1 ?_
        refine j_if_eq (tgt := 121) d_Ra_count_104 rfl (fun bq1 => False.elim (absurd bq1 (by decide))) (fun bq1 => ?_)
        refine j_aload_n d_Ra_count_107 rfl rfl ?_
        refine j_getr d_Ra_count_108 f_Ra_28 rfl rfl (by decide) rfl ?_
        refine j_getz d_Ra_count_111 f_Ra_285 rfl rfl (by decide) ?_
        refine j_if_eq (tgt := 121) d_Ra_count_114 rfl (fun bq2 => False.elim (absurd (hK.2.2.2.1.symm.trans bq2) (by rw [hw]; decide))) (fun bq2 => ?_)
        refine j_iconst (v := 1) d_Ra_count_117 rfl ?_
        refine j_goto (tgt := 122) d_Ra_count_118 rfl ?_
        refine j_iret d_Ra_count_122 rfl ?_
        have hs : s_count Z x = 1 := by simp [s_count, a_cnt, a_ix_of (x := x) (n := 13) (j := 4) (by omega) (by decide), hw, show 0 < Z.2.1.1.1 by omega]
        rw [hs] at hF
        exact q_i1 hF rfl
      · refine j_tabIn (off := 122) (tgt := 123) d_Ra_count_1 (by rw [t9]; decide) (by rw [t9]; decide) (by rw [t9]; rfl) rfl ?_
        refine j_aload_n d_Ra_count_123 rfl rfl ?_
        refine j_getr d_Ra_count_124 f_Ra_28 rfl rfl (by decide) rfl ?_
        refine j_geti d_Ra_count_127 f_Ra_197 rfl rfl (by decide) ?_
        refine j_iret d_Ra_count_130 rfl ?_
        have hs : s_count Z x = nI Z.2.1.2.1.2.2.2.1 := by simp [s_count, a_cnt, a_ix_of (x := x) (n := 13) (j := 5) (by omega) (by decide)]
        rw [hs] at hF
        exact q_i1 hF hK.1
      · refine j_tabIn (off := 130) (tgt := 131) d_Ra_count_1 (by rw [t9]; decide) (by rw [t9]; decide) (by rw [t9]; rfl) rfl ?_
        refine j_aload_n d_Ra_count_131 rfl rfl ?_
        refine j_getr d_Ra_count_132 f_Ra_19 rfl rfl (by decide) rfl ?_
        refine j_geti d_Ra_count_135 f_Ra_219 rfl rfl (by decide) ?_
        refine j_iret d_Ra_count_138 rfl ?_
        have hs : s_count Z x = nI Z.2.1.1.2.1 := by simp [s_count, a_cnt, a_ix_of (x := x) (n := 13) (j := 6) (by omega) (by decide)]
        rw [hs] at hF
        exact q_i1 hF hD.2.1
      · refine j_tabIn (off := 138) (tgt := 139) d_Ra_count_1 (by rw [t9]; decide) (by rw [t9]; decide) (by rw [t9]; rfl) rfl ?_
        refine j_aload_n d_Ra_count_139 rfl rfl ?_
        refine j_getr d_Ra_count_140 f_Ra_19 rfl rfl (by decide) rfl ?_
        refine j_geti d_Ra_count_143 f_Ra_216 rfl rfl (by decide) ?_
        refine j_iret d_Ra_count_146 rfl ?_
        have hs : s_count Z x = nI Z.2.1.1.2.2.1 := by simp [s_count, a_cnt, a_ix_of (x := x) (n := 13) (j := 7) (by omega) (by decide)]
        rw [hs] at hF
        exact q_i1 hF hD.2.2.1
      · refine j_tabIn (off := 146) (tgt := 147) d_Ra_count_1 (by rw [t9]; decide) (by rw [t9]; decide) (by rw [t9]; rfl) rfl ?_
        refine j_aload_n d_Ra_count_147 rfl rfl ?_
        refine j_getr d_Ra_count_148 f_Ra_35 rfl rfl (by decide) rfl ?_
        refine q_i (s_Ra_count_151 rfl (by decide)) rfl (Nat.le_of_ble_eq_true rfl) (Nat.le_of_ble_eq_true rfl) ?_
        refine c_Th_howMany hW ow ?_
        refine j_iret d_Ra_count_154 rfl ?_
        have hs : s_count Z x = nI (a_hm Z.2.1.2.2.1 6) := by simp [s_count, a_cnt, a_ix_of (x := x) (n := 13) (j := 8) (by omega) (by decide)]
        rw [hs] at hF
        exact q_i1 hF rfl
      · refine j_tabIn (off := 154) (tgt := 155) d_Ra_count_1 (by rw [t9]; decide) (by rw [t9]; decide) (by rw [t9]; rfl) rfl ?_
        refine j_aload_n d_Ra_count_155 rfl rfl ?_
        refine j_getr d_Ra_count_156 f_Ra_42 rfl rfl (by decide) rfl ?_
        refine j_geti d_Ra_count_159 f_Ra_263 rfl rfl (by decide) ?_
        refine j_iret d_Ra_count_162 rfl ?_
        have hs : s_count Z x = nI Z.2.1.2.2.2.1.1 := by simp [s_count, a_cnt, a_ix_of (x := x) (n := 13) (j := 9) (by omega) (by decide)]
        rw [hs] at hF
        exact q_i1 hF hS.1
      · refine j_tabIn (off := 162) (tgt := 163) d_Ra_count_1 (by rw [t9]; decide) (by rw [t9]; decide) (by rw [t9]; rfl) rfl ?_
        refine j_aload_n d_Ra_count_163 rfl rfl ?_
        refine j_getr d_Ra_count_164 f_Ra_10 rfl rfl (by decide) rfl ?_
        refine j_geti d_Ra_count_167 f_Ra_105 rfl rfl (by decide) ?_
        refine j_iret d_Ra_count_170 rfl ?_
        have hs : s_count Z x = nI Z.1.1 := by simp [s_count, a_cnt, a_ix_of (x := x) (n := 13) (j := 10) (by omega) (by decide)]
        rw [hs] at hF
        exact q_i1 hF hP.1
      · refine j_tabIn (off := 170) (tgt := 171) d_Ra_count_1 (by rw [t9]; decide) (by rw [t9]; decide) (by rw [t9]; rfl) rfl ?_
        refine j_aload_n d_Ra_count_171 rfl rfl ?_
        refine j_geti d_Ra_count_172 f_Ra_98 rfl rfl (by decide) ?_
        refine j_iret d_Ra_count_175 rfl ?_
        have hs : s_count Z x = nI Z.2.2.1 := by simp [s_count, a_cnt, a_ix_of (x := x) (n := 13) (j := 11) (by omega) (by decide)]
        rw [hs] at hF
        exact q_i1 hF hpr
      · refine j_tabIn (off := 175) (tgt := 176) d_Ra_count_1 (by rw [t9]; decide) (by rw [t9]; decide) (by rw [t9]; rfl) rfl ?_
        refine j_aload_n d_Ra_count_176 rfl rfl ?_
        refine j_geti d_Ra_count_177 f_Ra_102 rfl rfl (by decide) ?_
        refine j_iret d_Ra_count_180 rfl ?_
        have hs : s_count Z x = nI Z.2.2.2.1 := by simp [s_count, a_cnt, a_ix_of (x := x) (n := 13) (j := 12) (by omega) (by decide)]
        rw [hs] at hF
        exact q_i1 hF hld
    · refine r_C_of (by decide +kernel) (Nat.le_of_ble_eq_true rfl) ?_
      refine j_ls (ls' := [(0, _), (1, _)]) rfl ?_
      refine j_iload_n d_Ra_count_0 rfl rfl ?_
      rcases (show x.toInt < 0 ∨ 12 < x.toInt ∨ x.toInt = 0 ∨ x.toInt = 1 ∨ x.toInt = 2 ∨ x.toInt = 3 ∨ x.toInt = 4 ∨ x.toInt = 5 ∨ x.toInt = 6 ∨ x.toInt = 7 ∨ x.toInt = 8 ∨ x.toInt = 9 ∨ x.toInt = 10 ∨ x.toInt = 11 ∨ x.toInt = 12 by omega) with t9 | t9 | t9 | t9 | t9 | t9 | t9 | t9 | t9 | t9 | t9 | t9 | t9 | t9 | t9
      · refine j_tabOut (tgt := 181) d_Ra_count_1 (Or.inl t9) rfl ?_
        refine j_bipush (v := (-102)) d_Ra_count_181 (by decide) ?_
        refine j_iret d_Ra_count_183 rfl ?_
        have hs : s_count Z x = -102 := by simp [s_count, a_cnt, a_ix_no (x := x) (n := 13) (by omega)]
        rw [hs] at hF
        exact q_i1 hF rfl
      · refine j_tabOut (tgt := 181) d_Ra_count_1 (Or.inr t9) rfl ?_
        refine j_bipush (v := (-102)) d_Ra_count_181 (by decide) ?_
        refine j_iret d_Ra_count_183 rfl ?_
        have hs : s_count Z x = -102 := by simp [s_count, a_cnt, a_ix_no (x := x) (n := 13) (by omega)]
        rw [hs] at hF
        exact q_i1 hF rfl
      · refine j_tabIn (off := 67) (tgt := 68) d_Ra_count_1 (by rw [t9]; decide) (by rw [t9]; decide) (by rw [t9]; rfl) rfl ?_
        refine j_aload_n d_Ra_count_68 rfl rfl ?_
        refine j_getr d_Ra_count_69 f_Ra_19 rfl rfl (by decide) rfl ?_
        refine j_geti d_Ra_count_72 f_Ra_140 rfl rfl (by decide) ?_
        refine j_iret d_Ra_count_75 rfl ?_
        have hs : s_count Z x = nI Z.2.1.1.1 := by simp [s_count, a_cnt, a_ix_of (x := x) (n := 13) (j := 0) (by omega) (by decide)]
        rw [hs] at hF
        exact q_i1 hF hD.1
      · refine j_tabIn (off := 75) (tgt := 76) d_Ra_count_1 (by rw [t9]; decide) (by rw [t9]; decide) (by rw [t9]; rfl) rfl ?_
        refine j_aload_n d_Ra_count_76 rfl rfl ?_
        refine j_getr d_Ra_count_77 f_Ra_19 rfl rfl (by decide) rfl ?_
        refine q_i (s_Ra_count_80 rfl (by decide)) rfl (Nat.le_of_ble_eq_true rfl) (Nat.le_of_ble_eq_true rfl) ?_
        refine c_Di_allPlaces hD od ?_
        refine j_iret d_Ra_count_83 rfl ?_
        have hs : s_count Z x = nI (a_sum Z.2.1.1.2.2.2.1 Z.2.1.1.1) := by simp [s_count, a_cnt, a_ix_of (x := x) (n := 13) (j := 1) (by omega) (by decide)]
        rw [hs] at hF
        exact q_i1 hF rfl
      · refine j_tabIn (off := 83) (tgt := 84) d_Ra_count_1 (by rw [t9]; decide) (by rw [t9]; decide) (by rw [t9]; rfl) rfl ?_
        refine j_aload_n d_Ra_count_84 rfl rfl ?_
        refine j_getr d_Ra_count_85 f_Ra_28 rfl rfl (by decide) rfl ?_
        refine j_geti d_Ra_count_88 f_Ra_205 rfl rfl (by decide) ?_
        refine j_iret d_Ra_count_91 rfl ?_
        have hs : s_count Z x = nI Z.2.1.2.1.1 := by simp [s_count, a_cnt, a_ix_of (x := x) (n := 13) (j := 2) (by omega) (by decide)]
        rw [hs] at hF
        exact q_i1 hF hK.2.1
      · refine j_tabIn (off := 91) (tgt := 92) d_Ra_count_1 (by rw [t9]; decide) (by rw [t9]; decide) (by rw [t9]; rfl) rfl ?_
        refine j_aload_n d_Ra_count_92 rfl rfl ?_
        refine j_getr d_Ra_count_93 f_Ra_28 rfl rfl (by decide) rfl ?_
        refine j_geti d_Ra_count_96 f_Ra_162 rfl rfl (by decide) ?_
        refine j_iret d_Ra_count_99 rfl ?_
        have hs : s_count Z x = nI Z.2.1.2.1.2.1 := by simp [s_count, a_cnt, a_ix_of (x := x) (n := 13) (j := 3) (by omega) (by decide)]
        rw [hs] at hF
        exact q_i1 hF hK.2.2.1
      · refine j_tabIn (off := 99) (tgt := 100) d_Ra_count_1 (by rw [t9]; decide) (by rw [t9]; decide) (by rw [t9]; rfl) rfl ?_
        refine j_aload_n d_Ra_count_100 rfl rfl ?_
        refine q_i (s_Ra_count_101 rfl (by decide)) rfl (Nat.le_of_ble_eq_true rfl) (Nat.le_of_ble_eq_true rfl) ?_
        refine c_hpY (by omega) od1 hD.1 ?_
        refine j_if_eq (tgt := 121) d_Ra_count_104 rfl (fun bq1 => False.elim (absurd bq1 (by decide))) (fun bq1 => ?_)
        refine j_aload_n d_Ra_count_107 rfl rfl ?_
        refine j_getr d_Ra_count_108 f_Ra_28 rfl rfl (by decide) rfl ?_
        refine j_getz d_Ra_count_111 f_Ra_285 rfl rfl (by decide) ?_
        refine j_if_eq (tgt := 121) d_Ra_count_114 rfl (fun bq2 => ?_) (fun bq2 => False.elim (bq2 (hK.2.2.2.1.trans (by rw [show Z.2.1.2.1.2.2.1 = 0 by omega]; rfl))))
        refine j_iconst (v := 0) d_Ra_count_121 rfl ?_
        refine j_iret d_Ra_count_122 rfl ?_
        have hs : s_count Z x = 0 := by simp [s_count, a_cnt, a_ix_of (x := x) (n := 13) (j := 4) (by omega) (by decide), hw]
        rw [hs] at hF
        exact q_i1 hF rfl
      · refine j_tabIn (off := 122) (tgt := 123) d_Ra_count_1 (by rw [t9]; decide) (by rw [t9]; decide) (by rw [t9]; rfl) rfl ?_
        refine j_aload_n d_Ra_count_123 rfl rfl ?_
        refine j_getr d_Ra_count_124 f_Ra_28 rfl rfl (by decide) rfl ?_
        refine j_geti d_Ra_count_127 f_Ra_197 rfl rfl (by decide) ?_
        refine j_iret d_Ra_count_130 rfl ?_
        have hs : s_count Z x = nI Z.2.1.2.1.2.2.2.1 := by simp [s_count, a_cnt, a_ix_of (x := x) (n := 13) (j := 5) (by omega) (by decide)]
        rw [hs] at hF
        exact q_i1 hF hK.1
      · refine j_tabIn (off := 130) (tgt := 131) d_Ra_count_1 (by rw [t9]; decide) (by rw [t9]; decide) (by rw [t9]; rfl) rfl ?_
        refine j_aload_n d_Ra_count_131 rfl rfl ?_
        refine j_getr d_Ra_count_132 f_Ra_19 rfl rfl (by decide) rfl ?_
        refine j_geti d_Ra_count_135 f_Ra_219 rfl rfl (by decide) ?_
        refine j_iret d_Ra_count_138 rfl ?_
        have hs : s_count Z x = nI Z.2.1.1.2.1 := by simp [s_count, a_cnt, a_ix_of (x := x) (n := 13) (j := 6) (by omega) (by decide)]
        rw [hs] at hF
        exact q_i1 hF hD.2.1
      · refine j_tabIn (off := 138) (tgt := 139) d_Ra_count_1 (by rw [t9]; decide) (by rw [t9]; decide) (by rw [t9]; rfl) rfl ?_
        refine j_aload_n d_Ra_count_139 rfl rfl ?_
        refine j_getr d_Ra_count_140 f_Ra_19 rfl rfl (by decide) rfl ?_
        refine j_geti d_Ra_count_143 f_Ra_216 rfl rfl (by decide) ?_
        refine j_iret d_Ra_count_146 rfl ?_
        have hs : s_count Z x = nI Z.2.1.1.2.2.1 := by simp [s_count, a_cnt, a_ix_of (x := x) (n := 13) (j := 7) (by omega) (by decide)]
        rw [hs] at hF
        exact q_i1 hF hD.2.2.1
      · refine j_tabIn (off := 146) (tgt := 147) d_Ra_count_1 (by rw [t9]; decide) (by rw [t9]; decide) (by rw [t9]; rfl) rfl ?_
        refine j_aload_n d_Ra_count_147 rfl rfl ?_
        refine j_getr d_Ra_count_148 f_Ra_35 rfl rfl (by decide) rfl ?_
        refine q_i (s_Ra_count_151 rfl (by decide)) rfl (Nat.le_of_ble_eq_true rfl) (Nat.le_of_ble_eq_true rfl) ?_
        refine c_Th_howMany hW ow ?_
        refine j_iret d_Ra_count_154 rfl ?_
        have hs : s_count Z x = nI (a_hm Z.2.1.2.2.1 6) := by simp [s_count, a_cnt, a_ix_of (x := x) (n := 13) (j := 8) (by omega) (by decide)]
        rw [hs] at hF
        exact q_i1 hF rfl
      · refine j_tabIn (off := 154) (tgt := 155) d_Ra_count_1 (by rw [t9]; decide) (by rw [t9]; decide) (by rw [t9]; rfl) rfl ?_
        refine j_aload_n d_Ra_count_155 rfl rfl ?_
        refine j_getr d_Ra_count_156 f_Ra_42 rfl rfl (by decide) rfl ?_
        refine j_geti d_Ra_count_159 f_Ra_263 rfl rfl (by decide) ?_
        refine j_iret d_Ra_count_162 rfl ?_
        have hs : s_count Z x = nI Z.2.1.2.2.2.1.1 := by simp [s_count, a_cnt, a_ix_of (x := x) (n := 13) (j := 9) (by omega) (by decide)]
        rw [hs] at hF
        exact q_i1 hF hS.1
      · refine j_tabIn (off := 162) (tgt := 163) d_Ra_count_1 (by rw [t9]; decide) (by rw [t9]; decide) (by rw [t9]; rfl) rfl ?_
        refine j_aload_n d_Ra_count_163 rfl rfl ?_
        refine j_getr d_Ra_count_164 f_Ra_10 rfl rfl (by decide) rfl ?_
        refine j_geti d_Ra_count_167 f_Ra_105 rfl rfl (by decide) ?_
        refine j_iret d_Ra_count_170 rfl ?_
        have hs : s_count Z x = nI Z.1.1 := by simp [s_count, a_cnt, a_ix_of (x := x) (n := 13) (j := 10) (by omega) (by decide)]
        rw [hs] at hF
        exact q_i1 hF hP.1
      · refine j_tabIn (off := 170) (tgt := 171) d_Ra_count_1 (by rw [t9]; decide) (by rw [t9]; decide) (by rw [t9]; rfl) rfl ?_
        refine j_aload_n d_Ra_count_171 rfl rfl ?_
        refine j_geti d_Ra_count_172 f_Ra_98 rfl rfl (by decide) ?_
        refine j_iret d_Ra_count_175 rfl ?_
        have hs : s_count Z x = nI Z.2.2.1 := by simp [s_count, a_cnt, a_ix_of (x := x) (n := 13) (j := 11) (by omega) (by decide)]
        rw [hs] at hF
        exact q_i1 hF hpr
      · refine j_tabIn (off := 175) (tgt := 176) d_Ra_count_1 (by rw [t9]; decide) (by rw [t9]; decide) (by rw [t9]; rfl) rfl ?_
        refine j_aload_n d_Ra_count_176 rfl rfl ?_
        refine j_geti d_Ra_count_177 f_Ra_102 rfl rfl (by decide) ?_
        refine j_iret d_Ra_count_180 rfl ?_
        have hs : s_count Z x = nI Z.2.2.2.1 := by simp [s_count, a_cnt, a_ix_of (x := x) (n := 13) (j := 12) (by omega) (by decide)]
        rw [hs] at hF
        exact q_i1 hF hld
