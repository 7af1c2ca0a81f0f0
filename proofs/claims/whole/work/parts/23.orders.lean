/-- where the arm is and when, behind an order of what is asked -/
def a_ef (D : a_D) (K : a_K) (x : List Nat) : Nat × Nat := x.foldl (fun s i => (a_dn D s.1 s.2 (K.2.2.2.2.1 i) (K.2.2.2.2.2.1 i), K.2.2.2.2.1 i)) (K.1, K.2.1)
def a_et (D : a_D) (K : a_K) (x : List Nat) : Nat := (a_ef D K x).1
theorem a_ef_app {D : a_D} {K : a_K} {x : List Nat} {i : Nat} : a_ef D K (x ++ [i]) = (a_dn D (a_ef D K x).1 (a_ef D K x).2 (K.2.2.2.2.1 i) (K.2.2.2.2.2.1 i), K.2.2.2.2.1 i) := by
  unfold a_ef
  rw [List.foldl_append]
  rfl
theorem a_et_le {D : a_D} {K : a_K} (x : List Nat) (i : Nat) : a_et D K x ≤ a_et D K (x ++ [i]) := by
  unfold a_et
  rw [a_ef_app]
  exact a_dn_ge
theorem p_K.at {h : r_HI} {k : Nat} {K : a_K} (hK : p_K h k K) {i : Nat} (hi : i < K.2.2.2.1) : h (k + 1) i = nI (K.2.2.2.2.1 i) ∧ h (k + 2) i = nI (K.2.2.2.2.2.1 i) ∧ h (k + 3) i = nI (K.2.2.2.2.2.2 i) := hK.2.2.2.2 i hi
set_option maxRecDepth 100000 in
set_option maxHeartbeats 4000000 in
theorem c_Or_search {G : r_X} {p q : Nat} {z : r_HL} {D : a_D} (ho : a_dok D) {K : a_K} (hk : a_kok D K) (ht : K.1 < 2 ^ 20) {n : Nat} (hn : n = K.2.2.2.1) : ∀ (m : Nat) {d : Nat} {h : r_HI} {F : r_HI → r_HR → r_HL → Prop} {pre : List Nat} {b : Nat × List Nat} {used : Nat} {a1 a2 a3 a4 : Int32}, pre.length + m = n → p_D h 3 D → p_K h 7 K → h 44 2 = nI n → p_L h 45 pre → (∀ j, j < pre.length → pre.getD j 0 < n) → (a_ef D K pre).1 ≤ K.1 + 125 * pre.length → (a_ef D K pre).2 < 10 → used < 128 → p_B h 44 3 46 n b → a1 = nI pre.length → a2 = nI (a_ef D K pre).1 → a3 = nI (a_ef D K pre).2 → a4 = nI used → (∀ h', r_ex [44, 45, 46] h h' → h' 44 2 = nI n → p_L h' 45 pre → p_B h' 44 3 46 n (a_fd (a_et D K) b (a_pc n m used pre)) → F h' (r_gp p q) z) → r_Cv G m_Or_search (d + m + 2) 61 [.ref (G.2.1 + 44), .ref (G.2.1 + 7), .int a1, .int a2, .int a3, .int a4] 61 h (r_gp p q) z F := by
  intro m
  induction m with
  | zero =>
    intro d h F pre b used a1 a2 a3 a4 hm hD hK hz hL hpr htm hpr2 hu hB e1 e2 e3 e4 hF
    subst e1
    subst e2
    subst e3
    subst e4
    have hn7 := hk.2.2.1
    have hcl : a_et D K pre < 2 ^ 27 := by show (a_ef D K pre).1 < 2 ^ 27; omega
    refine r_C_of (by decide +kernel) (Nat.le_of_ble_eq_true rfl) ?_
    refine j_ls (ls' := [(0, _), (1, _), (2, _), (3, _), (4, _), (5, _)]) rfl ?_
    refine j_iload_n d_Or_search_0 rfl rfl ?_
    refine j_aload_n d_Or_search_1 rfl rfl ?_
    refine j_geti d_Or_search_2 f_Or_22 rfl rfl (by decide) ?_
    rw [hB.1]
    refine j_icmp_lt (tgt := 9) d_Or_search_5 rfl (fun bq1 => ?_) (fun bq1 => ?_)
    · refine j_iload_n d_Or_search_9 rfl rfl ?_
      refine j_aload_n d_Or_search_10 rfl rfl ?_
      refine j_geti d_Or_search_11 f_Or_18 rfl rfl (by decide) ?_
      refine j_icmp_ge (tgt := 23) d_Or_search_14 rfl (fun bq2 => ?_) (fun bq2 => False.elim (bq2 (by rw [hz]; exact nI_le (by omega) (by omega))))
      refine j_aload_n d_Or_search_23 rfl rfl ?_
      refine j_iload_n d_Or_search_24 rfl rfl ?_
      refine j_puti d_Or_search_25 f_Or_22 (by decide) rfl rfl (by decide) ?_
      refine j_aload_n d_Or_search_28 rfl rfl ?_
      refine j_getr d_Or_search_29 f_Or_9 rfl rfl (by decide) rfl ?_
      refine j_aload_n d_Or_search_32 rfl rfl ?_
      refine j_getr d_Or_search_33 f_Or_15 rfl rfl (by decide) rfl ?_
      refine q_v s_Or_search_36 rfl (Nat.le_of_ble_eq_true rfl) (Nat.le_of_ble_eq_true rfl) ?_
      refine c_Ra_copyRow rfl rfl (by decide) (by decide) (by decide) ?_
      refine j_vret d_Or_search_39 rfl ?_
      have e9 : a_et D K pre < b.1 := (nI_ltI (by omega) hB.2.1).mp bq1
      refine ⟨rfl, hF _ ((r_ex.rf.up (by decide)).rw (by decide)) hz hL ?_⟩
      show p_B _ 44 3 46 n (a_bf (a_et D K) b pre)
      rw [a_bf, if_pos e9]
      exact ⟨rfl, show a_et D K pre < 2 ^ 31 by omega, Or.inr (fun i hi => (if_pos (show i < 7 by omega)).trans (hL i (by omega)))⟩
    · refine j_vret d_Or_search_8 rfl ?_
      have e9 : b.1 ≤ a_et D K pre := Decidable.byContradiction (fun e8 => bq1 (nI_lt (show (a_ef D K pre).1 < b.1 from Nat.lt_of_not_le e8) hB.2.1))
      refine ⟨rfl, hF _ r_ex.rf hz hL ?_⟩
      rw [a_fd_id (fun x hx => Nat.le_trans e9 (a_pc_le a_et_le n _ _ _ x hx))]
      exact hB
  | succ m ih =>
    intro d h F pre b used a1 a2 a3 a4 hm hD hK hz hL hpr htm hpr2 hu hB e1 e2 e3 e4 hF
    subst e1
    subst e2
    subst e3
    subst e4
    have hn7 := hk.2.2.1
    have hcl : a_et D K pre < 2 ^ 27 := by show (a_ef D K pre).1 < 2 ^ 27; omega
    have key : ∀ (e i : Nat) (v : Int32) (h1 : r_HI) (b1 : Nat × List Nat), e + i = n → v = nI i → r_ex [44, 45, 46] h h1 → h1 44 2 = nI n → p_L h1 45 pre → p_B h1 44 3 46 n b1 → a_fd (a_et D K) b1 ((List.range' i e).flatMap (fun r => if a_hb used r then [] else a_pc n m (used + 2 ^ r) (pre ++ [r]))) = a_fd (a_et D K) b (a_pc n (m + 1) used pre) → r_TM G m_Or_search (d + (m + 1) + 2) 61 61 (fun v h' g' z' => v = none ∧ F h' g' z') 43 [(0, .ref (G.2.1 + 44)), (1, .ref (G.2.1 + 7)), (2, .int (nI pre.length)), (3, .int (nI (a_ef D K pre).1)), (4, .int (nI (a_ef D K pre).2)), (5, .int (nI used)), (6, .int v)] [] 61 h1 (r_gp p q) z := by
      intro e
      induction e with
      | zero =>
        intro i v h1 b1 he hv hx1 hz1 hL1 hB1 hfd
        subst hv
        replace hfd : b1 = a_fd (a_et D K) b (a_pc n (m + 1) used pre) := hfd
        refine j_iload d_Or_search_43 rfl ?_
        refine j_aload_n d_Or_search_45 rfl rfl ?_
        refine j_geti d_Or_search_46 f_Or_18 rfl rfl (by decide) ?_
        refine j_icmp_ge (tgt := 138) d_Or_search_49 rfl (fun bq1 => ?_) (fun bq1 => False.elim (bq1 (by rw [hz1]; exact nI_le (by omega) (by omega))))
        refine j_vret d_Or_search_138 rfl ?_
        exact ⟨rfl, hF _ hx1 hz1 hL1 (hfd ▸ hB1)⟩
      | succ e ke =>
        intro i v h1 b1 he hv hx1 hz1 hL1 hB1 hfd
        subst hv
        have hD1 : p_D h1 3 D := hD.ex hx1 (by decide) (by decide) (by decide) (by decide)
        have hK1 : p_K h1 7 K := hK.ex hx1 (by decide) (by decide) (by decide) (by decide)
        have hKi := hK1.at (i := i) (by omega)
        obtain ⟨hr1, hp1, hs1⟩ := hk.2.2.2 i (by omega)
        have h10 := ho.1
        have hpi : ∀ j, j < (pre ++ [i]).length → (pre ++ [i]).getD j 0 < n := by
          intro j hj
          by_cases e9 : j = pre.length
          · subst e9
            rw [getD_app_eq]
            omega
          · have hj : j < pre.length := by simp at hj; omega
            rw [getD_app_lt hj]
            exact hpr j hj
        refine j_iload d_Or_search_43 rfl ?_
        refine j_aload_n d_Or_search_45 rfl rfl ?_
        refine j_geti d_Or_search_46 f_Or_18 rfl rfl (by decide) ?_
        refine j_icmp_ge (tgt := 138) d_Or_search_49 rfl (fun bq1 => False.elim (nI_ge (by omega) (by omega) (hz1 ▸ bq1))) (fun bq1 => ?_)
        refine j_iload d_Or_search_52 rfl ?_
        refine j_bipush (v := 7) d_Or_search_54 (by decide) ?_
        refine j_icmp_ge (tgt := 138) d_Or_search_56 rfl (fun bq2 => False.elim (nI_ge (b := 7) (by omega) (by omega) bq2)) (fun bq2 => ?_)
        refine j_iload d_Or_search_59 rfl ?_
        refine j_iload d_Or_search_61 rfl ?_
        refine q_i s_Or_search_63 rfl (Nat.le_of_ble_eq_true rfl) (Nat.le_of_ble_eq_true rfl) ?_
        refine c_Ra_hasBit (by omega) (by omega) rfl rfl ?_
        refine j_if_ne (tgt := 132) d_Or_search_66 rfl (fun bq3 => ?_) (fun bq3 => ?_)
        · refine j_iinc (ls' := [(6, _), (0, _), (1, _), (2, _), (3, _), (4, _), (5, _)]) d_Or_search_132 rfl (by decide) rfl ?_
          refine j_goto (tgt := 43) d_Or_search_135 rfl ?_
          refine j_pick [1, 2, 3, 4, 5, 6, 0] (ls' := [(0, _), (1, _), (2, _), (3, _), (4, _), (5, _), (6, _)]) rfl ?_
          rw [List.range'_succ, List.flatMap_cons, a_fd_app] at hfd
          first
            | (have e8 : a_hb used i = true := Decidable.byContradiction (fun e6 => bq3 (t10.mpr e6))
               rw [if_pos e8] at hfd
               exact ke (i + 1) _ h1 b1 (by omega) (nI_inc i) hx1 hz1 hL1 hB1 hfd)
            | (rw [if_neg (by rw [e7]; decide)] at hfd
               exact ke (i + 1) _ h2 _ (by omega) (nI_inc i) (r_ex.tr (hx1.up (by decide)) q1 (fun _ q => q)) q0 q2.cut q3 hfd)
            | fail "none"
        · refine j_aload_n d_Or_search_69 rfl rfl ?_
          refine j_getr d_Or_search_70 f_Or_53 rfl rfl (by decide) rfl ?_
          refine j_iload d_Or_search_73 rfl ?_
          refine q_i s_Or_search_75 rfl (Nat.le_of_ble_eq_true rfl) (Nat.le_of_ble_eq_true rfl) ?_
          refine c_Ra_av (j := i) rfl (by decide) rfl (by omega) (hKi.1) ?_
          refine j_istore (ls' := [(7, _), (0, _), (1, _), (2, _), (3, _), (4, _), (5, _), (6, _)]) d_Or_search_78 (by decide) rfl ?_
          refine j_aload_n d_Or_search_80 rfl rfl ?_
          refine j_getr d_Or_search_81 f_Or_9 rfl rfl (by decide) rfl ?_
          refine j_iload_n d_Or_search_84 rfl rfl ?_
          refine j_iload d_Or_search_85 rfl ?_
          refine q_v s_Or_search_87 rfl (Nat.le_of_ble_eq_true rfl) (Nat.le_of_ble_eq_true rfl) ?_
          refine c_Ra_put (j := pre.length) rfl (by decide) rfl (by omega) ?_
          refine j_aload_n d_Or_search_90 rfl rfl ?_
          refine j_getr d_Or_search_91 f_Or_64 rfl rfl (by decide) rfl ?_
          refine j_iload_n d_Or_search_94 rfl rfl ?_
          refine j_iload d_Or_search_95 rfl ?_
          refine j_iload d_Or_search_97 rfl ?_
          refine j_aload_n d_Or_search_99 rfl rfl ?_
          refine j_getr d_Or_search_100 f_Or_68 rfl rfl (by decide) rfl ?_
          refine j_iload d_Or_search_103 rfl ?_
          refine q_i s_Or_search_105 rfl (Nat.le_of_ble_eq_true rfl) (Nat.le_of_ble_eq_true rfl) ?_
          refine c_Ra_av (v := nI (K.2.2.2.2.2.1 i)) (j := i) rfl (by decide) rfl (by omega) hKi.2.1 ?_
          refine q_i (s_Or_search_108 rfl (by decide)) rfl (Nat.le_of_ble_eq_true rfl) (Nat.le_of_ble_eq_true rfl) ?_
          refine c_Di_doneAt (hD1.ex (A := [45]) (r_ex.rf.up (by decide)) (by decide) (by decide) (by decide) (by decide)) ho (by omega) hpr2 hr1 hp1 rfl rfl rfl rfl ?_
          refine j_istore (ls' := [(8, _), (7, _), (0, _), (1, _), (2, _), (3, _), (4, _), (5, _), (6, _)]) d_Or_search_111 (by decide) rfl ?_
          refine j_aload_n d_Or_search_113 rfl rfl ?_
          refine j_aload_n d_Or_search_114 rfl rfl ?_
          refine j_iload_n d_Or_search_115 rfl rfl ?_
          refine j_iconst (v := 1) d_Or_search_116 rfl ?_
          refine j_iadd d_Or_search_117 ?_
          refine j_iload d_Or_search_118 rfl ?_
          refine j_iload d_Or_search_120 rfl ?_
          refine j_iload d_Or_search_122 rfl ?_
          refine j_iconst (v := 1) d_Or_search_124 rfl ?_
          refine j_iload d_Or_search_125 rfl ?_
          refine j_ishl d_Or_search_127 ?_
          refine j_ior d_Or_search_128 ?_
          refine q_v s_Or_search_129 rfl (Nat.le_of_ble_eq_true rfl) (Nat.le_of_ble_eq_true rfl) ?_
          have e7 : a_hb used i = false := by
            cases e8 : a_hb used i
            · rfl
            · exact absurd (t10.mp bq3 e8) (fun e5 => e5)
          refine ih (pre := pre ++ [i]) (used := used + 2 ^ i) (b := b1) (by simp; omega) (hD1.ex (A := [45]) (r_ex.rf.up (by decide)) (by decide) (by decide) (by decide) (by decide)) (hK1.ex (A := [45]) (r_ex.rf.up (by decide)) (by decide) (by decide) (by decide) (by decide)) hz1 hL1.app hpi ?_ ?_ (a_or hu (by omega) e7).2 ⟨hB1.1, hB1.2.1, hB1.2.2⟩ (by simp; exact nI_1 _) (by rw [a_ef_app]) (by rw [a_ef_app]) (a_orI hu (by omega) e7) (fun h2 q1 q0 q2 q3 => ?_)
          · rw [a_ef_app]
            have g9 := a_dn_le ho (t := (a_ef D K pre).1) (p := K.2.2.2.2.2.1 i) hpr2 hr1
            simp
            omega
          · rw [a_ef_app]
            show K.2.2.2.2.1 i < 10
            omega
          refine j_iinc (ls' := [(6, _), (8, _), (7, _), (0, _), (1, _), (2, _), (3, _), (4, _), (5, _)]) d_Or_search_132 rfl (by decide) rfl ?_
          refine j_goto (tgt := 43) d_Or_search_135 rfl ?_
          refine j_pick [3, 4, 5, 6, 7, 8, 0] (ls' := [(0, _), (1, _), (2, _), (3, _), (4, _), (5, _), (6, _)]) rfl ?_
          rw [List.range'_succ, List.flatMap_cons, a_fd_app] at hfd
          first
            | (have e8 : a_hb used i = true := Decidable.byContradiction (fun e6 => bq3 (t10.mpr e6))
               rw [if_pos e8] at hfd
               exact ke (i + 1) _ h1 b1 (by omega) (nI_inc i) hx1 hz1 hL1 hB1 hfd)
            | (rw [if_neg (by rw [e7]; decide)] at hfd
               exact ke (i + 1) _ h2 _ (by omega) (nI_inc i) (r_ex.tr (hx1.up (by decide)) q1 (fun _ q => q)) q0 q2.cut q3 hfd)
            | fail "none"
    refine r_C_of (by decide +kernel) (Nat.le_of_ble_eq_true rfl) ?_
    refine j_ls (ls' := [(0, _), (1, _), (2, _), (3, _), (4, _), (5, _)]) rfl ?_
    refine j_iload_n d_Or_search_0 rfl rfl ?_
    refine j_aload_n d_Or_search_1 rfl rfl ?_
    refine j_geti d_Or_search_2 f_Or_22 rfl rfl (by decide) ?_
    rw [hB.1]
    refine j_icmp_lt (tgt := 9) d_Or_search_5 rfl (fun bq1 => ?_) (fun bq1 => ?_)
    · refine j_iload_n d_Or_search_9 rfl rfl ?_
      refine j_aload_n d_Or_search_10 rfl rfl ?_
      refine j_geti d_Or_search_11 f_Or_18 rfl rfl (by decide) ?_
      refine j_icmp_ge (tgt := 23) d_Or_search_14 rfl (fun bq2 => False.elim (nI_ge (by omega) (by omega) (hz ▸ bq2))) (fun bq2 => ?_)
      refine j_iload_n d_Or_search_17 rfl rfl ?_
      refine j_bipush (v := 7) d_Or_search_18 (by decide) ?_
      refine j_icmp_lt (tgt := 40) d_Or_search_20 rfl (fun bq3 => ?_) (fun bq3 => False.elim (bq3 (nI_lt (b := 7) (by omega) (by omega))))
      refine j_iconst (v := 0) d_Or_search_40 rfl ?_
      refine j_istore (ls' := [(6, _), (0, _), (1, _), (2, _), (3, _), (4, _), (5, _)]) d_Or_search_41 (by decide) rfl ?_
      refine j_pick [1, 2, 3, 4, 5, 6, 0] (ls' := [(0, _), (1, _), (2, _), (3, _), (4, _), (5, _), (6, _)]) rfl ?_
      exact key n 0 _ h b (by omega) rfl r_ex.rf hz hL hB rfl
    · refine j_vret d_Or_search_8 rfl ?_
      have e9 : b.1 ≤ a_et D K pre := Decidable.byContradiction (fun e8 => bq1 (nI_lt (show (a_ef D K pre).1 < b.1 from Nat.lt_of_not_le e8) hB.2.1))
      refine ⟨rfl, hF _ r_ex.rf hz hL ?_⟩
      rw [a_fd_id (fun x hx => Nat.le_trans e9 (a_pc_le a_et_le n _ _ _ x hx))]
      exact hB
set_option maxRecDepth 100000 in
set_option maxHeartbeats 4000000 in
theorem c_Or_solve {G : r_X} {d : Nat} {h : r_HI} {p q : Nat} {z : r_HL} {F : r_HI → r_HR → r_HL → Prop} {D : a_D} (hD : p_D h 3 D) (ho : a_dok D) {K : a_K} (hK : p_K h 7 K) (hk : a_kok D K) (ht : K.1 < 2 ^ 20) (hF : ∀ h', r_ex [44, 45, 46] h h' → h' 44 2 = nI K.2.2.2.1 → p_B h' 44 3 46 K.2.2.2.1 (a_fd (a_et D K) (2147483647, []) (a_pc K.2.2.2.1 K.2.2.2.1 0 [])) → F h' (r_gp p q) z) : r_Cv G m_Or_solve (d + K.2.2.2.1 + 3) 61 [.ref (G.2.1 + 44), .ref (G.2.1 + 7)] 61 h (r_gp p q) z F := by
  have hn7 := hk.2.2.1
  refine r_C_of (by decide +kernel) (Nat.le_of_ble_eq_true rfl) ?_
  refine j_ls (ls' := [(0, _), (1, _)]) rfl ?_
  refine j_aload_n d_Or_solve_0 rfl rfl ?_
  refine j_aload_n d_Or_solve_1 rfl rfl ?_
  refine j_geti d_Or_solve_2 f_Or_25 rfl rfl (by decide) ?_
  refine j_bipush (v := 7) d_Or_solve_5 (by decide) ?_
  refine q_i s_Or_solve_7 rfl (Nat.le_of_ble_eq_true rfl) (Nat.le_of_ble_eq_true rfl) ?_
  rw [hK.1]
  refine c_Jm_min ?_
  rw [if_neg (show ¬ (7 : Int32) < nI K.2.2.2.1 from nI_nlt (a := 7) (by omega) (by omega))]
  refine j_puti d_Or_solve_10 f_Or_18 (by decide) rfl rfl (by decide) ?_
  refine j_aload_n d_Or_solve_13 rfl rfl ?_
  refine j_ldc d_Or_solve_14 k_Or_34 ?_
  refine j_puti d_Or_solve_16 f_Or_22 (by decide) rfl rfl (by decide) ?_
  refine j_aload_n d_Or_solve_19 rfl rfl ?_
  refine j_aload_n d_Or_solve_20 rfl rfl ?_
  refine j_iconst (v := 0) d_Or_solve_21 rfl ?_
  refine j_aload_n d_Or_solve_22 rfl rfl ?_
  refine j_geti d_Or_solve_23 f_Or_35 rfl rfl (by decide) ?_
  refine j_aload_n d_Or_solve_26 rfl rfl ?_
  refine j_geti d_Or_solve_27 f_Or_38 rfl rfl (by decide) ?_
  refine j_iconst (v := 0) d_Or_solve_30 rfl ?_
  refine q_v s_Or_solve_31 rfl (Nat.le_of_ble_eq_true rfl) (Nat.le_of_ble_eq_true rfl) ?_
  refine c_Or_search ho hk ht (n := K.2.2.2.1) rfl K.2.2.2.1 (pre := []) (b := (2147483647, [])) (used := 0) (by simp) (hD.ex (A := [44]) ((r_ex.rf.up (by decide)).up (by decide)) (by decide) (by decide) (by decide) (by decide)) (hK.ex (A := [44]) ((r_ex.rf.up (by decide)).up (by decide)) (by decide) (by decide) (by decide) (by decide)) rfl (fun i hi => absurd hi (Nat.not_lt_zero i)) (fun i hi => absurd hi (Nat.not_lt_zero i)) (Nat.le_refl _) hk.1 (by decide) ⟨rfl, by decide, Or.inl rfl⟩ rfl hK.2.1 hK.2.2.1 rfl (fun h2 q1 q0 q2 q3 => ?_)
  refine j_vret d_Or_solve_34 rfl ?_
  exact ⟨rfl, hF _ (r_ex.tr (A := [44, 45, 46]) ((r_ex.rf.up (by decide)).up (by decide)) q1 (fun _ q => q)) q0 q3⟩
