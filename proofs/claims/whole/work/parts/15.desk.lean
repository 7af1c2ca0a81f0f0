theorem a_rm_lt {f : Nat → Nat} {i j : Nat} (h : j < i) : a_rm f i j = f j := by simp [a_rm, h]
theorem a_rm_ge {f : Nat → Nat} {i j : Nat} (h : ¬ j < i) : a_rm f i j = f (j + 1) := by simp [a_rm, h]
theorem a_fo_ok {D : a_D} {K : a_K} {kd i : Nat} (ho : a_dok D) (hk : a_kok D K) (hi : i < K.2.2.2.1) : a_kok D (a_fo D K kd i) := by
  obtain ⟨h1, h2, h3, h4⟩ := hk
  have h10 := ho.1
  refine ⟨Nat.lt_of_lt_of_le (h4 i hi).1 h10, ?_, ?_, ?_⟩
  · show a_tw K kd i ≤ 1
    unfold a_tw
    split <;> omega
  · show K.2.2.2.1 - 1 ≤ 7
    omega
  · intro j hj
    have hj : j < K.2.2.2.1 - 1 := hj
    have hg : K.1 ≤ a_dn D K.1 K.2.1 (K.2.2.2.2.1 i) (K.2.2.2.2.2.1 i) := a_dn_ge
    show a_rm K.2.2.2.2.1 i j < D.1 ∧ a_rm K.2.2.2.2.2.1 i j < D.2.2.2.1 (a_rm K.2.2.2.2.1 i j) ∧ a_rm K.2.2.2.2.2.2 i j ≤ a_dn D K.1 K.2.1 (K.2.2.2.2.1 i) (K.2.2.2.2.2.1 i)
    by_cases e : j < i
    · rw [a_rm_lt e, a_rm_lt e, a_rm_lt e]
      obtain ⟨g1, g2, g3⟩ := h4 j (by omega)
      exact ⟨g1, g2, Nat.le_trans g3 hg⟩
    · rw [a_rm_ge e, a_rm_ge e, a_rm_ge e]
      obtain ⟨g1, g2, g3⟩ := h4 (j + 1) (by omega)
      exact ⟨g1, g2, Nat.le_trans g3 hg⟩
theorem a_wtI {D : a_D} {K : a_K} {i : Nat} (hk : a_kok D K) (hi : i < K.2.2.2.1) : nI (a_dn D K.1 K.2.1 (K.2.2.2.2.1 i) (K.2.2.2.2.2.1 i)) - nI (K.2.2.2.2.2.2 i) = nI (a_wt D K i) := by
  have h1 := (hk.2.2.2 i hi).2.2
  have h2 : K.1 ≤ a_dn D K.1 K.2.1 (K.2.2.2.2.1 i) (K.2.2.2.2.2.1 i) := a_dn_ge
  rw [pk_sub (by omega)]
  rfl
set_option maxRecDepth 100000 in
set_option maxHeartbeats 4000000 in
theorem c_Fi_turns {G : r_X} {d : Nat} {h : r_HI} {p q : Nat} {z : r_HL} {F : Int32 → r_HI → r_HR → r_HL → Prop} {a x : Nat} {y : Int32} (hF : F 0 h (r_gp p q) z) : r_Ci G m_Fi_turns (d) 61 [.ref a, .ref x, .int y] 61 h (r_gp p q) z F := by
  refine r_C_of (by decide +kernel) (Nat.le_of_ble_eq_true rfl) ?_
  refine j_ls (ls' := [(0, _), (1, _), (2, _)]) rfl ?_
  refine j_iconst (v := 0) d_Fi_turns_0 rfl ?_
  refine j_zret d_Fi_turns_1 rfl (by decide) ?_
  exact q_i1 hF rfl
set_option maxRecDepth 100000 in
set_option maxHeartbeats 4000000 in
theorem c_Ro_turns {G : r_X} {d : Nat} {h : r_HI} {p q : Nat} {z : r_HL} {F : Int32 → r_HI → r_HR → r_HL → Prop} {a x : Nat} {y : Int32} (hF : F 0 h (r_gp p q) z) : r_Ci G m_Ro_turns (d) 61 [.ref a, .ref x, .int y] 61 h (r_gp p q) z F := by
  refine r_C_of (by decide +kernel) (Nat.le_of_ble_eq_true rfl) ?_
  refine j_ls (ls' := [(0, _), (1, _), (2, _)]) rfl ?_
  refine j_iconst (v := 0) d_Ro_turns_0 rfl ?_
  refine j_zret d_Ro_turns_1 rfl (by decide) ?_
  exact q_i1 hF rfl
set_option maxRecDepth 100000 in
set_option maxHeartbeats 4000000 in
theorem c_Dk_append_7 {G : r_X} {d : Nat} {h : r_HI} {p q : Nat} {z : r_HL} {F : Int32 → r_HI → r_HR → r_HL → Prop} {D : a_D} (hD : p_D h 3 D) (ho : a_dok D) {K : a_K} (hK : p_K h 7 K) (hk : a_kok D K) {r w : Nat} {a1 a2 : Int32} (hn6 : K.2.2.2.1 < 7) (e1 : a1 = nI r) (e2 : a2 = nI w) (hF : ∀ h', r_ex [7, 8, 9, 10] h h' → p_K h' 7 (a_ask K r w) → h' 7 8 = h 7 8 → F (nI (K.2.2.2.1 + 1)) h' (r_gp p q) z) : r_Ci G m_Dk_append (d + 1) 61 [.ref (G.2.1 + 7), .int a1, .int a2] 61 h (r_gp p q) z F := by
  subst e1
  subst e2
  refine r_C_of (by decide +kernel) (Nat.le_of_ble_eq_true rfl) ?_
  refine j_ls (ls' := [(0, _), (1, _), (2, _)]) rfl ?_
  refine j_aload_n d_Dk_append_0 rfl rfl ?_
  refine j_geti d_Dk_append_1 f_Dk_21 rfl rfl (by decide) ?_
  refine j_bipush (v := 7) d_Dk_append_4 (by decide) ?_
  refine j_icmp_ge (tgt := 58) d_Dk_append_6 rfl (fun bq1 => False.elim (nI_ge (b := 7) (by omega) (by omega) (hK.1 ▸ bq1))) (fun bq1 => ?_)
  refine j_aload_n d_Dk_append_9 rfl rfl ?_
  refine j_getr d_Dk_append_10 f_Dk_9 rfl rfl (by decide) rfl ?_
  refine j_aload_n d_Dk_append_13 rfl rfl ?_
  refine j_geti d_Dk_append_14 f_Dk_21 rfl rfl (by decide) ?_
  refine j_iload_n d_Dk_append_17 rfl rfl ?_
  refine q_v s_Dk_append_18 rfl (Nat.le_of_ble_eq_true rfl) (Nat.le_of_ble_eq_true rfl) ?_
  refine c_Ra_put (j := K.2.2.2.1) rfl (by decide) hK.1 (by omega) ?_
  refine j_aload_n d_Dk_append_21 rfl rfl ?_
  refine j_getr d_Dk_append_22 f_Dk_15 rfl rfl (by decide) rfl ?_
  refine j_aload_n d_Dk_append_25 rfl rfl ?_
  refine j_geti d_Dk_append_26 f_Dk_21 rfl rfl (by decide) ?_
  refine j_iload_n d_Dk_append_29 rfl rfl ?_
  refine q_v s_Dk_append_30 rfl (Nat.le_of_ble_eq_true rfl) (Nat.le_of_ble_eq_true rfl) ?_
  refine c_Ra_put (j := K.2.2.2.1) rfl (by decide) hK.1 (by omega) ?_
  refine j_aload_n d_Dk_append_33 rfl rfl ?_
  refine j_getr d_Dk_append_34 f_Dk_18 rfl rfl (by decide) rfl ?_
  refine j_aload_n d_Dk_append_37 rfl rfl ?_
  refine j_geti d_Dk_append_38 f_Dk_21 rfl rfl (by decide) ?_
  refine j_aload_n d_Dk_append_41 rfl rfl ?_
  refine j_geti d_Dk_append_42 f_Dk_25 rfl rfl (by decide) ?_
  refine q_v s_Dk_append_45 rfl (Nat.le_of_ble_eq_true rfl) (Nat.le_of_ble_eq_true rfl) ?_
  refine c_Ra_put (j := K.2.2.2.1) rfl (by decide) hK.1 (by omega) ?_
  refine j_aload_n d_Dk_append_48 rfl rfl ?_
  refine j_dup d_Dk_append_49 rfl ?_
  refine j_geti d_Dk_append_50 f_Dk_21 rfl rfl (by decide) ?_
  refine j_iconst (v := 1) d_Dk_append_53 rfl ?_
  refine j_iadd d_Dk_append_54 ?_
  refine j_puti d_Dk_append_55 f_Dk_21 (by decide) rfl rfl (by decide) ?_
  refine j_aload_n d_Dk_append_58 rfl rfl ?_
  refine j_geti d_Dk_append_59 f_Dk_21 rfl rfl (by decide) ?_
  refine j_iret d_Dk_append_62 rfl ?_
  refine q_h1 (hF (r_up (r_up (r_up (r_up h 8 K.2.2.2.1 (nI r)) 9 K.2.2.2.1 (nI w)) 10 K.2.2.2.1 (nI K.1)) 7 4 (nI (K.2.2.2.1 + 1))) ?_ ?_ rfl) ?_ ?_
  · exact (((r_ex.rf.up (by decide)).up (by decide)).up (by decide)).up (by decide)
  · refine ⟨rfl, hK.2.1, hK.2.2.1, hK.2.2.2.1, fun i hi => ?_⟩
    by_cases e9 : i = K.2.2.2.1
    · subst e9
      refine ⟨?_, ?_, ?_⟩
      · simp [r_up, upd, a_ask, va_up]
      · simp [r_up, upd, a_ask, va_up]
      · simp [r_up, upd, a_ask, va_up]
    · have hi : i < K.2.2.2.1 + 1 := hi
      obtain ⟨g1, g2, g3⟩ := hK.2.2.2.2 i (by omega)
      refine ⟨?_, ?_, ?_⟩
      · simp [r_up, upd, a_ask, va_up, e9]; exact g1
      · simp [r_up, upd, a_ask, va_up, e9]; exact g2
      · simp [r_up, upd, a_ask, va_up, e9]; exact g3
  · show h 7 4 + 1 = _
    rw [hK.1, nI_1]
  · show r_up (r_up (r_up (r_up h 8 K.2.2.2.1 (nI r)) 9 K.2.2.2.1 (nI w)) 10 K.2.2.2.1 (h 7 5)) 7 4 (h 7 4 + 1) = _
    rw [hK.2.1, hK.1, nI_1]
set_option maxRecDepth 100000 in
set_option maxHeartbeats 4000000 in
theorem l_Dk_finish_7 {G : r_X} {d : Nat} {p q : Nat} {z : r_HL} {F : r_HI → r_HR → r_HL → Prop} {m : Nat} (hm : m ≤ 6) {x1 x2 : Int32} : ∀ (e j : Nat) (v : Int32) (h : r_HI), e + j = m → v = nI j → h 7 4 = nI m → F (r_3 h 7 (r_sh (h 8) j m) (r_sh (h 9) j m) (r_sh (h 10) j m)) (r_gp p q) z → r_TM G m_Dk_finish (d + 1) 61 61 (fun v h' g' z' => v = none ∧ F h' g' z') 85 [(0, .ref (G.2.1 + 7)), (1, .int x1), (2, .int x2), (3, .int v)] [] 61 h (r_gp p q) z := by
  intro e
  induction e with
  | zero =>
    intro j v h he hv hm4 hF
    subst hv
    refine j_iload_n d_Dk_finish_85 rfl rfl ?_
    refine j_aload_n d_Dk_finish_86 rfl rfl ?_
    refine j_geti d_Dk_finish_87 f_Dk_21 rfl rfl (by decide) ?_
    refine j_icmp_ge (tgt := 159) d_Dk_finish_90 rfl (fun bq1 => ?_) (fun bq1 => False.elim (bq1 (by rw [hm4]; exact nI_le (by omega) (by omega))))
    refine j_vret d_Dk_finish_159 rfl ?_
    refine q_v1 hF ?_
    have hjm : j = m := by omega
    subst hjm
    rw [r_sh_end, r_sh_end, r_sh_end]
    exact r_3_self.symm
  | succ e ih =>
    intro j v h he hv hm4 hF
    subst hv
    refine j_iload_n d_Dk_finish_85 rfl rfl ?_
    refine j_aload_n d_Dk_finish_86 rfl rfl ?_
    refine j_geti d_Dk_finish_87 f_Dk_21 rfl rfl (by decide) ?_
    refine j_icmp_ge (tgt := 159) d_Dk_finish_90 rfl (fun bq1 => False.elim (nI_ge (by omega) (by omega) (hm4 ▸ bq1))) (fun bq1 => ?_)
    refine j_iload_n d_Dk_finish_93 rfl rfl ?_
    refine j_bipush (v := 7) d_Dk_finish_94 (by decide) ?_
    refine j_icmp_ge (tgt := 159) d_Dk_finish_96 rfl (fun bq2 => False.elim (nI_ge (b := 7) (by omega) (by omega) bq2)) (fun bq2 => ?_)
    refine j_aload_n d_Dk_finish_99 rfl rfl ?_
    refine j_getr d_Dk_finish_100 f_Dk_9 rfl rfl (by decide) rfl ?_
    refine j_iload_n d_Dk_finish_103 rfl rfl ?_
    refine j_aload_n d_Dk_finish_104 rfl rfl ?_
    refine j_getr d_Dk_finish_105 f_Dk_9 rfl rfl (by decide) rfl ?_
    refine j_iload_n d_Dk_finish_108 rfl rfl ?_
    refine j_iconst (v := 1) d_Dk_finish_109 rfl ?_
    refine j_iadd d_Dk_finish_110 ?_
    refine q_i s_Dk_finish_111 rfl (Nat.le_of_ble_eq_true rfl) (Nat.le_of_ble_eq_true rfl) ?_
    refine c_Ra_av (v := h 8 (j + 1)) (j := j + 1) rfl (by decide) (nI_1 j) (by omega) rfl ?_
    refine q_v s_Dk_finish_114 rfl (Nat.le_of_ble_eq_true rfl) (Nat.le_of_ble_eq_true rfl) ?_
    refine c_Ra_put (j := j) rfl (by decide) rfl (by omega) ?_
    refine j_aload_n d_Dk_finish_117 rfl rfl ?_
    refine j_getr d_Dk_finish_118 f_Dk_15 rfl rfl (by decide) rfl ?_
    refine j_iload_n d_Dk_finish_121 rfl rfl ?_
    refine j_aload_n d_Dk_finish_122 rfl rfl ?_
    refine j_getr d_Dk_finish_123 f_Dk_15 rfl rfl (by decide) rfl ?_
    refine j_iload_n d_Dk_finish_126 rfl rfl ?_
    refine j_iconst (v := 1) d_Dk_finish_127 rfl ?_
    refine j_iadd d_Dk_finish_128 ?_
    refine q_i s_Dk_finish_129 rfl (Nat.le_of_ble_eq_true rfl) (Nat.le_of_ble_eq_true rfl) ?_
    refine c_Ra_av (v := h 9 (j + 1)) (j := j + 1) rfl (by decide) (nI_1 j) (by omega) rfl ?_
    refine q_v s_Dk_finish_132 rfl (Nat.le_of_ble_eq_true rfl) (Nat.le_of_ble_eq_true rfl) ?_
    refine c_Ra_put (j := j) rfl (by decide) rfl (by omega) ?_
    refine j_aload_n d_Dk_finish_135 rfl rfl ?_
    refine j_getr d_Dk_finish_136 f_Dk_18 rfl rfl (by decide) rfl ?_
    refine j_iload_n d_Dk_finish_139 rfl rfl ?_
    refine j_aload_n d_Dk_finish_140 rfl rfl ?_
    refine j_getr d_Dk_finish_141 f_Dk_18 rfl rfl (by decide) rfl ?_
    refine j_iload_n d_Dk_finish_144 rfl rfl ?_
    refine j_iconst (v := 1) d_Dk_finish_145 rfl ?_
    refine j_iadd d_Dk_finish_146 ?_
    refine q_i s_Dk_finish_147 rfl (Nat.le_of_ble_eq_true rfl) (Nat.le_of_ble_eq_true rfl) ?_
    refine c_Ra_av (v := h 10 (j + 1)) (j := j + 1) rfl (by decide) (nI_1 j) (by omega) rfl ?_
    refine q_v s_Dk_finish_150 rfl (Nat.le_of_ble_eq_true rfl) (Nat.le_of_ble_eq_true rfl) ?_
    refine c_Ra_put (j := j) rfl (by decide) rfl (by omega) ?_
    refine j_iinc (ls' := [(3, _), (0, _), (1, _), (2, _)]) d_Dk_finish_153 rfl (by decide) rfl ?_
    refine j_goto (tgt := 85) d_Dk_finish_156 rfl ?_
    refine j_pick [1, 2, 3, 0] (ls' := [(0, _), (1, _), (2, _), (3, _)]) rfl ?_
    refine ih (j + 1) _ (r_up (r_up (r_up h 8 j (h 8 (j + 1))) 9 j (h 9 (j + 1))) 10 j (h 10 (j + 1))) (by omega) (nI_inc j) hm4 ?_
    have e1 : (r_up (r_up (r_up h 8 j (h 8 (j + 1))) 9 j (h 9 (j + 1))) 10 j (h 10 (j + 1))) 8 = upd (h 8) j (h 8 (j + 1)) := rfl
    have e2 : (r_up (r_up (r_up h 8 j (h 8 (j + 1))) 9 j (h 9 (j + 1))) 10 j (h 10 (j + 1))) 9 = upd (h 9) j (h 9 (j + 1)) := rfl
    have e3 : (r_up (r_up (r_up h 8 j (h 8 (j + 1))) 9 j (h 9 (j + 1))) 10 j (h 10 (j + 1))) 10 = upd (h 10) j (h 10 (j + 1)) := rfl
    rw [e1, e2, e3, r_sh_step (by omega), r_sh_step (by omega), r_sh_step (by omega)]
    rw [r_3_eq (h := h) (fun a q1 q2 q3 => by rw [r_up_ne q3, r_up_ne q2, r_up_ne q1])]
    exact hF
set_option maxRecDepth 100000 in
set_option maxHeartbeats 4000000 in
theorem c_Dk_finish_7 {G : r_X} {d : Nat} {h : r_HI} {p q : Nat} {z : r_HL} {F : r_HI → r_HR → r_HL → Prop} {D : a_D} (hD : p_D h 3 D) (ho : a_dok D) {K : a_K} (hK : p_K h 7 K) (hk : a_kok D K) {i : Nat} {a1 : Int32} (ht : K.1 < 2 ^ 27) (hi : i < K.2.2.2.1) (e1 : a1 = nI i) (hF : ∀ h', r_ex [7, 8, 9, 10] h h' → p_K h' 7 (a_fin D K i) → h' 7 8 = h 7 8 + nI (a_wt D K i) → F h' (r_gp p q) z) : r_Cv G m_Dk_finish (d + 2) 61 [.ref (G.2.1 + 7), .int a1] 61 h (r_gp p q) z F := by
  subst e1
  have hri : h 8 i = nI (K.2.2.2.2.1 i) := (hK.2.2.2.2 i hi).1
  have hpi : h 9 i = nI (K.2.2.2.2.2.1 i) := (hK.2.2.2.2 i hi).2.1
  have hsi : h 10 i = nI (K.2.2.2.2.2.2 i) := (hK.2.2.2.2 i hi).2.2
  obtain ⟨ha10, hw1, hn7, hall⟩ := id hk
  obtain ⟨hr1, hp1, hs1⟩ := hall i hi
  have h10 := ho.1
  refine r_C_of (by decide +kernel) (Nat.le_of_ble_eq_true rfl) ?_
  refine j_ls (ls' := [(0, _), (1, _)]) rfl ?_
  refine j_aload_n d_Dk_finish_0 rfl rfl ?_
  refine j_iload_n d_Dk_finish_1 rfl rfl ?_
  refine q_i (s_Dk_finish_2 rfl (by decide)) rfl (Nat.le_of_ble_eq_true rfl) (Nat.le_of_ble_eq_true rfl) ?_
  refine c_Dk_has_7 ?_
  refine j_if_ne (tgt := 9) d_Dk_finish_5 rfl (fun bq1 => ?_) (fun bq1 => False.elim (t10.mp bq1 ⟨nI_pos' (by omega), by rw [hK.1]; exact nI_lt hi (by omega)⟩))
  refine j_aload_n d_Dk_finish_9 rfl rfl ?_
  refine j_getr d_Dk_finish_10 f_Dk_9 rfl rfl (by decide) rfl ?_
  refine j_iload_n d_Dk_finish_13 rfl rfl ?_
  refine q_i s_Dk_finish_14 rfl (Nat.le_of_ble_eq_true rfl) (Nat.le_of_ble_eq_true rfl) ?_
  refine c_Ra_av (j := i) rfl (by decide) rfl (by omega) hri ?_
  refine j_istore_n (ls' := [(2, _), (0, _), (1, _)]) d_Dk_finish_17 rfl (by decide) rfl ?_
  refine j_aload_n d_Dk_finish_18 rfl rfl ?_
  refine j_aload_n d_Dk_finish_19 rfl rfl ?_
  refine j_getr d_Dk_finish_20 f_Dk_38 rfl rfl (by decide) rfl ?_
  refine j_aload_n d_Dk_finish_23 rfl rfl ?_
  refine j_geti d_Dk_finish_24 f_Dk_25 rfl rfl (by decide) ?_
  refine j_aload_n d_Dk_finish_27 rfl rfl ?_
  refine j_geti d_Dk_finish_28 f_Dk_28 rfl rfl (by decide) ?_
  refine j_iload_n d_Dk_finish_31 rfl rfl ?_
  refine j_aload_n d_Dk_finish_32 rfl rfl ?_
  refine j_getr d_Dk_finish_33 f_Dk_15 rfl rfl (by decide) rfl ?_
  refine j_iload_n d_Dk_finish_36 rfl rfl ?_
  refine q_i s_Dk_finish_37 rfl (Nat.le_of_ble_eq_true rfl) (Nat.le_of_ble_eq_true rfl) ?_
  refine c_Ra_av (j := i) rfl (by decide) rfl (by omega) hpi ?_
  refine q_i (s_Dk_finish_40 rfl (by decide)) rfl (Nat.le_of_ble_eq_true rfl) (Nat.le_of_ble_eq_true rfl) ?_
  refine c_Di_doneAt hD ho ht ha10 hr1 hp1 hK.2.1 hK.2.2.1 rfl rfl ?_
  refine j_puti d_Dk_finish_43 f_Dk_25 (by decide) rfl rfl (by decide) ?_
  refine j_aload_n d_Dk_finish_46 rfl rfl ?_
  refine j_iload_n d_Dk_finish_47 rfl rfl ?_
  refine j_puti d_Dk_finish_48 f_Dk_28 (by decide) rfl rfl (by decide) ?_
  refine j_aload_n d_Dk_finish_51 rfl rfl ?_
  refine j_dup d_Dk_finish_52 rfl ?_
  refine j_geti d_Dk_finish_53 f_Dk_35 rfl rfl (by decide) ?_
  refine j_aload_n d_Dk_finish_56 rfl rfl ?_
  refine j_geti d_Dk_finish_57 f_Dk_25 rfl rfl (by decide) ?_
  refine j_aload_n d_Dk_finish_60 rfl rfl ?_
  refine j_getr d_Dk_finish_61 f_Dk_18 rfl rfl (by decide) rfl ?_
  refine j_iload_n d_Dk_finish_64 rfl rfl ?_
  refine q_i s_Dk_finish_65 rfl (Nat.le_of_ble_eq_true rfl) (Nat.le_of_ble_eq_true rfl) ?_
  refine c_Ra_av (v := h 10 i) (j := i) rfl (by decide) rfl (by omega) rfl ?_
  refine j_isub d_Dk_finish_68 ?_
  refine j_iadd d_Dk_finish_69 ?_
  refine j_puti d_Dk_finish_70 f_Dk_35 (by decide) rfl rfl (by decide) ?_
  refine j_aload_n d_Dk_finish_73 rfl rfl ?_
  refine j_dup d_Dk_finish_74 rfl ?_
  refine j_geti d_Dk_finish_75 f_Dk_21 rfl rfl (by decide) ?_
  refine j_iconst (v := 1) d_Dk_finish_78 rfl ?_
  refine j_isub d_Dk_finish_79 ?_
  refine j_puti d_Dk_finish_80 f_Dk_21 (by decide) rfl rfl (by decide) ?_
  refine j_h (h' := r_up (r_up (r_up (r_up h 7 5 (nI (a_dn D K.1 K.2.1 (K.2.2.2.2.1 i) (K.2.2.2.2.2.1 i)))) 7 6 (nI (K.2.2.2.2.1 i))) 7 8 (h 7 8 + nI (a_wt D K i))) 7 4 (nI (K.2.2.2.1 - 1))) ?_ ?_
  · show r_up (r_up (r_up (r_up h 7 5 (nI (a_dn D K.1 K.2.1 (K.2.2.2.2.1 i) (K.2.2.2.2.2.1 i)))) 7 6 (nI (K.2.2.2.2.1 i))) 7 8 (h 7 8 + (nI (a_dn D K.1 K.2.1 (K.2.2.2.2.1 i) (K.2.2.2.2.2.1 i)) - h 10 i))) 7 4 (h 7 4 - nI 1) = _
    rw [hsi, a_wtI hk hi, hK.1, pk_sub (by omega)]
  refine j_iload_n d_Dk_finish_83 rfl rfl ?_
  refine j_istore_n (ls' := [(3, _), (2, _), (0, _), (1, _)]) d_Dk_finish_84 rfl (by decide) rfl ?_
  refine j_pick [2, 3, 1, 0] (ls' := [(0, _), (1, _), (2, _), (3, _)]) rfl ?_
  refine l_Dk_finish_7 (m := K.2.2.2.1 - 1) (by omega) (K.2.2.2.1 - 1 - i) i _ _ (by omega) rfl rfl ?_
  refine hF _ ?_ ?_ ?_
  · intro a ha
    simp only [List.mem_cons, List.not_mem_nil, or_false, not_or] at ha
    rw [r_3_ne ha.2.1 ha.2.2.1 ha.2.2.2, r_up_ne ha.1, r_up_ne ha.1, r_up_ne ha.1, r_up_ne ha.1]
  · refine ⟨rfl, rfl, rfl, hK.2.2.2.1, fun x hx => ?_⟩
    have hx : x < K.2.2.2.1 - 1 := hx
    show r_sh (h 8) i (K.2.2.2.1 - 1) x = nI (a_rm K.2.2.2.2.1 i x) ∧ r_sh (h 9) i (K.2.2.2.1 - 1) x = nI (a_rm K.2.2.2.2.2.1 i x) ∧ r_sh (h 10) i (K.2.2.2.1 - 1) x = nI (a_rm K.2.2.2.2.2.2 i x)
    by_cases e9 : x < i
    · obtain ⟨g1, g2, g3⟩ := hK.2.2.2.2 x (by omega)
      rw [a_rm_lt e9, a_rm_lt e9, a_rm_lt e9]
      simp only [r_sh]
      rw [if_neg (by omega), if_neg (by omega), if_neg (by omega)]
      exact ⟨g1, g2, g3⟩
    · obtain ⟨g1, g2, g3⟩ := hK.2.2.2.2 (x + 1) (by omega)
      rw [a_rm_ge e9, a_rm_ge e9, a_rm_ge e9]
      simp only [r_sh]
      rw [if_pos (by omega), if_pos (by omega), if_pos (by omega)]
      exact ⟨g1, g2, g3⟩
  · rfl
set_option maxRecDepth 100000 in
set_option maxHeartbeats 4000000 in
theorem c_Dk_append_40 {G : r_X} {d : Nat} {h : r_HI} {p q : Nat} {z : r_HL} {F : Int32 → r_HI → r_HR → r_HL → Prop} {D : a_D} (hD : p_D h 3 D) (ho : a_dok D) {K : a_K} (hK : p_K h 40 K) (hk : a_kok D K) {r w : Nat} {a1 a2 : Int32} (hn6 : K.2.2.2.1 < 7) (e1 : a1 = nI r) (e2 : a2 = nI w) (hF : ∀ h', r_ex [40, 41, 42, 43] h h' → p_K h' 40 (a_ask K r w) → h' 40 8 = h 40 8 → F (nI (K.2.2.2.1 + 1)) h' (r_gp p q) z) : r_Ci G m_Dk_append (d + 1) 61 [.ref (G.2.1 + 40), .int a1, .int a2] 61 h (r_gp p q) z F := by
  subst e1
  subst e2
  refine r_C_of (by decide +kernel) (Nat.le_of_ble_eq_true rfl) ?_
  refine j_ls (ls' := [(0, _), (1, _), (2, _)]) rfl ?_
  refine j_aload_n d_Dk_append_0 rfl rfl ?_
  refine j_geti d_Dk_append_1 f_Dk_21 rfl rfl (by decide) ?_
  refine j_bipush (v := 7) d_Dk_append_4 (by decide) ?_
  refine j_icmp_ge (tgt := 58) d_Dk_append_6 rfl (fun bq1 => False.elim (nI_ge (b := 7) (by omega) (by omega) (hK.1 ▸ bq1))) (fun bq1 => ?_)
  refine j_aload_n d_Dk_append_9 rfl rfl ?_
  refine j_getr d_Dk_append_10 f_Dk_9 rfl rfl (by decide) rfl ?_
  refine j_aload_n d_Dk_append_13 rfl rfl ?_
  refine j_geti d_Dk_append_14 f_Dk_21 rfl rfl (by decide) ?_
  refine j_iload_n d_Dk_append_17 rfl rfl ?_
  refine q_v s_Dk_append_18 rfl (Nat.le_of_ble_eq_true rfl) (Nat.le_of_ble_eq_true rfl) ?_
  refine c_Ra_put (j := K.2.2.2.1) rfl (by decide) hK.1 (by omega) ?_
  refine j_aload_n d_Dk_append_21 rfl rfl ?_
  refine j_getr d_Dk_append_22 f_Dk_15 rfl rfl (by decide) rfl ?_
  refine j_aload_n d_Dk_append_25 rfl rfl ?_
  refine j_geti d_Dk_append_26 f_Dk_21 rfl rfl (by decide) ?_
  refine j_iload_n d_Dk_append_29 rfl rfl ?_
  refine q_v s_Dk_append_30 rfl (Nat.le_of_ble_eq_true rfl) (Nat.le_of_ble_eq_true rfl) ?_
  refine c_Ra_put (j := K.2.2.2.1) rfl (by decide) hK.1 (by omega) ?_
  refine j_aload_n d_Dk_append_33 rfl rfl ?_
  refine j_getr d_Dk_append_34 f_Dk_18 rfl rfl (by decide) rfl ?_
  refine j_aload_n d_Dk_append_37 rfl rfl ?_
  refine j_geti d_Dk_append_38 f_Dk_21 rfl rfl (by decide) ?_
  refine j_aload_n d_Dk_append_41 rfl rfl ?_
  refine j_geti d_Dk_append_42 f_Dk_25 rfl rfl (by decide) ?_
  refine q_v s_Dk_append_45 rfl (Nat.le_of_ble_eq_true rfl) (Nat.le_of_ble_eq_true rfl) ?_
  refine c_Ra_put (j := K.2.2.2.1) rfl (by decide) hK.1 (by omega) ?_
  refine j_aload_n d_Dk_append_48 rfl rfl ?_
  refine j_dup d_Dk_append_49 rfl ?_
  refine j_geti d_Dk_append_50 f_Dk_21 rfl rfl (by decide) ?_
  refine j_iconst (v := 1) d_Dk_append_53 rfl ?_
  refine j_iadd d_Dk_append_54 ?_
  refine j_puti d_Dk_append_55 f_Dk_21 (by decide) rfl rfl (by decide) ?_
  refine j_aload_n d_Dk_append_58 rfl rfl ?_
  refine j_geti d_Dk_append_59 f_Dk_21 rfl rfl (by decide) ?_
  refine j_iret d_Dk_append_62 rfl ?_
  refine q_h1 (hF (r_up (r_up (r_up (r_up h 41 K.2.2.2.1 (nI r)) 42 K.2.2.2.1 (nI w)) 43 K.2.2.2.1 (nI K.1)) 40 4 (nI (K.2.2.2.1 + 1))) ?_ ?_ rfl) ?_ ?_
  · exact (((r_ex.rf.up (by decide)).up (by decide)).up (by decide)).up (by decide)
  · refine ⟨rfl, hK.2.1, hK.2.2.1, hK.2.2.2.1, fun i hi => ?_⟩
    by_cases e9 : i = K.2.2.2.1
    · subst e9
      refine ⟨?_, ?_, ?_⟩
      · simp [r_up, upd, a_ask, va_up]
      · simp [r_up, upd, a_ask, va_up]
      · simp [r_up, upd, a_ask, va_up]
    · have hi : i < K.2.2.2.1 + 1 := hi
      obtain ⟨g1, g2, g3⟩ := hK.2.2.2.2 i (by omega)
      refine ⟨?_, ?_, ?_⟩
      · simp [r_up, upd, a_ask, va_up, e9]; exact g1
      · simp [r_up, upd, a_ask, va_up, e9]; exact g2
      · simp [r_up, upd, a_ask, va_up, e9]; exact g3
  · show h 40 4 + 1 = _
    rw [hK.1, nI_1]
  · show r_up (r_up (r_up (r_up h 41 K.2.2.2.1 (nI r)) 42 K.2.2.2.1 (nI w)) 43 K.2.2.2.1 (h 40 5)) 40 4 (h 40 4 + 1) = _
    rw [hK.2.1, hK.1, nI_1]
set_option maxRecDepth 100000 in
set_option maxHeartbeats 4000000 in
theorem l_Dk_finish_40 {G : r_X} {d : Nat} {p q : Nat} {z : r_HL} {F : r_HI → r_HR → r_HL → Prop} {m : Nat} (hm : m ≤ 6) {x1 x2 : Int32} : ∀ (e j : Nat) (v : Int32) (h : r_HI), e + j = m → v = nI j → h 40 4 = nI m → F (r_3 h 40 (r_sh (h 41) j m) (r_sh (h 42) j m) (r_sh (h 43) j m)) (r_gp p q) z → r_TM G m_Dk_finish (d + 1) 61 61 (fun v h' g' z' => v = none ∧ F h' g' z') 85 [(0, .ref (G.2.1 + 40)), (1, .int x1), (2, .int x2), (3, .int v)] [] 61 h (r_gp p q) z := by
  intro e
  induction e with
  | zero =>
    intro j v h he hv hm4 hF
    subst hv
    refine j_iload_n d_Dk_finish_85 rfl rfl ?_
    refine j_aload_n d_Dk_finish_86 rfl rfl ?_
    refine j_geti d_Dk_finish_87 f_Dk_21 rfl rfl (by decide) ?_
    refine j_icmp_ge (tgt := 159) d_Dk_finish_90 rfl (fun bq1 => ?_) (fun bq1 => False.elim (bq1 (by rw [hm4]; exact nI_le (by omega) (by omega))))
    refine j_vret d_Dk_finish_159 rfl ?_
    refine q_v1 hF ?_
    have hjm : j = m := by omega
    subst hjm
    rw [r_sh_end, r_sh_end, r_sh_end]
    exact r_3_self.symm
  | succ e ih =>
    intro j v h he hv hm4 hF
    subst hv
    refine j_iload_n d_Dk_finish_85 rfl rfl ?_
    refine j_aload_n d_Dk_finish_86 rfl rfl ?_
    refine j_geti d_Dk_finish_87 f_Dk_21 rfl rfl (by decide) ?_
    refine j_icmp_ge (tgt := 159) d_Dk_finish_90 rfl (fun bq1 => False.elim (nI_ge (by omega) (by omega) (hm4 ▸ bq1))) (fun bq1 => ?_)
    refine j_iload_n d_Dk_finish_93 rfl rfl ?_
    refine j_bipush (v := 7) d_Dk_finish_94 (by decide) ?_
    refine j_icmp_ge (tgt := 159) d_Dk_finish_96 rfl (fun bq2 => False.elim (nI_ge (b := 7) (by omega) (by omega) bq2)) (fun bq2 => ?_)
    refine j_aload_n d_Dk_finish_99 rfl rfl ?_
    refine j_getr d_Dk_finish_100 f_Dk_9 rfl rfl (by decide) rfl ?_
    refine j_iload_n d_Dk_finish_103 rfl rfl ?_
    refine j_aload_n d_Dk_finish_104 rfl rfl ?_
    refine j_getr d_Dk_finish_105 f_Dk_9 rfl rfl (by decide) rfl ?_
    refine j_iload_n d_Dk_finish_108 rfl rfl ?_
    refine j_iconst (v := 1) d_Dk_finish_109 rfl ?_
    refine j_iadd d_Dk_finish_110 ?_
    refine q_i s_Dk_finish_111 rfl (Nat.le_of_ble_eq_true rfl) (Nat.le_of_ble_eq_true rfl) ?_
    refine c_Ra_av (v := h 41 (j + 1)) (j := j + 1) rfl (by decide) (nI_1 j) (by omega) rfl ?_
    refine q_v s_Dk_finish_114 rfl (Nat.le_of_ble_eq_true rfl) (Nat.le_of_ble_eq_true rfl) ?_
    refine c_Ra_put (j := j) rfl (by decide) rfl (by omega) ?_
    refine j_aload_n d_Dk_finish_117 rfl rfl ?_
    refine j_getr d_Dk_finish_118 f_Dk_15 rfl rfl (by decide) rfl ?_
    refine j_iload_n d_Dk_finish_121 rfl rfl ?_
    refine j_aload_n d_Dk_finish_122 rfl rfl ?_
    refine j_getr d_Dk_finish_123 f_Dk_15 rfl rfl (by decide) rfl ?_
    refine j_iload_n d_Dk_finish_126 rfl rfl ?_
    refine j_iconst (v := 1) d_Dk_finish_127 rfl ?_
    refine j_iadd d_Dk_finish_128 ?_
    refine q_i s_Dk_finish_129 rfl (Nat.le_of_ble_eq_true rfl) (Nat.le_of_ble_eq_true rfl) ?_
    refine c_Ra_av (v := h 42 (j + 1)) (j := j + 1) rfl (by decide) (nI_1 j) (by omega) rfl ?_
    refine q_v s_Dk_finish_132 rfl (Nat.le_of_ble_eq_true rfl) (Nat.le_of_ble_eq_true rfl) ?_
    refine c_Ra_put (j := j) rfl (by decide) rfl (by omega) ?_
    refine j_aload_n d_Dk_finish_135 rfl rfl ?_
    refine j_getr d_Dk_finish_136 f_Dk_18 rfl rfl (by decide) rfl ?_
    refine j_iload_n d_Dk_finish_139 rfl rfl ?_
    refine j_aload_n d_Dk_finish_140 rfl rfl ?_
    refine j_getr d_Dk_finish_141 f_Dk_18 rfl rfl (by decide) rfl ?_
    refine j_iload_n d_Dk_finish_144 rfl rfl ?_
    refine j_iconst (v := 1) d_Dk_finish_145 rfl ?_
    refine j_iadd d_Dk_finish_146 ?_
    refine q_i s_Dk_finish_147 rfl (Nat.le_of_ble_eq_true rfl) (Nat.le_of_ble_eq_true rfl) ?_
    refine c_Ra_av (v := h 43 (j + 1)) (j := j + 1) rfl (by decide) (nI_1 j) (by omega) rfl ?_
    refine q_v s_Dk_finish_150 rfl (Nat.le_of_ble_eq_true rfl) (Nat.le_of_ble_eq_true rfl) ?_
    refine c_Ra_put (j := j) rfl (by decide) rfl (by omega) ?_
    refine j_iinc (ls' := [(3, _), (0, _), (1, _), (2, _)]) d_Dk_finish_153 rfl (by decide) rfl ?_
    refine j_goto (tgt := 85) d_Dk_finish_156 rfl ?_
    refine j_pick [1, 2, 3, 0] (ls' := [(0, _), (1, _), (2, _), (3, _)]) rfl ?_
    refine ih (j + 1) _ (r_up (r_up (r_up h 41 j (h 41 (j + 1))) 42 j (h 42 (j + 1))) 43 j (h 43 (j + 1))) (by omega) (nI_inc j) hm4 ?_
    have e1 : (r_up (r_up (r_up h 41 j (h 41 (j + 1))) 42 j (h 42 (j + 1))) 43 j (h 43 (j + 1))) 41 = upd (h 41) j (h 41 (j + 1)) := rfl
    have e2 : (r_up (r_up (r_up h 41 j (h 41 (j + 1))) 42 j (h 42 (j + 1))) 43 j (h 43 (j + 1))) 42 = upd (h 42) j (h 42 (j + 1)) := rfl
    have e3 : (r_up (r_up (r_up h 41 j (h 41 (j + 1))) 42 j (h 42 (j + 1))) 43 j (h 43 (j + 1))) 43 = upd (h 43) j (h 43 (j + 1)) := rfl
    rw [e1, e2, e3, r_sh_step (by omega), r_sh_step (by omega), r_sh_step (by omega)]
    rw [r_3_eq (h := h) (fun a q1 q2 q3 => by rw [r_up_ne q3, r_up_ne q2, r_up_ne q1])]
    exact hF
set_option maxRecDepth 100000 in
set_option maxHeartbeats 4000000 in
theorem c_Dk_finish_40 {G : r_X} {d : Nat} {h : r_HI} {p q : Nat} {z : r_HL} {F : r_HI → r_HR → r_HL → Prop} {D : a_D} (hD : p_D h 3 D) (ho : a_dok D) {K : a_K} (hK : p_K h 40 K) (hk : a_kok D K) {i : Nat} {a1 : Int32} (ht : K.1 < 2 ^ 27) (hi : i < K.2.2.2.1) (e1 : a1 = nI i) (hF : ∀ h', r_ex [40, 41, 42, 43] h h' → p_K h' 40 (a_fin D K i) → h' 40 8 = h 40 8 + nI (a_wt D K i) → F h' (r_gp p q) z) : r_Cv G m_Dk_finish (d + 2) 61 [.ref (G.2.1 + 40), .int a1] 61 h (r_gp p q) z F := by
  subst e1
  have hri : h 41 i = nI (K.2.2.2.2.1 i) := (hK.2.2.2.2 i hi).1
  have hpi : h 42 i = nI (K.2.2.2.2.2.1 i) := (hK.2.2.2.2 i hi).2.1
  have hsi : h 43 i = nI (K.2.2.2.2.2.2 i) := (hK.2.2.2.2 i hi).2.2
  obtain ⟨ha10, hw1, hn7, hall⟩ := id hk
  obtain ⟨hr1, hp1, hs1⟩ := hall i hi
  have h10 := ho.1
  refine r_C_of (by decide +kernel) (Nat.le_of_ble_eq_true rfl) ?_
  refine j_ls (ls' := [(0, _), (1, _)]) rfl ?_
  refine j_aload_n d_Dk_finish_0 rfl rfl ?_
  refine j_iload_n d_Dk_finish_1 rfl rfl ?_
  refine q_i (s_Dk_finish_2 rfl (by decide)) rfl (Nat.le_of_ble_eq_true rfl) (Nat.le_of_ble_eq_true rfl) ?_
  refine c_Dk_has_40 ?_
  refine j_if_ne (tgt := 9) d_Dk_finish_5 rfl (fun bq1 => ?_) (fun bq1 => False.elim (t10.mp bq1 ⟨nI_pos' (by omega), by rw [hK.1]; exact nI_lt hi (by omega)⟩))
  refine j_aload_n d_Dk_finish_9 rfl rfl ?_
  refine j_getr d_Dk_finish_10 f_Dk_9 rfl rfl (by decide) rfl ?_
  refine j_iload_n d_Dk_finish_13 rfl rfl ?_
  refine q_i s_Dk_finish_14 rfl (Nat.le_of_ble_eq_true rfl) (Nat.le_of_ble_eq_true rfl) ?_
  refine c_Ra_av (j := i) rfl (by decide) rfl (by omega) hri ?_
  refine j_istore_n (ls' := [(2, _), (0, _), (1, _)]) d_Dk_finish_17 rfl (by decide) rfl ?_
  refine j_aload_n d_Dk_finish_18 rfl rfl ?_
  refine j_aload_n d_Dk_finish_19 rfl rfl ?_
  refine j_getr d_Dk_finish_20 f_Dk_38 rfl rfl (by decide) rfl ?_
  refine j_aload_n d_Dk_finish_23 rfl rfl ?_
  refine j_geti d_Dk_finish_24 f_Dk_25 rfl rfl (by decide) ?_
  refine j_aload_n d_Dk_finish_27 rfl rfl ?_
  refine j_geti d_Dk_finish_28 f_Dk_28 rfl rfl (by decide) ?_
  refine j_iload_n d_Dk_finish_31 rfl rfl ?_
  refine j_aload_n d_Dk_finish_32 rfl rfl ?_
  refine j_getr d_Dk_finish_33 f_Dk_15 rfl rfl (by decide) rfl ?_
  refine j_iload_n d_Dk_finish_36 rfl rfl ?_
  refine q_i s_Dk_finish_37 rfl (Nat.le_of_ble_eq_true rfl) (Nat.le_of_ble_eq_true rfl) ?_
  refine c_Ra_av (j := i) rfl (by decide) rfl (by omega) hpi ?_
  refine q_i (s_Dk_finish_40 rfl (by decide)) rfl (Nat.le_of_ble_eq_true rfl) (Nat.le_of_ble_eq_true rfl) ?_
  refine c_Di_doneAt hD ho ht ha10 hr1 hp1 hK.2.1 hK.2.2.1 rfl rfl ?_
  refine j_puti d_Dk_finish_43 f_Dk_25 (by decide) rfl rfl (by decide) ?_
  refine j_aload_n d_Dk_finish_46 rfl rfl ?_
  refine j_iload_n d_Dk_finish_47 rfl rfl ?_
  refine j_puti d_Dk_finish_48 f_Dk_28 (by decide) rfl rfl (by decide) ?_
  refine j_aload_n d_Dk_finish_51 rfl rfl ?_
  refine j_dup d_Dk_finish_52 rfl ?_
  refine j_geti d_Dk_finish_53 f_Dk_35 rfl rfl (by decide) ?_
  refine j_aload_n d_Dk_finish_56 rfl rfl ?_
  refine j_geti d_Dk_finish_57 f_Dk_25 rfl rfl (by decide) ?_
  refine j_aload_n d_Dk_finish_60 rfl rfl ?_
  refine j_getr d_Dk_finish_61 f_Dk_18 rfl rfl (by decide) rfl ?_
  refine j_iload_n d_Dk_finish_64 rfl rfl ?_
  refine q_i s_Dk_finish_65 rfl (Nat.le_of_ble_eq_true rfl) (Nat.le_of_ble_eq_true rfl) ?_
  refine c_Ra_av (v := h 43 i) (j := i) rfl (by decide) rfl (by omega) rfl ?_
  refine j_isub d_Dk_finish_68 ?_
  refine j_iadd d_Dk_finish_69 ?_
  refine j_puti d_Dk_finish_70 f_Dk_35 (by decide) rfl rfl (by decide) ?_
  refine j_aload_n d_Dk_finish_73 rfl rfl ?_
  refine j_dup d_Dk_finish_74 rfl ?_
  refine j_geti d_Dk_finish_75 f_Dk_21 rfl rfl (by decide) ?_
  refine j_iconst (v := 1) d_Dk_finish_78 rfl ?_
  refine j_isub d_Dk_finish_79 ?_
  refine j_puti d_Dk_finish_80 f_Dk_21 (by decide) rfl rfl (by decide) ?_
  refine j_h (h' := r_up (r_up (r_up (r_up h 40 5 (nI (a_dn D K.1 K.2.1 (K.2.2.2.2.1 i) (K.2.2.2.2.2.1 i)))) 40 6 (nI (K.2.2.2.2.1 i))) 40 8 (h 40 8 + nI (a_wt D K i))) 40 4 (nI (K.2.2.2.1 - 1))) ?_ ?_
  · show r_up (r_up (r_up (r_up h 40 5 (nI (a_dn D K.1 K.2.1 (K.2.2.2.2.1 i) (K.2.2.2.2.2.1 i)))) 40 6 (nI (K.2.2.2.2.1 i))) 40 8 (h 40 8 + (nI (a_dn D K.1 K.2.1 (K.2.2.2.2.1 i) (K.2.2.2.2.2.1 i)) - h 43 i))) 40 4 (h 40 4 - nI 1) = _
    rw [hsi, a_wtI hk hi, hK.1, pk_sub (by omega)]
  refine j_iload_n d_Dk_finish_83 rfl rfl ?_
  refine j_istore_n (ls' := [(3, _), (2, _), (0, _), (1, _)]) d_Dk_finish_84 rfl (by decide) rfl ?_
  refine j_pick [2, 3, 1, 0] (ls' := [(0, _), (1, _), (2, _), (3, _)]) rfl ?_
  refine l_Dk_finish_40 (m := K.2.2.2.1 - 1) (by omega) (K.2.2.2.1 - 1 - i) i _ _ (by omega) rfl rfl ?_
  refine hF _ ?_ ?_ ?_
  · intro a ha
    simp only [List.mem_cons, List.not_mem_nil, or_false, not_or] at ha
    rw [r_3_ne ha.2.1 ha.2.2.1 ha.2.2.2, r_up_ne ha.1, r_up_ne ha.1, r_up_ne ha.1, r_up_ne ha.1]
  · refine ⟨rfl, rfl, rfl, hK.2.2.2.1, fun x hx => ?_⟩
    have hx : x < K.2.2.2.1 - 1 := hx
    show r_sh (h 41) i (K.2.2.2.1 - 1) x = nI (a_rm K.2.2.2.2.1 i x) ∧ r_sh (h 42) i (K.2.2.2.1 - 1) x = nI (a_rm K.2.2.2.2.2.1 i x) ∧ r_sh (h 43) i (K.2.2.2.1 - 1) x = nI (a_rm K.2.2.2.2.2.2 i x)
    by_cases e9 : x < i
    · obtain ⟨g1, g2, g3⟩ := hK.2.2.2.2 x (by omega)
      rw [a_rm_lt e9, a_rm_lt e9, a_rm_lt e9]
      simp only [r_sh]
      rw [if_neg (by omega), if_neg (by omega), if_neg (by omega)]
      exact ⟨g1, g2, g3⟩
    · obtain ⟨g1, g2, g3⟩ := hK.2.2.2.2 (x + 1) (by omega)
      rw [a_rm_ge e9, a_rm_ge e9, a_rm_ge e9]
      simp only [r_sh]
      rw [if_pos (by omega), if_pos (by omega), if_pos (by omega)]
      exact ⟨g1, g2, g3⟩
  · rfl
