set_option maxRecDepth 100000 in
set_option maxHeartbeats 4000000 in
theorem l_ls1 {G : r_X} {d : Nat} {h : r_HI} {p q : Nat} {z : r_HL} {F : r_HI → r_HR → r_HL → Prop} (kk : (∀ h' v, r_ey [53] [] h h' → (∀ j, j < 896 → h' 53 j = nI 1000000) → r_TM G m_Mo_laySoonest (d + 2) 61 61 (fun v h' g' z' => v = none ∧ F h' g' z') 23 [(0, .ref (G.2.1 + 47)), (1, .int v)] [] 61 h' (r_gp p q) z)) : ∀ (e k : Nat) (v : Int32) (h1 : r_HI), e + k = 896 → v = nI k → r_ey [53] [] h h1 → (∀ j, j < k → h1 53 j = nI 1000000) → r_TM G m_Mo_laySoonest (d + 2) 61 61 (fun v h' g' z' => v = none ∧ F h' g' z') 2 [(0, .ref (G.2.1 + 47)), (1, .int v)] [] 61 h1 (r_gp p q) z := by
  intro e
  induction e with
  | zero =>
    intro k v h1 he hv hy hr
    subst hv
    refine j_iload_n d_Mo_laySoonest_2 rfl rfl ?_
    refine j_sipush (v := 896) d_Mo_laySoonest_3 (by decide) ?_
    refine j_icmp_ge (tgt := 23) d_Mo_laySoonest_6 rfl (fun bq1 => ?_) (fun bq1 => False.elim (bq1 (nI_le (a := 896) (by omega) (by omega))))
    have e0 : k = 896 := by omega
    subst e0
    exact kk _ _ hy hr
  | succ e ih =>
    intro k v h1 he hv hy hr
    subst hv
    refine j_iload_n d_Mo_laySoonest_2 rfl rfl ?_
    refine j_sipush (v := 896) d_Mo_laySoonest_3 (by decide) ?_
    refine j_icmp_ge (tgt := 23) d_Mo_laySoonest_6 rfl (fun bq1 => False.elim (nI_ge (b := 896) (by omega) (by omega) bq1)) (fun bq1 => ?_)
    refine j_aload_n d_Mo_laySoonest_9 rfl rfl ?_
    refine j_getr d_Mo_laySoonest_10 f_Mo_25 rfl rfl (by decide) rfl ?_
    refine j_iload_n d_Mo_laySoonest_13 rfl rfl ?_
    refine j_ldc d_Mo_laySoonest_14 k_Mo_216 ?_
    refine j_iap d_Mo_laySoonest_16 rfl (by decide) (j := k) (rfl) (by omega) (by decide) ?_
    refine j_iinc (ls' := [(1, _), (0, _)]) d_Mo_laySoonest_17 rfl (by decide) rfl ?_
    refine j_goto (tgt := 2) d_Mo_laySoonest_20 rfl ?_
    refine j_pick [1, 0] (ls' := [(0, _), (1, _)]) rfl ?_
    refine ih (k + 1) _ _ (by omega) (nI_inc k) (hy.up (by decide) (by decide)) (fun j hj => ?_)
    rw [r_up_k]
    by_cases e9 : j = k
    · rw [e9, pk_us]
      rfl
    · rw [pk_un e9]
      exact hr j (by omega)
set_option maxRecDepth 100000 in
set_option maxHeartbeats 4000000 in
theorem l_ls2 {G : r_X} {d : Nat} {h : r_HI} {p q : Nat} {z : r_HL} {F : r_HI → r_HR → r_HL → Prop} {D : a_D} (hN : p_N h D) (ho : a_dok D) {K : a_K} (hJ : p_J h K) (hk : a_kok D K) (ht : K.1 ≤ 100000) (kk : (∀ h' v, r_ey [53] [] h h' → (∀ S j, S < 128 → j < 7 → h' 53 (7 * S + j) = nI (if S = 2 ^ j ∧ j < K.2.2.2.1 then (m_rv D K [j]).1 else 1000000)) → r_TM G m_Mo_laySoonest (d + 2) 61 61 (fun v h' g' z' => v = none ∧ F h' g' z') 82 [(0, .ref (G.2.1 + 47)), (1, .int v)] [] 61 h' (r_gp p q) z)) : ∀ (e i : Nat) (v : Int32) (h1 : r_HI), e + i = K.2.2.2.1 → v = nI i → r_ey [53] [] h h1 → (∀ S j, S < 128 → j < 7 → h1 53 (7 * S + j) = nI (if S = 2 ^ j ∧ j < i then (m_rv D K [j]).1 else 1000000)) → r_TM G m_Mo_laySoonest (d + 2) 61 61 (fun v h' g' z' => v = none ∧ F h' g' z') 25 [(0, .ref (G.2.1 + 47)), (1, .int v)] [] 61 h1 (r_gp p q) z := by
  have hn7 := hk.2.2.1
  intro e
  induction e with
  | zero =>
    intro i v h1 he hv hy hr
    subst hv
    have hJ1 : p_J h1 K := hJ.ey hy (by decide) (by decide) (by decide) (by decide) (by decide)
    refine j_iload_n d_Mo_laySoonest_25 rfl rfl ?_
    refine j_aload_n d_Mo_laySoonest_26 rfl rfl ?_
    refine j_geti d_Mo_laySoonest_27 f_Mo_114 rfl rfl (by decide) ?_
    refine j_icmp_ge (tgt := 82) d_Mo_laySoonest_30 rfl (fun bq1 => ?_) (fun bq1 => False.elim (bq1 (by rw [hJ1.2.2.2.1]; exact nI_le (by omega) (by omega))))
    have e0 : i = K.2.2.2.1 := by omega
    subst e0
    exact kk _ _ hy hr
  | succ e ih =>
    intro i v h1 he hv hy hr
    subst hv
    have hJ1 : p_J h1 K := hJ.ey hy (by decide) (by decide) (by decide) (by decide) (by decide)
    have hN1 : p_N h1 D := hN.ey hy (by decide) (by decide) (by decide) (by decide) (by decide)
    have hi : i < K.2.2.2.1 := by omega
    obtain ⟨g1, g2, g3⟩ := hJ1.2.2.2.2 i hi
    obtain ⟨hr1, hp1, hs1⟩ := hk.2.2.2 i hi
    have hp2 : 2 ^ i ≤ 2 ^ 6 := Nat.pow_le_pow_right (by decide) (by omega)
    refine j_iload_n d_Mo_laySoonest_25 rfl rfl ?_
    refine j_aload_n d_Mo_laySoonest_26 rfl rfl ?_
    refine j_geti d_Mo_laySoonest_27 f_Mo_114 rfl rfl (by decide) ?_
    refine j_icmp_ge (tgt := 82) d_Mo_laySoonest_30 rfl (fun bq1 => False.elim (nI_ge (by omega) (by omega) (hJ1.2.2.2.1 ▸ bq1))) (fun bq1 => ?_)
    refine j_aload_n d_Mo_laySoonest_33 rfl rfl ?_
    refine j_getr d_Mo_laySoonest_34 f_Mo_25 rfl rfl (by decide) rfl ?_
    refine j_bipush (v := 7) d_Mo_laySoonest_37 (by decide) ?_
    refine j_iconst (v := 1) d_Mo_laySoonest_39 rfl ?_
    refine j_iload_n d_Mo_laySoonest_40 rfl rfl ?_
    refine j_ishl d_Mo_laySoonest_41 ?_
    refine j_imul d_Mo_laySoonest_42 ?_
    refine j_iload_n d_Mo_laySoonest_43 rfl rfl ?_
    refine j_iadd d_Mo_laySoonest_44 ?_
    refine j_aload_n d_Mo_laySoonest_45 rfl rfl ?_
    refine j_aload_n d_Mo_laySoonest_46 rfl rfl ?_
    refine j_geti d_Mo_laySoonest_47 f_Mo_108 rfl rfl (by decide) ?_
    refine j_aload_n d_Mo_laySoonest_50 rfl rfl ?_
    refine j_geti d_Mo_laySoonest_51 f_Mo_105 rfl rfl (by decide) ?_
    refine j_aload_n d_Mo_laySoonest_54 rfl rfl ?_
    refine j_getr d_Mo_laySoonest_55 f_Mo_19 rfl rfl (by decide) rfl ?_
    refine j_iconst (v := 3) d_Mo_laySoonest_58 rfl ?_
    refine j_iload_n d_Mo_laySoonest_59 rfl rfl ?_
    refine j_imul d_Mo_laySoonest_60 ?_
    refine j_iav d_Mo_laySoonest_61 rfl (by decide) (j := 3 * i) (m3_0 i) (by omega) (by decide) (g1) ?_
    refine j_aload_n d_Mo_laySoonest_62 rfl rfl ?_
    refine j_getr d_Mo_laySoonest_63 f_Mo_19 rfl rfl (by decide) rfl ?_
    refine j_iconst (v := 3) d_Mo_laySoonest_66 rfl ?_
    refine j_iload_n d_Mo_laySoonest_67 rfl rfl ?_
    refine j_imul d_Mo_laySoonest_68 ?_
    refine j_iconst (v := 1) d_Mo_laySoonest_69 rfl ?_
    refine j_iadd d_Mo_laySoonest_70 ?_
    refine j_iav d_Mo_laySoonest_71 rfl (by decide) (j := 3 * i + 1) (m3_1 i) (by omega) (by decide) (g2) ?_
    refine q_i (s_Mo_laySoonest_72 rfl (by decide)) rfl (Nat.le_of_ble_eq_true rfl) (Nat.le_of_ble_eq_true rfl) ?_
    refine c_Mo_doneBy hN1 ho (by omega) hk.1 hr1 hp1 hJ1.2.1 hJ1.1 rfl rfl ?_
    refine j_iap d_Mo_laySoonest_75 rfl (by decide) (j := 7 * 2 ^ i + i) (by rw [nI_bit (by omega)]; exact (congrArg (· + nI i) (pk_mul 7 (2 ^ i))).trans (nI_add _ _)) (by omega) (by decide) ?_
    refine j_iinc (ls' := [(1, _), (0, _)]) d_Mo_laySoonest_76 rfl (by decide) rfl ?_
    refine j_goto (tgt := 25) d_Mo_laySoonest_79 rfl ?_
    refine j_pick [1, 0] (ls' := [(0, _), (1, _)]) rfl ?_
    refine ih (i + 1) _ _ (by omega) (nI_inc i) (hy.up (by decide) (by decide)) (fun S j hS hj => ?_)
    rw [r_up_k]
    by_cases e9 : S = 2 ^ i ∧ j = i
    · obtain ⟨e1, e2⟩ := e9
      subst e1
      subst e2
      rw [pk_us, if_pos ⟨rfl, by omega⟩]
      rfl
    · rw [pk_un (by omega), hr S j hS hj]
      congr 1
      by_cases c : S = 2 ^ j ∧ j < i
      · rw [if_pos c, if_pos ⟨c.1, by omega⟩]
      · rw [if_neg c, if_neg]
        intro q
        by_cases e : j = i
        · exact e9 ⟨by rw [← e]; exact q.1, e⟩
        · exact c ⟨q.1, by omega⟩
