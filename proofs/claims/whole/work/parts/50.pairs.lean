set_option maxRecDepth 100000 in
set_option maxHeartbeats 4000000 in
theorem l_ls4 {G : r_X} {d : Nat} {h : r_HI} {p q : Nat} {z : r_HL} {F : r_HI → r_HR → r_HL → Prop} {D : a_D} (hN : p_N h D) (ho : a_dok D) {K : a_K} (hJ : p_J h K) (hk : a_kok D K) (ht : K.1 ≤ 100000) {s : Nat} (hs7 : s < 128) (kk : (∀ h' v, r_ey [53] [] h h' → m_sn D K h' → m_cp D K s (K.2.2.2.1 * K.2.2.2.1) h' → r_TM G m_Mo_laySoonest (d + 2) 61 61 (fun v h' g' z' => v = none ∧ F h' g' z') 245 [(0, .ref (G.2.1 + 47)), (1, .int (nI s)), (2, .int v)] [] 61 h' (r_gp p q) z)) : ∀ (e k : Nat) (v : Int32) (h1 : r_HI), e + k = K.2.2.2.1 * K.2.2.2.1 → v = nI k → r_ey [53] [] h h1 → m_sn D K h1 → m_cp D K s k h1 → r_TM G m_Mo_laySoonest (d + 2) 61 61 (fun v h' g' z' => v = none ∧ F h' g' z') 96 [(0, .ref (G.2.1 + 47)), (1, .int (nI s)), (2, .int v)] [] 61 h1 (r_gp p q) z := by
  have hn7 := hk.2.2.1
  have hnn : K.2.2.2.1 * K.2.2.2.1 ≤ 7 * 7 := Nat.mul_le_mul hn7 hn7
  have h10 := ho.1
  intro e
  induction e with
  | zero =>
    intro k v h1 he hv hy hsn hcp
    subst hv
    have hJ1 : p_J h1 K := hJ.ey hy (by decide) (by decide) (by decide) (by decide) (by decide)
    refine j_iload_n d_Mo_laySoonest_96 rfl rfl ?_
    refine j_aload_n d_Mo_laySoonest_97 rfl rfl ?_
    refine j_geti d_Mo_laySoonest_98 f_Mo_114 rfl rfl (by decide) ?_
    refine j_aload_n d_Mo_laySoonest_101 rfl rfl ?_
    refine j_geti d_Mo_laySoonest_102 f_Mo_114 rfl rfl (by decide) ?_
    refine j_imul d_Mo_laySoonest_105 ?_
    refine j_icmp_ge (tgt := 245) d_Mo_laySoonest_106 rfl (fun bq1 => ?_) (fun bq1 => False.elim (bq1 (by rw [(show h1 47 10 * h1 47 10 = nI (K.2.2.2.1 * K.2.2.2.1) by rw [hJ1.2.2.2.1]; exact pk_mul _ _)]; exact nI_le (by omega) (by omega))))
    have e0 : k = K.2.2.2.1 * K.2.2.2.1 := by omega
    subst e0
    exact kk _ _ hy hsn hcp
  | succ e ih =>
    intro k v h1 he hv hy hsn hcp
    subst hv
    have hJ1 : p_J h1 K := hJ.ey hy (by decide) (by decide) (by decide) (by decide) (by decide)
    have hN1 : p_N h1 D := hN.ey hy (by decide) (by decide) (by decide) (by decide) (by decide)
    have hn0 : 0 < K.2.2.2.1 := Nat.pos_of_ne_zero (fun q => by rw [q] at he; omega)
    have hil : (k % K.2.2.2.1) < K.2.2.2.1 := Nat.mod_lt _ hn0
    have hll : (k / K.2.2.2.1) < K.2.2.2.1 := Nat.div_lt_of_lt_mul (by omega)
    have hki : (k / K.2.2.2.1) * K.2.2.2.1 + (k % K.2.2.2.1) = k := by rw [Nat.mul_comm]; exact Nat.div_add_mod k K.2.2.2.1
    obtain ⟨v0, g0, d0⟩ := hsn s (k / K.2.2.2.1) hs7 (by omega)
    obtain ⟨a1, a2, a3⟩ := hJ1.2.2.2.2 (k / K.2.2.2.1) hll
    obtain ⟨b1, b2, b3⟩ := hJ1.2.2.2.2 (k % K.2.2.2.1) hil
    obtain ⟨hr1, hp1, hs1⟩ := hk.2.2.2 (k / K.2.2.2.1) hll
    obtain ⟨hr2, hp2, hs2⟩ := hk.2.2.2 (k % K.2.2.2.1) hil
    have hbit := nI_hb (b := s) (j := (k % K.2.2.2.1)) (by omega) (by omega)
    have hlow : ∀ y, m_vd K.2.2.2.1 ((k / K.2.2.2.1) :: y) → m_bs ((k / K.2.2.2.1) :: y) = s → v0 ≤ (m_rv D K ((k / K.2.2.2.1) :: y)).1 := fun y q1 q2 => by
      have hpos : 0 < 2 ^ (k / K.2.2.2.1) := Nat.two_pow_pos _
      obtain ⟨u, u1, u2⟩ := hcp (k / K.2.2.2.1) y q1 (by
        have q3 : m_bs y + 2 ^ (k / K.2.2.2.1) = s := q2
        exact Or.inr (Or.inl (by omega)))
      rw [q2] at u1
      have hb1 := (m_rv_bd ho hk ht q1).1
      have hv0 : v0 ≤ 1000000 := by
        rcases d0 with d0 | ⟨y2, w1, w2, w3⟩
        · omega
        · have := (m_rv_bd ho hk ht w1).1
          omega
      have := (nI_eq (by omega) (by omega)).mp (g0.symm.trans u1)
      omega
    have hv0 : v0 ≤ 1000000 := by
      rcases d0 with d0 | ⟨y2, w1, w2, w3⟩
      · omega
      · have := (m_rv_bd ho hk ht w1).1
        omega
    by_cases c0 : 1000000 ≤ v0
    · refine j_iload_n d_Mo_laySoonest_96 rfl rfl ?_
      refine j_aload_n d_Mo_laySoonest_97 rfl rfl ?_
      refine j_geti d_Mo_laySoonest_98 f_Mo_114 rfl rfl (by decide) ?_
      refine j_aload_n d_Mo_laySoonest_101 rfl rfl ?_
      refine j_geti d_Mo_laySoonest_102 f_Mo_114 rfl rfl (by decide) ?_
      refine j_imul d_Mo_laySoonest_105 ?_
      refine j_icmp_ge (tgt := 245) d_Mo_laySoonest_106 rfl (fun bq1 => False.elim (nI_ge (a := k) (b := K.2.2.2.1 * K.2.2.2.1) (by omega) (by omega) (by rw [← (show h1 47 10 * h1 47 10 = nI (K.2.2.2.1 * K.2.2.2.1) by rw [hJ1.2.2.2.1]; exact pk_mul _ _)]; exact bq1))) (fun bq1 => ?_)
      refine j_iload_n d_Mo_laySoonest_109 rfl rfl ?_
      refine j_aload_n d_Mo_laySoonest_110 rfl rfl ?_
      refine j_geti d_Mo_laySoonest_111 f_Mo_114 rfl rfl (by decide) ?_
      refine j_idiv d_Mo_laySoonest_114 (by rw [hJ1.2.2.2.1]; exact nI_ne0 (by omega) (by omega)) ?_
      rw [hJ1.2.2.2.1, pk_div (by omega) (by omega) (by omega)]
      refine j_istore_n (ls' := [(3, _), (0, _), (1, _), (2, _)]) d_Mo_laySoonest_115 rfl (by decide) rfl ?_
      refine j_iload_n d_Mo_laySoonest_116 rfl rfl ?_
      refine j_aload_n d_Mo_laySoonest_117 rfl rfl ?_
      refine j_geti d_Mo_laySoonest_118 f_Mo_114 rfl rfl (by decide) ?_
      refine j_irem d_Mo_laySoonest_121 (by rw [hJ1.2.2.2.1]; exact nI_ne0 (by omega) (by omega)) ?_
      rw [hJ1.2.2.2.1, pk_rem (by omega) (by omega) (by omega)]
      refine j_istore (ls' := [(4, _), (3, _), (0, _), (1, _), (2, _)]) d_Mo_laySoonest_122 (by decide) rfl ?_
      refine j_aload_n d_Mo_laySoonest_124 rfl rfl ?_
      refine j_getr d_Mo_laySoonest_125 f_Mo_25 rfl rfl (by decide) rfl ?_
      refine j_bipush (v := 7) d_Mo_laySoonest_128 (by decide) ?_
      refine j_iload_n d_Mo_laySoonest_130 rfl rfl ?_
      refine j_imul d_Mo_laySoonest_131 ?_
      refine j_iload_n d_Mo_laySoonest_132 rfl rfl ?_
      refine j_iadd d_Mo_laySoonest_133 ?_
      refine j_iav d_Mo_laySoonest_134 rfl (by decide) (j := 7 * s + (k / K.2.2.2.1)) (i7 s (k / K.2.2.2.1)) (by omega) (by decide) (g0) ?_
      refine j_ldc d_Mo_laySoonest_135 k_Mo_216 ?_
      refine j_icmp_ge (tgt := 239) d_Mo_laySoonest_137 rfl (fun bq2 => ?_) (fun bq2 => False.elim (bq2 (nI_le (a := 1000000) c0 (by omega))))
      refine j_iinc (ls' := [(2, _), (4, _), (3, _), (0, _), (1, _)]) d_Mo_laySoonest_239 rfl (by decide) rfl ?_
      refine j_goto (tgt := 96) d_Mo_laySoonest_242 rfl ?_
      refine j_pick [3, 4, 0] (ls' := [(0, _), (1, _), (2, _)]) rfl ?_
      exact ih (k + 1) _ h1 (by omega) (nI_inc k) hy hsn (hcp.ext hil hki (fun y q1 q2 => absurd (hlow y q1.2.2 q2) (by have := (m_rv_bd ho hk ht q1.2.2).1; omega)))
    · cases cb : a_hb s (k % K.2.2.2.1) with
      | true =>
        have hz : s / 2 ^ (k % K.2.2.2.1) % 2 = 1 := of_decide_eq_true cb
        refine j_iload_n d_Mo_laySoonest_96 rfl rfl ?_
        refine j_aload_n d_Mo_laySoonest_97 rfl rfl ?_
        refine j_geti d_Mo_laySoonest_98 f_Mo_114 rfl rfl (by decide) ?_
        refine j_aload_n d_Mo_laySoonest_101 rfl rfl ?_
        refine j_geti d_Mo_laySoonest_102 f_Mo_114 rfl rfl (by decide) ?_
        refine j_imul d_Mo_laySoonest_105 ?_
        refine j_icmp_ge (tgt := 245) d_Mo_laySoonest_106 rfl (fun bq1 => False.elim (nI_ge (a := k) (b := K.2.2.2.1 * K.2.2.2.1) (by omega) (by omega) (by rw [← (show h1 47 10 * h1 47 10 = nI (K.2.2.2.1 * K.2.2.2.1) by rw [hJ1.2.2.2.1]; exact pk_mul _ _)]; exact bq1))) (fun bq1 => ?_)
        refine j_iload_n d_Mo_laySoonest_109 rfl rfl ?_
        refine j_aload_n d_Mo_laySoonest_110 rfl rfl ?_
        refine j_geti d_Mo_laySoonest_111 f_Mo_114 rfl rfl (by decide) ?_
        refine j_idiv d_Mo_laySoonest_114 (by rw [hJ1.2.2.2.1]; exact nI_ne0 (by omega) (by omega)) ?_
        rw [hJ1.2.2.2.1, pk_div (by omega) (by omega) (by omega)]
        refine j_istore_n (ls' := [(3, _), (0, _), (1, _), (2, _)]) d_Mo_laySoonest_115 rfl (by decide) rfl ?_
        refine j_iload_n d_Mo_laySoonest_116 rfl rfl ?_
        refine j_aload_n d_Mo_laySoonest_117 rfl rfl ?_
        refine j_geti d_Mo_laySoonest_118 f_Mo_114 rfl rfl (by decide) ?_
        refine j_irem d_Mo_laySoonest_121 (by rw [hJ1.2.2.2.1]; exact nI_ne0 (by omega) (by omega)) ?_
        rw [hJ1.2.2.2.1, pk_rem (by omega) (by omega) (by omega)]
        refine j_istore (ls' := [(4, _), (3, _), (0, _), (1, _), (2, _)]) d_Mo_laySoonest_122 (by decide) rfl ?_
        refine j_aload_n d_Mo_laySoonest_124 rfl rfl ?_
        refine j_getr d_Mo_laySoonest_125 f_Mo_25 rfl rfl (by decide) rfl ?_
        refine j_bipush (v := 7) d_Mo_laySoonest_128 (by decide) ?_
        refine j_iload_n d_Mo_laySoonest_130 rfl rfl ?_
        refine j_imul d_Mo_laySoonest_131 ?_
        refine j_iload_n d_Mo_laySoonest_132 rfl rfl ?_
        refine j_iadd d_Mo_laySoonest_133 ?_
        refine j_iav d_Mo_laySoonest_134 rfl (by decide) (j := 7 * s + (k / K.2.2.2.1)) (i7 s (k / K.2.2.2.1)) (by omega) (by decide) (g0) ?_
        refine j_ldc d_Mo_laySoonest_135 k_Mo_216 ?_
        refine j_icmp_ge (tgt := 239) d_Mo_laySoonest_137 rfl (fun bq2 => False.elim (nI_ge (a := v0) (b := 1000000) (by omega) (by omega) bq2)) (fun bq2 => ?_)
        refine j_iload_n d_Mo_laySoonest_140 rfl rfl ?_
        refine j_iload d_Mo_laySoonest_141 rfl ?_
        refine j_ishr d_Mo_laySoonest_143 ?_
        refine j_iconst (v := 1) d_Mo_laySoonest_144 rfl ?_
        refine j_iand d_Mo_laySoonest_145 ?_
        rw [hbit]
        refine j_if_ne (tgt := 239) d_Mo_laySoonest_146 rfl (fun bq3 => ?_) (fun bq3 => False.elim (absurd (show nI (s / 2 ^ (k % K.2.2.2.1) % 2) = 0 from bq3) (by rw [hz]; decide)))
        refine j_iinc (ls' := [(2, _), (4, _), (3, _), (0, _), (1, _)]) d_Mo_laySoonest_239 rfl (by decide) rfl ?_
        refine j_goto (tgt := 96) d_Mo_laySoonest_242 rfl ?_
        refine j_pick [3, 4, 0] (ls' := [(0, _), (1, _), (2, _)]) rfl ?_
        exact ih (k + 1) _ h1 (by omega) (nI_inc k) hy hsn (hcp.ext hil hki (fun y q1 q2 => absurd cb (by rw [← q2, q1.2.1]; decide)))
      | false =>
        have hz : s / 2 ^ (k % K.2.2.2.1) % 2 = 0 := by
          have : ¬ s / 2 ^ (k % K.2.2.2.1) % 2 = 1 := of_decide_eq_false cb
          omega
        obtain ⟨o1, o2⟩ := a_or (a := s) (j := (k % K.2.2.2.1)) hs7 (by omega) cb
        obtain ⟨u0, g3, d3⟩ := hsn (s + 2 ^ (k % K.2.2.2.1)) (k % K.2.2.2.1) (by omega) (by omega)
        have hu0 : u0 ≤ 1000000 := by
          rcases d3 with d3 | ⟨y2, w1, w2, w3⟩
          · omega
          · have := (m_rv_bd ho hk ht w1).1
            omega
        obtain ⟨y0, w1, w2, w3⟩ := d0.resolve_left (by omega)
        have hvd : m_vd K.2.2.2.1 ((k % K.2.2.2.1) :: (k / K.2.2.2.1) :: y0) := ⟨hil, by rw [w2]; exact cb, w1⟩
        have hnow : (m_rv D K ((k % K.2.2.2.1) :: (k / K.2.2.2.1) :: y0)).1 = a_dn D v0 (K.2.2.2.2.1 (k / K.2.2.2.1)) (K.2.2.2.2.1 (k % K.2.2.2.1)) (K.2.2.2.2.2.1 (k % K.2.2.2.1)) := by rw [w3]; rfl
        have hnb := (m_rv_bd ho hk ht hvd).1
        rw [hnow] at hnb
        by_cases c2 : a_dn D v0 (K.2.2.2.2.1 (k / K.2.2.2.1)) (K.2.2.2.2.1 (k % K.2.2.2.1)) (K.2.2.2.2.2.1 (k % K.2.2.2.1)) < u0
        · refine j_iload_n d_Mo_laySoonest_96 rfl rfl ?_
          refine j_aload_n d_Mo_laySoonest_97 rfl rfl ?_
          refine j_geti d_Mo_laySoonest_98 f_Mo_114 rfl rfl (by decide) ?_
          refine j_aload_n d_Mo_laySoonest_101 rfl rfl ?_
          refine j_geti d_Mo_laySoonest_102 f_Mo_114 rfl rfl (by decide) ?_
          refine j_imul d_Mo_laySoonest_105 ?_
          refine j_icmp_ge (tgt := 245) d_Mo_laySoonest_106 rfl (fun bq1 => False.elim (nI_ge (a := k) (b := K.2.2.2.1 * K.2.2.2.1) (by omega) (by omega) (by rw [← (show h1 47 10 * h1 47 10 = nI (K.2.2.2.1 * K.2.2.2.1) by rw [hJ1.2.2.2.1]; exact pk_mul _ _)]; exact bq1))) (fun bq1 => ?_)
          refine j_iload_n d_Mo_laySoonest_109 rfl rfl ?_
          refine j_aload_n d_Mo_laySoonest_110 rfl rfl ?_
          refine j_geti d_Mo_laySoonest_111 f_Mo_114 rfl rfl (by decide) ?_
          refine j_idiv d_Mo_laySoonest_114 (by rw [hJ1.2.2.2.1]; exact nI_ne0 (by omega) (by omega)) ?_
          rw [hJ1.2.2.2.1, pk_div (by omega) (by omega) (by omega)]
          refine j_istore_n (ls' := [(3, _), (0, _), (1, _), (2, _)]) d_Mo_laySoonest_115 rfl (by decide) rfl ?_
          refine j_iload_n d_Mo_laySoonest_116 rfl rfl ?_
          refine j_aload_n d_Mo_laySoonest_117 rfl rfl ?_
          refine j_geti d_Mo_laySoonest_118 f_Mo_114 rfl rfl (by decide) ?_
          refine j_irem d_Mo_laySoonest_121 (by rw [hJ1.2.2.2.1]; exact nI_ne0 (by omega) (by omega)) ?_
          rw [hJ1.2.2.2.1, pk_rem (by omega) (by omega) (by omega)]
          refine j_istore (ls' := [(4, _), (3, _), (0, _), (1, _), (2, _)]) d_Mo_laySoonest_122 (by decide) rfl ?_
          refine j_aload_n d_Mo_laySoonest_124 rfl rfl ?_
          refine j_getr d_Mo_laySoonest_125 f_Mo_25 rfl rfl (by decide) rfl ?_
          refine j_bipush (v := 7) d_Mo_laySoonest_128 (by decide) ?_
          refine j_iload_n d_Mo_laySoonest_130 rfl rfl ?_
          refine j_imul d_Mo_laySoonest_131 ?_
          refine j_iload_n d_Mo_laySoonest_132 rfl rfl ?_
          refine j_iadd d_Mo_laySoonest_133 ?_
          refine j_iav d_Mo_laySoonest_134 rfl (by decide) (j := 7 * s + (k / K.2.2.2.1)) (i7 s (k / K.2.2.2.1)) (by omega) (by decide) (g0) ?_
          refine j_ldc d_Mo_laySoonest_135 k_Mo_216 ?_
          refine j_icmp_ge (tgt := 239) d_Mo_laySoonest_137 rfl (fun bq2 => False.elim (nI_ge (a := v0) (b := 1000000) (by omega) (by omega) bq2)) (fun bq2 => ?_)
          refine j_iload_n d_Mo_laySoonest_140 rfl rfl ?_
          refine j_iload d_Mo_laySoonest_141 rfl ?_
          refine j_ishr d_Mo_laySoonest_143 ?_
          refine j_iconst (v := 1) d_Mo_laySoonest_144 rfl ?_
          refine j_iand d_Mo_laySoonest_145 ?_
          rw [hbit]
          refine j_if_ne (tgt := 239) d_Mo_laySoonest_146 rfl (fun bq3 => False.elim (bq3 (by rw [hz]; rfl))) (fun bq3 => ?_)
          refine j_aload_n d_Mo_laySoonest_149 rfl rfl ?_
          refine j_aload_n d_Mo_laySoonest_150 rfl rfl ?_
          refine j_getr d_Mo_laySoonest_151 f_Mo_19 rfl rfl (by decide) rfl ?_
          refine j_iconst (v := 3) d_Mo_laySoonest_154 rfl ?_
          refine j_iload_n d_Mo_laySoonest_155 rfl rfl ?_
          refine j_imul d_Mo_laySoonest_156 ?_
          refine j_iav d_Mo_laySoonest_157 rfl (by decide) (j := 3 * (k / K.2.2.2.1)) (m3_0 _) (by omega) (by decide) (a1) ?_
          refine j_aload_n d_Mo_laySoonest_158 rfl rfl ?_
          refine j_getr d_Mo_laySoonest_159 f_Mo_25 rfl rfl (by decide) rfl ?_
          refine j_bipush (v := 7) d_Mo_laySoonest_162 (by decide) ?_
          refine j_iload_n d_Mo_laySoonest_164 rfl rfl ?_
          refine j_imul d_Mo_laySoonest_165 ?_
          refine j_iload_n d_Mo_laySoonest_166 rfl rfl ?_
          refine j_iadd d_Mo_laySoonest_167 ?_
          refine j_iav d_Mo_laySoonest_168 rfl (by decide) (j := 7 * s + (k / K.2.2.2.1)) (i7 s (k / K.2.2.2.1)) (by omega) (by decide) (g0) ?_
          refine j_aload_n d_Mo_laySoonest_169 rfl rfl ?_
          refine j_getr d_Mo_laySoonest_170 f_Mo_19 rfl rfl (by decide) rfl ?_
          refine j_iconst (v := 3) d_Mo_laySoonest_173 rfl ?_
          refine j_iload d_Mo_laySoonest_174 rfl ?_
          refine j_imul d_Mo_laySoonest_176 ?_
          refine j_iav d_Mo_laySoonest_177 rfl (by decide) (j := 3 * (k % K.2.2.2.1)) (m3_0 _) (by omega) (by decide) (b1) ?_
          refine j_aload_n d_Mo_laySoonest_178 rfl rfl ?_
          refine j_getr d_Mo_laySoonest_179 f_Mo_19 rfl rfl (by decide) rfl ?_
          refine j_iconst (v := 3) d_Mo_laySoonest_182 rfl ?_
          refine j_iload d_Mo_laySoonest_183 rfl ?_
          refine j_imul d_Mo_laySoonest_185 ?_
          refine j_iconst (v := 1) d_Mo_laySoonest_186 rfl ?_
          refine j_iadd d_Mo_laySoonest_187 ?_
          refine j_iav d_Mo_laySoonest_188 rfl (by decide) (j := 3 * (k % K.2.2.2.1) + 1) (m3_1 _) (by omega) (by decide) (b2) ?_
          refine q_i (s_Mo_laySoonest_189 rfl (by decide)) rfl (Nat.le_of_ble_eq_true rfl) (Nat.le_of_ble_eq_true rfl) ?_
          refine c_Mo_doneBy hN1 ho (by omega) (by omega) hr2 hp2 rfl rfl rfl rfl ?_
          refine j_istore (ls' := [(5, _), (4, _), (3, _), (0, _), (1, _), (2, _)]) d_Mo_laySoonest_192 (by decide) rfl ?_
          refine j_bipush (v := 7) d_Mo_laySoonest_194 (by decide) ?_
          refine j_iload_n d_Mo_laySoonest_196 rfl rfl ?_
          refine j_iconst (v := 1) d_Mo_laySoonest_197 rfl ?_
          refine j_iload d_Mo_laySoonest_198 rfl ?_
          refine j_ishl d_Mo_laySoonest_200 ?_
          refine j_ior d_Mo_laySoonest_201 ?_
          refine j_imul d_Mo_laySoonest_202 ?_
          refine j_iload d_Mo_laySoonest_203 rfl ?_
          refine j_iadd d_Mo_laySoonest_205 ?_
          rw [a_orI (by omega) (by omega) cb, i7]
          refine j_istore (ls' := [(6, _), (5, _), (4, _), (3, _), (0, _), (1, _), (2, _)]) d_Mo_laySoonest_206 (by decide) rfl ?_
          refine j_aload_n d_Mo_laySoonest_208 rfl rfl ?_
          refine j_getr d_Mo_laySoonest_209 f_Mo_25 rfl rfl (by decide) rfl ?_
          refine j_iload d_Mo_laySoonest_212 rfl ?_
          refine j_iload d_Mo_laySoonest_214 rfl ?_
          refine j_aload_n d_Mo_laySoonest_216 rfl rfl ?_
          refine j_getr d_Mo_laySoonest_217 f_Mo_25 rfl rfl (by decide) rfl ?_
          refine j_iload d_Mo_laySoonest_220 rfl ?_
          refine j_iav d_Mo_laySoonest_222 rfl (by decide) (j := (7 * (s + 2 ^ (k % K.2.2.2.1)) + (k % K.2.2.2.1))) (rfl) (by omega) (by decide) (g3) ?_
          refine j_icmp_ge (tgt := 231) d_Mo_laySoonest_223 rfl (fun bq4 => False.elim (nI_ge (a := (a_dn D v0 (K.2.2.2.2.1 (k / K.2.2.2.1)) (K.2.2.2.2.1 (k % K.2.2.2.1)) (K.2.2.2.2.2.1 (k % K.2.2.2.1)))) (b := u0) c2 (by omega) bq4)) (fun bq4 => ?_)
          refine j_iload d_Mo_laySoonest_226 rfl ?_
          refine j_goto (tgt := 238) d_Mo_laySoonest_228 rfl ?_
          refine j_iap d_Mo_laySoonest_238 rfl (by decide) (j := (7 * (s + 2 ^ (k % K.2.2.2.1)) + (k % K.2.2.2.1))) (rfl) (by omega) (by decide) ?_
          refine j_iinc (ls' := [(2, _), (6, _), (5, _), (4, _), (3, _), (0, _), (1, _)]) d_Mo_laySoonest_239 rfl (by decide) rfl ?_
          refine j_goto (tgt := 96) d_Mo_laySoonest_242 rfl ?_
          refine j_pick [5, 6, 0] (ls' := [(0, _), (1, _), (2, _)]) rfl ?_
          refine ih (k + 1) _ _ (by omega) (nI_inc k) (hy.up (by decide) (by decide)) (hsn.up (by omega) (by omega) ⟨_, hvd, by show m_bs ((k / K.2.2.2.1) :: y0) + 2 ^ (k % K.2.2.2.1) = _; rw [w2], hnow.symm⟩) ((hcp.up hn7 (by omega) (fun u q1 q2 => ?_) (by omega) (fun y q => (m_rv_bd ho hk ht q).1)).ext hil hki (fun y q1 q2 => ?_))
          · have := (nI_eq (by omega) (by omega)).mp (g3.symm.trans q2)
            omega
          · have e5 : m_bs ((k % K.2.2.2.1) :: (k / K.2.2.2.1) :: y) = s + 2 ^ (k % K.2.2.2.1) := by show m_bs ((k / K.2.2.2.1) :: y) + 2 ^ (k % K.2.2.2.1) = _; rw [q2]
            have hm : (a_dn D v0 (K.2.2.2.2.1 (k / K.2.2.2.1)) (K.2.2.2.2.1 (k % K.2.2.2.1)) (K.2.2.2.2.2.1 (k % K.2.2.2.1))) ≤ (m_rv D K ((k % K.2.2.2.1) :: (k / K.2.2.2.1) :: y)).1 := a_dn_mono (hlow y q1.2.2 q2)
            rw [e5, r_up_k, pk_us]
            exact ⟨_, rfl, hm⟩
        · refine j_iload_n d_Mo_laySoonest_96 rfl rfl ?_
          refine j_aload_n d_Mo_laySoonest_97 rfl rfl ?_
          refine j_geti d_Mo_laySoonest_98 f_Mo_114 rfl rfl (by decide) ?_
          refine j_aload_n d_Mo_laySoonest_101 rfl rfl ?_
          refine j_geti d_Mo_laySoonest_102 f_Mo_114 rfl rfl (by decide) ?_
          refine j_imul d_Mo_laySoonest_105 ?_
          refine j_icmp_ge (tgt := 245) d_Mo_laySoonest_106 rfl (fun bq1 => False.elim (nI_ge (a := k) (b := K.2.2.2.1 * K.2.2.2.1) (by omega) (by omega) (by rw [← (show h1 47 10 * h1 47 10 = nI (K.2.2.2.1 * K.2.2.2.1) by rw [hJ1.2.2.2.1]; exact pk_mul _ _)]; exact bq1))) (fun bq1 => ?_)
          refine j_iload_n d_Mo_laySoonest_109 rfl rfl ?_
          refine j_aload_n d_Mo_laySoonest_110 rfl rfl ?_
          refine j_geti d_Mo_laySoonest_111 f_Mo_114 rfl rfl (by decide) ?_
          refine j_idiv d_Mo_laySoonest_114 (by rw [hJ1.2.2.2.1]; exact nI_ne0 (by omega) (by omega)) ?_
          rw [hJ1.2.2.2.1, pk_div (by omega) (by omega) (by omega)]
          refine j_istore_n (ls' := [(3, _), (0, _), (1, _), (2, _)]) d_Mo_laySoonest_115 rfl (by decide) rfl ?_
          refine j_iload_n d_Mo_laySoonest_116 rfl rfl ?_
          refine j_aload_n d_Mo_laySoonest_117 rfl rfl ?_
          refine j_geti d_Mo_laySoonest_118 f_Mo_114 rfl rfl (by decide) ?_
          refine j_irem d_Mo_laySoonest_121 (by rw [hJ1.2.2.2.1]; exact nI_ne0 (by omega) (by omega)) ?_
          rw [hJ1.2.2.2.1, pk_rem (by omega) (by omega) (by omega)]
          refine j_istore (ls' := [(4, _), (3, _), (0, _), (1, _), (2, _)]) d_Mo_laySoonest_122 (by decide) rfl ?_
          refine j_aload_n d_Mo_laySoonest_124 rfl rfl ?_
          refine j_getr d_Mo_laySoonest_125 f_Mo_25 rfl rfl (by decide) rfl ?_
          refine j_bipush (v := 7) d_Mo_laySoonest_128 (by decide) ?_
          refine j_iload_n d_Mo_laySoonest_130 rfl rfl ?_
          refine j_imul d_Mo_laySoonest_131 ?_
          refine j_iload_n d_Mo_laySoonest_132 rfl rfl ?_
          refine j_iadd d_Mo_laySoonest_133 ?_
          refine j_iav d_Mo_laySoonest_134 rfl (by decide) (j := 7 * s + (k / K.2.2.2.1)) (i7 s (k / K.2.2.2.1)) (by omega) (by decide) (g0) ?_
          refine j_ldc d_Mo_laySoonest_135 k_Mo_216 ?_
          refine j_icmp_ge (tgt := 239) d_Mo_laySoonest_137 rfl (fun bq2 => False.elim (nI_ge (a := v0) (b := 1000000) (by omega) (by omega) bq2)) (fun bq2 => ?_)
          refine j_iload_n d_Mo_laySoonest_140 rfl rfl ?_
          refine j_iload d_Mo_laySoonest_141 rfl ?_
          refine j_ishr d_Mo_laySoonest_143 ?_
          refine j_iconst (v := 1) d_Mo_laySoonest_144 rfl ?_
          refine j_iand d_Mo_laySoonest_145 ?_
          rw [hbit]
          refine j_if_ne (tgt := 239) d_Mo_laySoonest_146 rfl (fun bq3 => False.elim (bq3 (by rw [hz]; rfl))) (fun bq3 => ?_)
          refine j_aload_n d_Mo_laySoonest_149 rfl rfl ?_
          refine j_aload_n d_Mo_laySoonest_150 rfl rfl ?_
          refine j_getr d_Mo_laySoonest_151 f_Mo_19 rfl rfl (by decide) rfl ?_
          refine j_iconst (v := 3) d_Mo_laySoonest_154 rfl ?_
          refine j_iload_n d_Mo_laySoonest_155 rfl rfl ?_
          refine j_imul d_Mo_laySoonest_156 ?_
          refine j_iav d_Mo_laySoonest_157 rfl (by decide) (j := 3 * (k / K.2.2.2.1)) (m3_0 _) (by omega) (by decide) (a1) ?_
          refine j_aload_n d_Mo_laySoonest_158 rfl rfl ?_
          refine j_getr d_Mo_laySoonest_159 f_Mo_25 rfl rfl (by decide) rfl ?_
          refine j_bipush (v := 7) d_Mo_laySoonest_162 (by decide) ?_
          refine j_iload_n d_Mo_laySoonest_164 rfl rfl ?_
          refine j_imul d_Mo_laySoonest_165 ?_
          refine j_iload_n d_Mo_laySoonest_166 rfl rfl ?_
          refine j_iadd d_Mo_laySoonest_167 ?_
          refine j_iav d_Mo_laySoonest_168 rfl (by decide) (j := 7 * s + (k / K.2.2.2.1)) (i7 s (k / K.2.2.2.1)) (by omega) (by decide) (g0) ?_
          refine j_aload_n d_Mo_laySoonest_169 rfl rfl ?_
          refine j_getr d_Mo_laySoonest_170 f_Mo_19 rfl rfl (by decide) rfl ?_
          refine j_iconst (v := 3) d_Mo_laySoonest_173 rfl ?_
          refine j_iload d_Mo_laySoonest_174 rfl ?_
          refine j_imul d_Mo_laySoonest_176 ?_
          refine j_iav d_Mo_laySoonest_177 rfl (by decide) (j := 3 * (k % K.2.2.2.1)) (m3_0 _) (by omega) (by decide) (b1) ?_
          refine j_aload_n d_Mo_laySoonest_178 rfl rfl ?_
          refine j_getr d_Mo_laySoonest_179 f_Mo_19 rfl rfl (by decide) rfl ?_
          refine j_iconst (v := 3) d_Mo_laySoonest_182 rfl ?_
          refine j_iload d_Mo_laySoonest_183 rfl ?_
          refine j_imul d_Mo_laySoonest_185 ?_
          refine j_iconst (v := 1) d_Mo_laySoonest_186 rfl ?_
          refine j_iadd d_Mo_laySoonest_187 ?_
          refine j_iav d_Mo_laySoonest_188 rfl (by decide) (j := 3 * (k % K.2.2.2.1) + 1) (m3_1 _) (by omega) (by decide) (b2) ?_
          refine q_i (s_Mo_laySoonest_189 rfl (by decide)) rfl (Nat.le_of_ble_eq_true rfl) (Nat.le_of_ble_eq_true rfl) ?_
          refine c_Mo_doneBy hN1 ho (by omega) (by omega) hr2 hp2 rfl rfl rfl rfl ?_
          refine j_istore (ls' := [(5, _), (4, _), (3, _), (0, _), (1, _), (2, _)]) d_Mo_laySoonest_192 (by decide) rfl ?_
          refine j_bipush (v := 7) d_Mo_laySoonest_194 (by decide) ?_
          refine j_iload_n d_Mo_laySoonest_196 rfl rfl ?_
          refine j_iconst (v := 1) d_Mo_laySoonest_197 rfl ?_
          refine j_iload d_Mo_laySoonest_198 rfl ?_
          refine j_ishl d_Mo_laySoonest_200 ?_
          refine j_ior d_Mo_laySoonest_201 ?_
          refine j_imul d_Mo_laySoonest_202 ?_
          refine j_iload d_Mo_laySoonest_203 rfl ?_
          refine j_iadd d_Mo_laySoonest_205 ?_
          rw [a_orI (by omega) (by omega) cb, i7]
          refine j_istore (ls' := [(6, _), (5, _), (4, _), (3, _), (0, _), (1, _), (2, _)]) d_Mo_laySoonest_206 (by decide) rfl ?_
          refine j_aload_n d_Mo_laySoonest_208 rfl rfl ?_
          refine j_getr d_Mo_laySoonest_209 f_Mo_25 rfl rfl (by decide) rfl ?_
          refine j_iload d_Mo_laySoonest_212 rfl ?_
          refine j_iload d_Mo_laySoonest_214 rfl ?_
          refine j_aload_n d_Mo_laySoonest_216 rfl rfl ?_
          refine j_getr d_Mo_laySoonest_217 f_Mo_25 rfl rfl (by decide) rfl ?_
          refine j_iload d_Mo_laySoonest_220 rfl ?_
          refine j_iav d_Mo_laySoonest_222 rfl (by decide) (j := (7 * (s + 2 ^ (k % K.2.2.2.1)) + (k % K.2.2.2.1))) (rfl) (by omega) (by decide) (g3) ?_
          refine j_icmp_ge (tgt := 231) d_Mo_laySoonest_223 rfl (fun bq4 => ?_) (fun bq4 => False.elim (bq4 (nI_le (a := u0) (b := (a_dn D v0 (K.2.2.2.2.1 (k / K.2.2.2.1)) (K.2.2.2.2.1 (k % K.2.2.2.1)) (K.2.2.2.2.2.1 (k % K.2.2.2.1)))) (by omega) (by omega))))
          refine j_aload_n d_Mo_laySoonest_231 rfl rfl ?_
          refine j_getr d_Mo_laySoonest_232 f_Mo_25 rfl rfl (by decide) rfl ?_
          refine j_iload d_Mo_laySoonest_235 rfl ?_
          refine j_iav d_Mo_laySoonest_237 rfl (by decide) (j := (7 * (s + 2 ^ (k % K.2.2.2.1)) + (k % K.2.2.2.1))) (rfl) (by omega) (by decide) (g3) ?_
          refine j_iap d_Mo_laySoonest_238 rfl (by decide) (j := (7 * (s + 2 ^ (k % K.2.2.2.1)) + (k % K.2.2.2.1))) (rfl) (by omega) (by decide) ?_
          refine j_iinc (ls' := [(2, _), (6, _), (5, _), (4, _), (3, _), (0, _), (1, _)]) d_Mo_laySoonest_239 rfl (by decide) rfl ?_
          refine j_goto (tgt := 96) d_Mo_laySoonest_242 rfl ?_
          refine j_pick [5, 6, 0] (ls' := [(0, _), (1, _), (2, _)]) rfl ?_
          rw [r_up_self g3]
          refine ih (k + 1) _ h1 (by omega) (nI_inc k) hy hsn (hcp.ext hil hki (fun y q1 q2 => ?_))
          have e5 : m_bs ((k % K.2.2.2.1) :: (k / K.2.2.2.1) :: y) = s + 2 ^ (k % K.2.2.2.1) := by show m_bs ((k / K.2.2.2.1) :: y) + 2 ^ (k % K.2.2.2.1) = _; rw [q2]
          have hm : (a_dn D v0 (K.2.2.2.2.1 (k / K.2.2.2.1)) (K.2.2.2.2.1 (k % K.2.2.2.1)) (K.2.2.2.2.2.1 (k % K.2.2.2.1))) ≤ (m_rv D K ((k % K.2.2.2.1) :: (k / K.2.2.2.1) :: y)).1 := a_dn_mono (hlow y q1.2.2 q2)
          rw [e5]
          exact ⟨u0, g3, by omega⟩
