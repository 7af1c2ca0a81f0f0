set_option maxRecDepth 100000 in
set_option maxHeartbeats 4000000 in
theorem l_plate1 {G : r_X} {d : Nat} {h : r_HI} {p q : Nat} {z : r_HL} {F : Int32 → r_HI → r_HR → r_HL → Prop} {P : a_P} {E : Nat} (hG : p_G h P) (hp : a_pok P) (hv : a_vp P E) (h3 : h 47 3 = nI (E / 2)) (kk : (∀ h', r_ey [49, 50] [] h h' → (∀ j, j < E / 2 → h' 49 j = nI (a_po (P.2 (2 * j))) ∧ h' 50 j = nI (P.2 (2 * j + 1) - 97)) → r_TM G m_Mo_plate (d + 4) 61 61 (fun v h' g' z' => ∃ r, v = some (.int r) ∧ F r h' g' z') 96 [(0, .ref (G.2.1 + 47))] [] 61 h' (r_gp p q) z)) : ∀ (e i : Nat) (v : Int32) (h1 : r_HI), e + i = E / 2 → v = nI i → r_ey [49, 50] [] h h1 → (∀ j, j < i → h1 49 j = nI (a_po (P.2 (2 * j))) ∧ h1 50 j = nI (P.2 (2 * j + 1) - 97)) → r_TM G m_Mo_plate (d + 4) 61 61 (fun v h' g' z' => ∃ r, v = some (.int r) ∧ F r h' g' z') 46 [(0, .ref (G.2.1 + 47)), (1, .int v)] [] 61 h1 (r_gp p q) z := by
  obtain ⟨v1, v2, v3, v4, v5, v6, v7, v8, v9, v10, v11⟩ := id hv
  have h28 := hp.1
  intro e
  induction e with
  | zero =>
    intro i v h1 he hv hy hr
    subst hv
    refine j_iload_n d_Mo_plate_46 rfl rfl ?_
    refine j_aload_n d_Mo_plate_47 rfl rfl ?_
    refine j_geti d_Mo_plate_48 f_Mo_93 rfl rfl (by decide) ?_
    refine j_icmp_ge (tgt := 96) d_Mo_plate_51 rfl (fun bq1 => ?_) (fun bq1 => False.elim (bq1 (by rw [hy.2 3 (by decide), h3]; exact nI_le (by omega) (by omega))))
    refine j_pick [0] (ls' := [(0, _)]) rfl ?_
    have e0 : i = E / 2 := by omega
    subst e0
    exact kk _ hy hr
  | succ e ih =>
    intro i v h1 he hv hy hr
    subst hv
    have hG1 : p_G h1 P := hG.ey hy (by decide) (by decide)
    have h8 := v8 i (by omega)
    refine j_iload_n d_Mo_plate_46 rfl rfl ?_
    refine j_aload_n d_Mo_plate_47 rfl rfl ?_
    refine j_geti d_Mo_plate_48 f_Mo_93 rfl rfl (by decide) ?_
    refine j_icmp_ge (tgt := 96) d_Mo_plate_51 rfl (fun bq1 => False.elim (nI_ge (a := i) (b := E / 2) (by omega) (by omega) (by rw [← h3, ← hy.2 3 (by decide)]; exact bq1))) (fun bq1 => ?_)
    refine j_aload_n d_Mo_plate_54 rfl rfl ?_
    refine j_getr d_Mo_plate_55 f_Mo_13 rfl rfl (by decide) rfl ?_
    refine j_iload_n d_Mo_plate_58 rfl rfl ?_
    refine j_aload_n d_Mo_plate_59 rfl rfl ?_
    refine j_getr d_Mo_plate_60 f_Mo_7 rfl rfl (by decide) rfl ?_
    refine j_iconst (v := 2) d_Mo_plate_63 rfl ?_
    refine j_iload_n d_Mo_plate_64 rfl rfl ?_
    refine j_imul d_Mo_plate_65 ?_
    refine j_iav d_Mo_plate_66 rfl (by decide) (j := 2 * i) (m2_0 i) (by omega) (by decide) (hG1.2 _ (by omega)) ?_
    refine q_i s_Mo_plate_67 rfl (Nat.le_of_ble_eq_true rfl) (Nat.le_of_ble_eq_true rfl) ?_
    refine c_Mo_placesBy (hp.2 _ (by omega)) rfl ?_
    refine j_iap d_Mo_plate_70 rfl (by decide) (j := i) (rfl) (by omega) (by decide) ?_
    refine j_aload_n d_Mo_plate_71 rfl rfl ?_
    refine j_getr d_Mo_plate_72 f_Mo_16 rfl rfl (by decide) rfl ?_
    refine j_iload_n d_Mo_plate_75 rfl rfl ?_
    refine j_aload_n d_Mo_plate_76 rfl rfl ?_
    refine j_getr d_Mo_plate_77 f_Mo_7 rfl rfl (by decide) rfl ?_
    refine j_iconst (v := 2) d_Mo_plate_80 rfl ?_
    refine j_iload_n d_Mo_plate_81 rfl rfl ?_
    refine j_imul d_Mo_plate_82 ?_
    refine j_iconst (v := 1) d_Mo_plate_83 rfl ?_
    refine j_iadd d_Mo_plate_84 ?_
    refine j_iav d_Mo_plate_85 rfl (by decide) (j := 2 * i + 1) (m2_1 i) (by omega) (by decide) (hG1.2 _ (by omega)) ?_
    refine j_bipush (v := 97) d_Mo_plate_86 (by decide) ?_
    refine j_isub d_Mo_plate_88 ?_
    rw [show nI (P.2 (2 * i + 1)) - 97 = nI (P.2 (2 * i + 1) - 97) from pk_sub (b := 97) (by omega)]
    refine j_iap d_Mo_plate_89 rfl (by decide) (j := i) (rfl) (by omega) (by decide) ?_
    refine j_iinc (ls' := [(1, _), (0, _)]) d_Mo_plate_90 rfl (by decide) rfl ?_
    refine j_goto (tgt := 46) d_Mo_plate_93 rfl ?_
    refine j_pick [1, 0] (ls' := [(0, _), (1, _)]) rfl ?_
    refine ih (i + 1) _ _ (by omega) (nI_inc i) ((hy.up (by decide) (by decide)).up (by decide) (by decide)) (fun j hj => ?_)
    show upd (h1 49) i (nI (a_po (P.2 (2 * i)))) j = nI (a_po (P.2 (2 * j))) ∧ upd (h1 50) i (nI (P.2 (2 * i + 1) - 97)) j = nI (P.2 (2 * j + 1) - 97)
    by_cases e9 : j = i
    · rw [e9, pk_us, pk_us]
      exact ⟨rfl, rfl⟩
    · rw [pk_un e9, pk_un e9]
      exact hr j (by omega)
set_option maxRecDepth 100000 in
set_option maxHeartbeats 4000000 in
theorem l_plate2 {G : r_X} {d : Nat} {h : r_HI} {p q : Nat} {z : r_HL} {F : Int32 → r_HI → r_HR → r_HL → Prop} (kk : (∀ h', r_ey [55] [] h h' → (∀ j, j < 6 → h' 55 j = 0) → r_TM G m_Mo_plate (d + 4) 61 61 (fun v h' g' z' => ∃ r, v = some (.int r) ∧ F r h' g' z') 196 [(0, .ref (G.2.1 + 47))] [] 61 h' (r_gp p q) z)) : ∀ (e i : Nat) (v : Int32) (h1 : r_HI), e + i = 6 → v = nI i → r_ey [55] [] h h1 → (∀ j, j < i → h1 55 j = 0) → r_TM G m_Mo_plate (d + 4) 61 61 (fun v h' g' z' => ∃ r, v = some (.int r) ∧ F r h' g' z') 177 [(0, .ref (G.2.1 + 47)), (1, .int v)] [] 61 h1 (r_gp p q) z := by
  intro e
  induction e with
  | zero =>
    intro i v h1 he hv hy hr
    subst hv
    refine j_iload_n d_Mo_plate_177 rfl rfl ?_
    refine j_bipush (v := 6) d_Mo_plate_178 (by decide) ?_
    refine j_icmp_ge (tgt := 196) d_Mo_plate_180 rfl (fun bq1 => ?_) (fun bq1 => False.elim (bq1 (nI_le (a := 6) (by omega) (by omega))))
    refine j_pick [0] (ls' := [(0, _)]) rfl ?_
    have e0 : i = 6 := by omega
    subst e0
    exact kk _ hy hr
  | succ e ih =>
    intro i v h1 he hv hy hr
    subst hv
    refine j_iload_n d_Mo_plate_177 rfl rfl ?_
    refine j_bipush (v := 6) d_Mo_plate_178 (by decide) ?_
    refine j_icmp_ge (tgt := 196) d_Mo_plate_180 rfl (fun bq1 => False.elim (nI_ge (b := 6) (by omega) (by omega) bq1)) (fun bq1 => ?_)
    refine j_aload_n d_Mo_plate_183 rfl rfl ?_
    refine j_getr d_Mo_plate_184 f_Mo_31 rfl rfl (by decide) rfl ?_
    refine j_iload_n d_Mo_plate_187 rfl rfl ?_
    refine j_iconst (v := 0) d_Mo_plate_188 rfl ?_
    refine j_iap d_Mo_plate_189 rfl (by decide) (j := i) (rfl) (by omega) (by decide) ?_
    refine j_iinc (ls' := [(1, _), (0, _)]) d_Mo_plate_190 rfl (by decide) rfl ?_
    refine j_goto (tgt := 177) d_Mo_plate_193 rfl ?_
    refine j_pick [1, 0] (ls' := [(0, _), (1, _)]) rfl ?_
    refine ih (i + 1) _ _ (by omega) (nI_inc i) (hy.up (by decide) (by decide)) (fun j hj => ?_)
    rw [r_up_k]
    by_cases e9 : j = i
    · rw [e9, pk_us]
    · rw [pk_un e9]
      exact hr j (by omega)
set_option maxRecDepth 100000 in
set_option maxHeartbeats 4000000 in
theorem c_Mo_plate {G : r_X} {d : Nat} {h : r_HI} {p q : Nat} {z : r_HL} {F : Int32 → r_HI → r_HR → r_HL → Prop} {Z : a_Z} (hM : p_M h Z) (ho : a_zok Z) (hF : ∀ h', r_ml h h' → p_M h' (s_plate Z).2 → F (s_plate Z).1 h' (r_gp p q) z) : r_Ci G m_Mo_plate (d + 20) 61 [.ref (G.2.1 + 47)] 61 h (r_gp p q) z F := by
  obtain ⟨mG, mN, mJ0, m6, mW, mS, m11, m20, mkk, mkp⟩ := id hM
  obtain ⟨op, ⟨od, ok, otk, ow, os, okd⟩, o3, o4, o5, o6, o7⟩ := id ho
  obtain ⟨od1, od2, od3, od4⟩ := id od
  obtain ⟨ok1, ok2, ok3, ok4⟩ := id ok
  have os1 := os.1
  have op1 := op.1
  by_cases hb : a_ipb Z.1 = true
  · obtain ⟨E, hv⟩ := a_vp_of op (a_ipb_iff.mp hb)
    obtain ⟨v1, v2, v3, v4, v5, v6, v7, v8, v9, v10, v11⟩ := id hv
    have hko : a_ko (Z.1.2 (Z.1.1 - 1)) < 5 := by rw [v4]; exact v11
    have hsz : a_re Z.1.2 Z.1.1 0 = E := v5
    subst hsz
    have hs : s_plate Z = (nI (a_re Z.1.2 Z.1.1 0 / 2), ((0, Z.1.2), (a_rd Z.1.2 (a_re Z.1.2 Z.1.1 0), a_K0, (fun _ => 0), (0, Z.2.1.2.2.2.1.2), a_ko (Z.1.2 (Z.1.1 - 1))), Z.2.2.1 + 1, Z.2.2.2.1, 0, Z.2.2.2.2.2)) := by simp [s_plate, hb]
    rw [hs] at hF
    refine r_C_of (by decide +kernel) (Nat.le_of_ble_eq_true rfl) ?_
    refine j_ls (ls' := [(0, _)]) rfl ?_
    refine j_aload_n d_Mo_plate_0 rfl rfl ?_
    refine q_i (s_Mo_plate_1 rfl (by decide)) rfl (Nat.le_of_ble_eq_true rfl) (Nat.le_of_ble_eq_true rfl) ?_
    refine c_Mo_faultOf mG op (fun h1 y1 e1 => ?_)
    have g1 : h1 47 1 = nI Z.1.1 := (y1.2 1 (by decide)).trans mG.1
    refine j_aload_n d_Mo_plate_4 rfl rfl ?_
    refine j_geti d_Mo_plate_5 f_Mo_59 rfl rfl (by decide) ?_
    refine j_icmp_lt (tgt := 31) d_Mo_plate_8 rfl (fun bq1 => False.elim (nI_nlt (a := (a_fl Z.1.2 Z.1.1 0 0).1) (b := Z.1.1) (by omega) (by omega) (by rw [← g1]; exact bq1))) (fun bq1 => ?_)
    refine j_aload_n d_Mo_plate_11 rfl rfl ?_
    refine j_geti d_Mo_plate_12 f_Mo_66 rfl rfl (by decide) ?_
    refine j_if_eq (tgt := 31) d_Mo_plate_15 rfl (fun bq2 => False.elim (absurd ((nI_eq (a := a_re Z.1.2 Z.1.1 0) (b := 0) (by omega) (by omega)).mp ((e1.trans (congrArg nI v7)).symm.trans bq2)) (by omega))) (fun bq2 => ?_)
    refine j_aload_n d_Mo_plate_18 rfl rfl ?_
    refine j_geti d_Mo_plate_19 f_Mo_59 rfl rfl (by decide) ?_
    refine j_aload_n d_Mo_plate_22 rfl rfl ?_
    refine j_geti d_Mo_plate_23 f_Mo_66 rfl rfl (by decide) ?_
    refine j_iconst (v := 5) d_Mo_plate_26 rfl ?_
    refine j_iadd d_Mo_plate_27 ?_
    refine j_icmp_eq (tgt := 34) d_Mo_plate_28 rfl (fun bq3 => ?_) (fun bq3 => False.elim (bq3 (by rw [g1, e1, v7]; exact (congrArg nI v4).trans (nI_add _ 5).symm)))
    refine j_aload_n d_Mo_plate_34 rfl rfl ?_
    refine j_aload_n d_Mo_plate_35 rfl rfl ?_
    refine j_geti d_Mo_plate_36 f_Mo_66 rfl rfl (by decide) ?_
    refine j_iconst (v := 2) d_Mo_plate_39 rfl ?_
    refine j_idiv d_Mo_plate_40 (by decide) ?_
    rw [show h1 47 2 / 2 = nI (a_re Z.1.2 Z.1.1 0 / 2) by rw [e1, v7]; exact pk_div (d := 2) (by omega) (by decide) (by decide)]
    refine j_puti d_Mo_plate_41 f_Mo_93 (by decide) rfl rfl (by decide) ?_
    refine j_iconst (v := 0) d_Mo_plate_44 rfl ?_
    refine j_istore_n (ls' := [(1, _), (0, _)]) d_Mo_plate_45 rfl (by decide) rfl ?_
    refine j_pick [1, 0] (ls' := [(0, _), (1, _)]) rfl ?_
    have y2 : r_ey [] [2, 3] h (r_up h1 47 3 (nI (a_re Z.1.2 Z.1.1 0 / 2))) := (y1.mono (by decide) (by decide)).fl (by decide)
    have h2e : r_up h1 47 3 (nI (a_re Z.1.2 Z.1.1 0 / 2)) 47 2 = nI (a_re Z.1.2 Z.1.1 0) := e1.trans (congrArg nI v7)
    refine l_plate1 (mG.ey y2 (by decide) (by decide)) op hv rfl (fun h2 y3 r3 => ?_) (a_re Z.1.2 Z.1.1 0 / 2) 0 _ _ (by omega) rfl r_ey.rf (fun j hj => absurd hj (Nat.not_lt_zero j))
    have e2 : h2 47 2 = nI (a_re Z.1.2 Z.1.1 0) := (y3.2 2 (by decide)).trans h2e
    have G2 : p_G h2 Z.1 := (mG.ey y2 (by decide) (by decide)).ey y3 (by decide) (by decide)
    have y4 : r_ey [49, 50] [2, 3] h h2 := (y2.mono (by decide) (by decide)).tr y3 (by decide) (by decide)
    refine j_aload_n d_Mo_plate_96 rfl rfl ?_
    refine j_aload_n d_Mo_plate_97 rfl rfl ?_
    refine j_getr d_Mo_plate_98 f_Mo_7 rfl rfl (by decide) rfl ?_
    refine j_aload_n d_Mo_plate_101 rfl rfl ?_
    refine j_geti d_Mo_plate_102 f_Mo_66 rfl rfl (by decide) ?_
    refine j_iconst (v := 1) d_Mo_plate_105 rfl ?_
    refine j_iadd d_Mo_plate_106 ?_
    refine j_iav d_Mo_plate_107 rfl (by decide) (j := a_re Z.1.2 Z.1.1 0 + 1) (by show h2 47 2 + 1 = _; rw [e2]; exact nI_add _ 1) (by omega) (by decide) (G2.2 _ (by omega)) ?_
    refine j_bipush (v := 48) d_Mo_plate_108 (by decide) ?_
    refine j_isub d_Mo_plate_110 ?_
    rw [show nI (Z.1.2 (a_re Z.1.2 Z.1.1 0 + 1)) - 48 = nI (Z.1.2 (a_re Z.1.2 Z.1.1 0 + 1) - 48) from pk_sub (b := 48) (by omega)]
    refine j_puti d_Mo_plate_111 f_Mo_96 (by decide) rfl rfl (by decide) ?_
    refine j_aload_n d_Mo_plate_114 rfl rfl ?_
    refine j_aload_n d_Mo_plate_115 rfl rfl ?_
    refine j_getr d_Mo_plate_116 f_Mo_7 rfl rfl (by decide) rfl ?_
    refine j_aload_n d_Mo_plate_119 rfl rfl ?_
    refine j_geti d_Mo_plate_120 f_Mo_66 rfl rfl (by decide) ?_
    refine j_iconst (v := 2) d_Mo_plate_123 rfl ?_
    refine j_iadd d_Mo_plate_124 ?_
    refine j_iav d_Mo_plate_125 rfl (by decide) (j := a_re Z.1.2 Z.1.1 0 + 2) (by show h2 47 2 + 2 = _; rw [e2]; exact nI_add _ 2) (by omega) (by decide) (G2.2 _ (by omega)) ?_
    refine j_bipush (v := 48) d_Mo_plate_126 (by decide) ?_
    refine j_isub d_Mo_plate_128 ?_
    rw [show nI (Z.1.2 (a_re Z.1.2 Z.1.1 0 + 2)) - 48 = nI (Z.1.2 (a_re Z.1.2 Z.1.1 0 + 2) - 48) from pk_sub (b := 48) (by omega)]
    refine j_puti d_Mo_plate_129 f_Mo_99 (by decide) rfl rfl (by decide) ?_
    refine j_aload_n d_Mo_plate_132 rfl rfl ?_
    refine j_aload_n d_Mo_plate_133 rfl rfl ?_
    refine j_getr d_Mo_plate_134 f_Mo_7 rfl rfl (by decide) rfl ?_
    refine j_aload_n d_Mo_plate_137 rfl rfl ?_
    refine j_geti d_Mo_plate_138 f_Mo_66 rfl rfl (by decide) ?_
    refine j_iconst (v := 4) d_Mo_plate_141 rfl ?_
    refine j_iadd d_Mo_plate_142 ?_
    refine j_iav d_Mo_plate_143 rfl (by decide) (j := a_re Z.1.2 Z.1.1 0 + 4) (by show h2 47 2 + 4 = _; rw [e2]; exact nI_add _ 4) (by omega) (by decide) (G2.2 _ (by omega)) ?_
    refine q_i s_Mo_plate_144 rfl (Nat.le_of_ble_eq_true rfl) (Nat.le_of_ble_eq_true rfl) ?_
    refine c_Mo_kindBy (op.2 _ (by omega)) rfl ?_
    rw [if_neg (by omega)]
    refine j_puti d_Mo_plate_147 f_Mo_102 (by decide) rfl rfl (by decide) ?_
    refine j_aload_n d_Mo_plate_150 rfl rfl ?_
    refine j_iconst (v := 0) d_Mo_plate_151 rfl ?_
    refine j_puti d_Mo_plate_152 f_Mo_105 (by decide) rfl rfl (by decide) ?_
    refine j_aload_n d_Mo_plate_155 rfl rfl ?_
    refine j_iconst (v := 0) d_Mo_plate_156 rfl ?_
    refine j_puti d_Mo_plate_157 f_Mo_108 (by decide) rfl rfl (by decide) ?_
    refine j_aload_n d_Mo_plate_160 rfl rfl ?_
    refine j_iconst (v := 1) d_Mo_plate_161 rfl ?_
    refine j_puti d_Mo_plate_162 f_Mo_111 (by decide) rfl rfl (by decide) ?_
    refine j_aload_n d_Mo_plate_165 rfl rfl ?_
    refine j_iconst (v := 0) d_Mo_plate_166 rfl ?_
    refine j_puti d_Mo_plate_167 f_Mo_114 (by decide) rfl rfl (by decide) ?_
    refine j_aload_n d_Mo_plate_170 rfl rfl ?_
    refine j_iconst (v := 0) d_Mo_plate_171 rfl ?_
    refine j_puti d_Mo_plate_172 f_Mo_117 (by decide) rfl rfl (by decide) ?_
    refine j_iconst (v := 0) d_Mo_plate_175 rfl ?_
    refine j_istore_n (ls' := [(1, _), (0, _)]) d_Mo_plate_176 rfl (by decide) rfl ?_
    refine j_pick [1, 0] (ls' := [(0, _), (1, _)]) rfl ?_
    refine l_plate2 (fun h3 y5 r5 => ?_) 6 0 _ _ (by omega) rfl r_ey.rf (fun j hj => absurd hj (Nat.not_lt_zero j))
    refine j_aload_n d_Mo_plate_196 rfl rfl ?_
    refine j_dup d_Mo_plate_197 rfl ?_
    refine j_geti d_Mo_plate_198 f_Mo_120 rfl rfl (by decide) ?_
    refine j_iconst (v := 1) d_Mo_plate_201 rfl ?_
    refine j_iadd d_Mo_plate_202 ?_
    refine j_st (st' := [.int (h3 47 11 + 1), .ref (G.2.1 + 47)]) rfl ?_
    rw [show h3 47 11 = nI Z.2.2.1 from (y5.2 11 (by decide)).trans ((y4.2 11 (by decide)).trans m11), nI_1]
    refine j_puti d_Mo_plate_203 f_Mo_120 (by decide) rfl rfl (by decide) ?_
    refine j_aload_n d_Mo_plate_206 rfl rfl ?_
    refine j_iconst (v := 0) d_Mo_plate_207 rfl ?_
    refine j_puti d_Mo_plate_208 f_Mo_59 (by decide) rfl rfl (by decide) ?_
    refine j_aload_n d_Mo_plate_211 rfl rfl ?_
    refine j_geti d_Mo_plate_212 f_Mo_93 rfl rfl (by decide) ?_
    refine j_iret d_Mo_plate_215 rfl ?_
    have hr3 : h3 47 3 = nI (a_re Z.1.2 Z.1.1 0 / 2) := (y5.2 3 (by decide)).trans (y3.2 3 (by decide))
    refine q_y1 (A := [49, 50, 55]) (J := [1, 2, 3, 4, 5, 6, 7, 8, 9, 10, 11, 24]) (h := h) (((r_ey.tr ((((((((((y4.mono (by decide) (by decide)).fl (by decide)).fl (by decide)).fl (by decide)).fl (by decide)).fl (by decide)).fl (by decide)).fl (by decide)).fl (by decide))) y5 (by decide) (by decide)).fl (by decide)).fl (by decide)) (fun yy => hF _ (yy.ml (by decide)) ?_) hr3
    have hkk := mkk
    obtain ⟨kq, q1, q2, q3, q4, q5⟩ := hkk
    refine ⟨⟨rfl, fun i hi => absurd hi (Nat.not_lt_zero i)⟩, ⟨hr3, y5.2 4 (by decide), y5.2 5 (by decide), fun i hi => ?_⟩, ?_, (y5.2 6 (by decide)).trans (by show nI (a_ko (Z.1.2 (a_re Z.1.2 Z.1.1 0 + 4))) = _; rw [show Z.1.1 - 1 = a_re Z.1.2 Z.1.1 0 + 4 by omega]), r5, ⟨y5.2 24 (by decide), fun i hi => absurd hi (Nat.not_lt_zero i)⟩, rfl, ?_, ⟨kq, (yy.2 27 (by decide)).trans q1, q2, ?_, fun _ => ?_, fun f => absurd (show (0 : Nat) = 1 from f) (by decide)⟩, fun f => absurd (show (0 : Nat) = 1 from f) (by decide)⟩
    · have hi : i < a_re Z.1.2 Z.1.1 0 / 2 := hi
      obtain ⟨a1, a2⟩ := r3 i hi
      exact ⟨(congrFun (y5.1 49 (by decide) (by decide)) i).trans a1, (congrFun (y5.1 50 (by decide) (by decide)) i).trans a2⟩
    · show p_J _ (z_w (a_rd Z.1.2 (a_re Z.1.2 Z.1.1 0)) a_K0)
      rw [z_w_eq (show ¬ a_re Z.1.2 Z.1.1 0 / 2 = 0 by omega)]
      exact ⟨y5.2 7 (by decide), y5.2 8 (by decide), y5.2 9 (by decide), y5.2 10 (by decide), fun i hi => absurd hi (Nat.not_lt_zero i)⟩
    · exact (yy.2 20 (by decide)).trans m20
    · show kq ≤ ((Z.2.2.1 + 1 : Nat) : Int)
      omega
    · show kq < ((Z.2.2.1 + 1 : Nat) : Int)
      omega
  · have hs : s_plate Z = (-103, Z) := by simp [s_plate, hb]
    rw [hs] at hF
    have hle := a_fl_le Z.1.2 Z.1.1 0 0
    by_cases hf : (a_fl Z.1.2 Z.1.1 0 0).1 = Z.1.1
    · rcases a_fl_B Z.1.2 Z.1.1 0 (by omega) with ⟨w1, w2⟩ | ⟨E, w1, w2, w3, w4, w5, w6, w7, w8⟩
      · refine r_C_of (by decide +kernel) (Nat.le_of_ble_eq_true rfl) ?_
        refine j_ls (ls' := [(0, _)]) rfl ?_
        refine j_aload_n d_Mo_plate_0 rfl rfl ?_
        refine q_i (s_Mo_plate_1 rfl (by decide)) rfl (Nat.le_of_ble_eq_true rfl) (Nat.le_of_ble_eq_true rfl) ?_
        refine c_Mo_faultOf mG op (fun h1 y1 e1 => ?_)
        have g1 : h1 47 1 = nI Z.1.1 := (y1.2 1 (by decide)).trans mG.1
        refine j_aload_n d_Mo_plate_4 rfl rfl ?_
        refine j_geti d_Mo_plate_5 f_Mo_59 rfl rfl (by decide) ?_
        refine j_icmp_lt (tgt := 31) d_Mo_plate_8 rfl (fun bq1 => False.elim (nI_nlt (a := (a_fl Z.1.2 Z.1.1 0 0).1) (b := Z.1.1) (by omega) (by omega) (by rw [← g1]; exact bq1))) (fun bq1 => ?_)
        refine j_aload_n d_Mo_plate_11 rfl rfl ?_
        refine j_geti d_Mo_plate_12 f_Mo_66 rfl rfl (by decide) ?_
        refine j_if_eq (tgt := 31) d_Mo_plate_15 rfl (fun bq2 => ?_) (fun bq2 => False.elim (bq2 (e1.trans (congrArg nI w2))))
        refine j_bipush (v := (-103)) d_Mo_plate_31 (by decide) ?_
        refine j_iret d_Mo_plate_33 rfl ?_
        have yy : r_ey r_As r_Js h h1 := y1.mono (by decide) (by decide)
        exact q_i1 (hF _ (yy.ml (by decide)) (hM.scr yy)) rfl
      · have h59 := a_fr_59 w5
        have hne : ¬ Z.1.1 = E + 5 := fun e => hb (a_ipb_iff.mpr ⟨hf, by rw [w3]; exact e⟩)
        refine r_C_of (by decide +kernel) (Nat.le_of_ble_eq_true rfl) ?_
        refine j_ls (ls' := [(0, _)]) rfl ?_
        refine j_aload_n d_Mo_plate_0 rfl rfl ?_
        refine q_i (s_Mo_plate_1 rfl (by decide)) rfl (Nat.le_of_ble_eq_true rfl) (Nat.le_of_ble_eq_true rfl) ?_
        refine c_Mo_faultOf mG op (fun h1 y1 e1 => ?_)
        have g1 : h1 47 1 = nI Z.1.1 := (y1.2 1 (by decide)).trans mG.1
        refine j_aload_n d_Mo_plate_4 rfl rfl ?_
        refine j_geti d_Mo_plate_5 f_Mo_59 rfl rfl (by decide) ?_
        refine j_icmp_lt (tgt := 31) d_Mo_plate_8 rfl (fun bq1 => False.elim (nI_nlt (a := (a_fl Z.1.2 Z.1.1 0 0).1) (b := Z.1.1) (by omega) (by omega) (by rw [← g1]; exact bq1))) (fun bq1 => ?_)
        refine j_aload_n d_Mo_plate_11 rfl rfl ?_
        refine j_geti d_Mo_plate_12 f_Mo_66 rfl rfl (by decide) ?_
        refine j_if_eq (tgt := 31) d_Mo_plate_15 rfl (fun bq2 => False.elim (absurd ((nI_eq (a := E) (b := 0) (by omega) (by omega)).mp ((e1.trans (congrArg nI w8)).symm.trans bq2)) (by omega))) (fun bq2 => ?_)
        refine j_aload_n d_Mo_plate_18 rfl rfl ?_
        refine j_geti d_Mo_plate_19 f_Mo_59 rfl rfl (by decide) ?_
        refine j_aload_n d_Mo_plate_22 rfl rfl ?_
        refine j_geti d_Mo_plate_23 f_Mo_66 rfl rfl (by decide) ?_
        refine j_iconst (v := 5) d_Mo_plate_26 rfl ?_
        refine j_iadd d_Mo_plate_27 ?_
        refine j_icmp_eq (tgt := 34) d_Mo_plate_28 rfl (fun bq3 => False.elim (hne ((nI_eq (by omega) (by omega)).mp (g1.symm.trans (bq3.trans (by rw [e1, w8]; exact nI_add E 5)))))) (fun bq3 => ?_)
        refine j_bipush (v := (-103)) d_Mo_plate_31 (by decide) ?_
        refine j_iret d_Mo_plate_33 rfl ?_
        have yy : r_ey r_As r_Js h h1 := y1.mono (by decide) (by decide)
        exact q_i1 (hF _ (yy.ml (by decide)) (hM.scr yy)) rfl
    · have hlt : (a_fl Z.1.2 Z.1.1 0 0).1 < Z.1.1 := by omega
      refine r_C_of (by decide +kernel) (Nat.le_of_ble_eq_true rfl) ?_
      refine j_ls (ls' := [(0, _)]) rfl ?_
      refine j_aload_n d_Mo_plate_0 rfl rfl ?_
      refine q_i (s_Mo_plate_1 rfl (by decide)) rfl (Nat.le_of_ble_eq_true rfl) (Nat.le_of_ble_eq_true rfl) ?_
      refine c_Mo_faultOf mG op (fun h1 y1 e1 => ?_)
      have g1 : h1 47 1 = nI Z.1.1 := (y1.2 1 (by decide)).trans mG.1
      refine j_aload_n d_Mo_plate_4 rfl rfl ?_
      refine j_geti d_Mo_plate_5 f_Mo_59 rfl rfl (by decide) ?_
      refine j_icmp_lt (tgt := 31) d_Mo_plate_8 rfl (fun bq1 => ?_) (fun bq1 => False.elim (bq1 (by rw [g1]; exact nI_lt hlt (by omega))))
      refine j_bipush (v := (-103)) d_Mo_plate_31 (by decide) ?_
      refine j_iret d_Mo_plate_33 rfl ?_
      have yy : r_ey r_As r_Js h h1 := y1.mono (by decide) (by decide)
      exact q_i1 (hF _ (yy.ml (by decide)) (hM.scr yy)) rfl
