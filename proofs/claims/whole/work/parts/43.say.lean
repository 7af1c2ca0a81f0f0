set_option maxRecDepth 100000 in
set_option maxHeartbeats 4000000 in
theorem c_Mo_say {G : r_X} {d : Nat} {h : r_HI} {p q : Nat} {z : r_HL} {F : r_HI → r_HR → r_HL → Prop} {x y : Int64} (hx : z 47 40 = x) (hF : ∀ z', z' 47 40 = 31 * x + y → F h (r_gp p q) z') : r_Cv G m_Mo_say (d) 61 [.ref (G.2.1 + 47), .long y] 61 h (r_gp p q) z F := by
  refine r_C_of (by decide +kernel) (Nat.le_of_ble_eq_true rfl) ?_
  refine j_ls (ls' := [(0, _), (1, _)]) rfl ?_
  refine j_aload_n d_Mo_say_0 rfl rfl ?_
  refine j_ldc2 d_Mo_say_1 k_Mo_321 ?_
  refine j_aload_n d_Mo_say_4 rfl rfl ?_
  refine j_getl d_Mo_say_5 f_Mo_323 rfl rfl (by decide) ?_
  refine j_lmul d_Mo_say_8 ?_
  refine j_lload_n d_Mo_say_9 rfl rfl ?_
  refine j_ladd d_Mo_say_10 ?_
  refine j_putl d_Mo_say_11 f_Mo_323 (by decide) rfl rfl (by decide) ?_
  refine j_vret d_Mo_say_14 rfl ?_
  exact ⟨rfl, hF _ (by rw [r_uz_k, hx]; exact pk_uLs)⟩
set_option maxRecDepth 100000 in
set_option maxHeartbeats 4000000 in
theorem m_dg1 {G : r_X} {d : Nat} {h : r_HI} {p q : Nat} {F : Int64 → r_HI → r_HR → r_HL → Prop} {Z : a_Z} (hM : p_M h Z) (ho : a_zok Z) {i : Nat} (hi : i < Z.2.1.1.1) {y : Int64} (kk : (∀ h' z' vv, r_ey r_As r_Js h h' → z' 47 40 = y → r_TM G m_Mo_digest (d + 9) 61 61 (fun v h' g' z' => ∃ r, v = some (.long r) ∧ F r h' g' z') 41 [(0, .ref (G.2.1 + 47)), (1, .int (nI i)), (2, .int vv)] [] 61 h' (r_gp p q) z')) : ∀ (e v : Nat) (vv : Int32) (x : Int64) (h1 : r_HI) (z1 : r_HL), e + v = 5 → vv = nI v → r_ey r_As r_Js h h1 → z1 47 40 = x → a_dg (fun v => s_ring Z (nI i) (nI v)) e v x = y → r_TM G m_Mo_digest (d + 9) 61 61 (fun v h' g' z' => ∃ r, v = some (.long r) ∧ F r h' g' z') 19 [(0, .ref (G.2.1 + 47)), (1, .int (nI i)), (2, .int vv)] [] 61 h1 (r_gp p q) z1 := by
  obtain ⟨mG, mN, mJ0, m6, mW, mS, m11, m20, mkk, mkp⟩ := id hM
  obtain ⟨op, ⟨od, ok, otk, ow, os, okd⟩, o3, o4, o5, o6, o7⟩ := id ho
  obtain ⟨od1, od2, od3, od4⟩ := id od
  obtain ⟨ok1, ok2, ok3, ok4⟩ := id ok
  have os1 := os.1
  have op1 := op.1
  intro e
  induction e with
  | zero =>
    intro v vv x h1 z1 he hv hy hz hdg
    subst hv
    replace hdg : x = y := hdg
    subst hdg
    have hM1 := hM.scr hy
    obtain ⟨nG, nN, nJ0, n6, nW, nS, n11, n20, nkk, nkp⟩ := id hM1
    refine j_iload_n d_Mo_digest_19 rfl rfl ?_
    refine j_iconst (v := 5) d_Mo_digest_20 rfl ?_
    refine j_icmp_ge (tgt := 41) d_Mo_digest_21 rfl (fun bq1 => ?_) (fun bq1 => False.elim (bq1 (nI_le (a := 5) (by omega) (by omega))))
    exact kk _ _ _ hy hz
  | succ e ih =>
    intro v vv x h1 z1 he hv hy hz hdg
    subst hv
    have hM1 := hM.scr hy
    obtain ⟨nG, nN, nJ0, n6, nW, nS, n11, n20, nkk, nkp⟩ := id hM1
    refine j_iload_n d_Mo_digest_19 rfl rfl ?_
    refine j_iconst (v := 5) d_Mo_digest_20 rfl ?_
    refine j_icmp_ge (tgt := 41) d_Mo_digest_21 rfl (fun bq1 => False.elim (nI_ge (b := 5) (by omega) (by omega) bq1)) (fun bq1 => ?_)
    refine j_aload_n d_Mo_digest_24 rfl rfl ?_
    refine j_aload_n d_Mo_digest_25 rfl rfl ?_
    refine j_iload_n d_Mo_digest_26 rfl rfl ?_
    refine j_iload_n d_Mo_digest_27 rfl rfl ?_
    refine q_i (s_Mo_digest_28 rfl (by decide)) rfl (Nat.le_of_ble_eq_true rfl) (Nat.le_of_ble_eq_true rfl) ?_
    refine c_Mo_tellRing hM1 ho hi rfl ?_
    refine j_i2l d_Mo_digest_31 ?_
    refine q_v (s_Mo_digest_32 rfl (by decide)) rfl (Nat.le_of_ble_eq_true rfl) (Nat.le_of_ble_eq_true rfl) ?_
    refine c_Mo_say (x := x) hz (fun z2 hz2 => ?_)
    refine j_iinc (ls' := [(2, _), (0, _), (1, _)]) d_Mo_digest_35 rfl (by decide) rfl ?_
    refine j_goto (tgt := 19) d_Mo_digest_38 rfl ?_
    refine j_pick [1, 2, 0] (ls' := [(0, _), (1, _), (2, _)]) rfl ?_
    exact ih (v + 1) _ _ h1 _ (by omega) (nI_inc v) hy hz2 hdg
set_option maxRecDepth 100000 in
set_option maxHeartbeats 4000000 in
theorem m_dg2 {G : r_X} {d : Nat} {h : r_HI} {p q : Nat} {F : Int64 → r_HI → r_HR → r_HL → Prop} {Z : a_Z} (hM : p_M h Z) (ho : a_zok Z) {i : Nat} (hi : i < Z.2.1.2.1.2.2.2.1) {y : Int64} (kk : (∀ h' z' vv, r_ey r_As r_Js h h' → z' 47 40 = y → r_TM G m_Mo_digest (d + 9) 61 61 (fun v h' g' z' => ∃ r, v = some (.long r) ∧ F r h' g' z') 105 [(0, .ref (G.2.1 + 47)), (1, .int (nI i)), (2, .int vv)] [] 61 h' (r_gp p q) z')) : ∀ (e v : Nat) (vv : Int32) (x : Int64) (h1 : r_HI) (z1 : r_HL), e + v = 4 → vv = nI v → r_ey r_As r_Js h h1 → z1 47 40 = x → a_dg (fun v => s_asked Z (nI i) (nI v)) e v x = y → r_TM G m_Mo_digest (d + 9) 61 61 (fun v h' g' z' => ∃ r, v = some (.long r) ∧ F r h' g' z') 83 [(0, .ref (G.2.1 + 47)), (1, .int (nI i)), (2, .int vv)] [] 61 h1 (r_gp p q) z1 := by
  obtain ⟨mG, mN, mJ0, m6, mW, mS, m11, m20, mkk, mkp⟩ := id hM
  obtain ⟨op, ⟨od, ok, otk, ow, os, okd⟩, o3, o4, o5, o6, o7⟩ := id ho
  obtain ⟨od1, od2, od3, od4⟩ := id od
  obtain ⟨ok1, ok2, ok3, ok4⟩ := id ok
  have os1 := os.1
  have op1 := op.1
  intro e
  induction e with
  | zero =>
    intro v vv x h1 z1 he hv hy hz hdg
    subst hv
    replace hdg : x = y := hdg
    subst hdg
    have hM1 := hM.scr hy
    obtain ⟨nG, nN, nJ0, n6, nW, nS, n11, n20, nkk, nkp⟩ := id hM1
    refine j_iload_n d_Mo_digest_83 rfl rfl ?_
    refine j_iconst (v := 4) d_Mo_digest_84 rfl ?_
    refine j_icmp_ge (tgt := 105) d_Mo_digest_85 rfl (fun bq1 => ?_) (fun bq1 => False.elim (bq1 (nI_le (a := 4) (by omega) (by omega))))
    exact kk _ _ _ hy hz
  | succ e ih =>
    intro v vv x h1 z1 he hv hy hz hdg
    subst hv
    have hM1 := hM.scr hy
    obtain ⟨nG, nN, nJ0, n6, nW, nS, n11, n20, nkk, nkp⟩ := id hM1
    refine j_iload_n d_Mo_digest_83 rfl rfl ?_
    refine j_iconst (v := 4) d_Mo_digest_84 rfl ?_
    refine j_icmp_ge (tgt := 105) d_Mo_digest_85 rfl (fun bq1 => False.elim (nI_ge (b := 4) (by omega) (by omega) bq1)) (fun bq1 => ?_)
    refine j_aload_n d_Mo_digest_88 rfl rfl ?_
    refine j_aload_n d_Mo_digest_89 rfl rfl ?_
    refine j_iload_n d_Mo_digest_90 rfl rfl ?_
    refine j_iload_n d_Mo_digest_91 rfl rfl ?_
    refine q_i (s_Mo_digest_92 rfl (by decide)) rfl (Nat.le_of_ble_eq_true rfl) (Nat.le_of_ble_eq_true rfl) ?_
    refine c_Mo_tellAsked hM1 ho hi rfl (v := v) (by omega) rfl (fun h2 y2 => ?_)
    refine j_i2l d_Mo_digest_95 ?_
    refine q_v (s_Mo_digest_96 rfl (by decide)) rfl (Nat.le_of_ble_eq_true rfl) (Nat.le_of_ble_eq_true rfl) ?_
    refine c_Mo_say (x := x) hz (fun z2 hz2 => ?_)
    refine j_iinc (ls' := [(2, _), (0, _), (1, _)]) d_Mo_digest_99 rfl (by decide) rfl ?_
    refine j_goto (tgt := 83) d_Mo_digest_102 rfl ?_
    refine j_pick [1, 2, 0] (ls' := [(0, _), (1, _), (2, _)]) rfl ?_
    exact ih (v + 1) _ _ h2 _ (by omega) (nI_inc v) (hy.tr y2 (fun _ q => q) (fun _ q => q)) hz2 hdg
set_option maxRecDepth 100000 in
set_option maxHeartbeats 4000000 in
theorem m_dg3 {G : r_X} {d : Nat} {h : r_HI} {p q : Nat} {F : Int64 → r_HI → r_HR → r_HL → Prop} {Z : a_Z} (hM : p_M h Z) (ho : a_zok Z) {y : Int64} (kk : (∀ h' z' vv, r_ey r_As r_Js h h' → z' 47 40 = y → r_TM G m_Mo_digest (d + 9) 61 61 (fun v h' g' z' => ∃ r, v = some (.long r) ∧ F r h' g' z') 149 [(0, .ref (G.2.1 + 47)), (1, .int vv)] [] 61 h' (r_gp p q) z')) : ∀ (e v : Nat) (vv : Int32) (x : Int64) (h1 : r_HI) (z1 : r_HL), e + v = Z.1.1 → vv = nI v → r_ey r_As r_Js h h1 → z1 47 40 = x → a_dg (fun i => nI (Z.1.2 i)) e v x = y → r_TM G m_Mo_digest (d + 9) 61 61 (fun v h' g' z' => ∃ r, v = some (.long r) ∧ F r h' g' z') 124 [(0, .ref (G.2.1 + 47)), (1, .int vv)] [] 61 h1 (r_gp p q) z1 := by
  obtain ⟨mG, mN, mJ0, m6, mW, mS, m11, m20, mkk, mkp⟩ := id hM
  obtain ⟨op, ⟨od, ok, otk, ow, os, okd⟩, o3, o4, o5, o6, o7⟩ := id ho
  obtain ⟨od1, od2, od3, od4⟩ := id od
  obtain ⟨ok1, ok2, ok3, ok4⟩ := id ok
  have os1 := os.1
  have op1 := op.1
  intro e
  induction e with
  | zero =>
    intro v vv x h1 z1 he hv hy hz hdg
    subst hv
    replace hdg : x = y := hdg
    subst hdg
    have hM1 := hM.scr hy
    obtain ⟨nG, nN, nJ0, n6, nW, nS, n11, n20, nkk, nkp⟩ := id hM1
    refine j_iload_n d_Mo_digest_124 rfl rfl ?_
    refine j_aload_n d_Mo_digest_125 rfl rfl ?_
    refine j_geti d_Mo_digest_126 f_Mo_59 rfl rfl (by decide) ?_
    refine j_icmp_ge (tgt := 149) d_Mo_digest_129 rfl (fun bq1 => ?_) (fun bq1 => False.elim (bq1 (by rw [nG.1]; exact nI_le (by omega) (by omega))))
    exact kk _ _ _ hy hz
  | succ e ih =>
    intro v vv x h1 z1 he hv hy hz hdg
    subst hv
    have hM1 := hM.scr hy
    obtain ⟨nG, nN, nJ0, n6, nW, nS, n11, n20, nkk, nkp⟩ := id hM1
    refine j_iload_n d_Mo_digest_124 rfl rfl ?_
    refine j_aload_n d_Mo_digest_125 rfl rfl ?_
    refine j_geti d_Mo_digest_126 f_Mo_59 rfl rfl (by decide) ?_
    refine j_icmp_ge (tgt := 149) d_Mo_digest_129 rfl (fun bq1 => False.elim (nI_ge (by omega) (by omega) (nG.1 ▸ bq1))) (fun bq1 => ?_)
    refine j_aload_n d_Mo_digest_132 rfl rfl ?_
    refine j_aload_n d_Mo_digest_133 rfl rfl ?_
    refine j_getr d_Mo_digest_134 f_Mo_7 rfl rfl (by decide) rfl ?_
    refine j_iload_n d_Mo_digest_137 rfl rfl ?_
    refine j_iav d_Mo_digest_138 rfl (by decide) (j := v) (rfl) (by omega) (by decide) (nG.2 v (by omega)) ?_
    refine j_i2l d_Mo_digest_139 ?_
    refine q_v (s_Mo_digest_140 rfl (by decide)) rfl (Nat.le_of_ble_eq_true rfl) (Nat.le_of_ble_eq_true rfl) ?_
    refine c_Mo_say (x := x) hz (fun z2 hz2 => ?_)
    refine j_iinc (ls' := [(1, _), (0, _)]) d_Mo_digest_143 rfl (by decide) rfl ?_
    refine j_goto (tgt := 124) d_Mo_digest_146 rfl ?_
    refine j_pick [1, 0] (ls' := [(0, _), (1, _)]) rfl ?_
    exact ih (v + 1) _ _ h1 _ (by omega) (nI_inc v) hy hz2 hdg
set_option maxRecDepth 100000 in
set_option maxHeartbeats 4000000 in
theorem m_dg4 {G : r_X} {d : Nat} {h : r_HI} {p q : Nat} {F : Int64 → r_HI → r_HR → r_HL → Prop} {Z : a_Z} (hM : p_M h Z) (ho : a_zok Z) {y : Int64} (kk : (∀ h' z' vv, r_ey r_As r_Js h h' → z' 47 40 = y → r_TM G m_Mo_digest (d + 9) 61 61 (fun v h' g' z' => ∃ r, v = some (.long r) ∧ F r h' g' z') 173 [(0, .ref (G.2.1 + 47)), (1, .int vv)] [] 61 h' (r_gp p q) z')) : ∀ (e v : Nat) (vv : Int32) (x : Int64) (h1 : r_HI) (z1 : r_HL), e + v = 13 → vv = nI v → r_ey r_As r_Js h h1 → z1 47 40 = x → a_dg (fun v => s_count Z (nI v)) e v x = y → r_TM G m_Mo_digest (d + 9) 61 61 (fun v h' g' z' => ∃ r, v = some (.long r) ∧ F r h' g' z') 151 [(0, .ref (G.2.1 + 47)), (1, .int vv)] [] 61 h1 (r_gp p q) z1 := by
  obtain ⟨mG, mN, mJ0, m6, mW, mS, m11, m20, mkk, mkp⟩ := id hM
  obtain ⟨op, ⟨od, ok, otk, ow, os, okd⟩, o3, o4, o5, o6, o7⟩ := id ho
  obtain ⟨od1, od2, od3, od4⟩ := id od
  obtain ⟨ok1, ok2, ok3, ok4⟩ := id ok
  have os1 := os.1
  have op1 := op.1
  intro e
  induction e with
  | zero =>
    intro v vv x h1 z1 he hv hy hz hdg
    subst hv
    replace hdg : x = y := hdg
    subst hdg
    have hM1 := hM.scr hy
    obtain ⟨nG, nN, nJ0, n6, nW, nS, n11, n20, nkk, nkp⟩ := id hM1
    refine j_iload_n d_Mo_digest_151 rfl rfl ?_
    refine j_bipush (v := 13) d_Mo_digest_152 (by decide) ?_
    refine j_icmp_ge (tgt := 173) d_Mo_digest_154 rfl (fun bq1 => ?_) (fun bq1 => False.elim (bq1 (nI_le (a := 13) (by omega) (by omega))))
    exact kk _ _ _ hy hz
  | succ e ih =>
    intro v vv x h1 z1 he hv hy hz hdg
    subst hv
    have hM1 := hM.scr hy
    obtain ⟨nG, nN, nJ0, n6, nW, nS, n11, n20, nkk, nkp⟩ := id hM1
    refine j_iload_n d_Mo_digest_151 rfl rfl ?_
    refine j_bipush (v := 13) d_Mo_digest_152 (by decide) ?_
    refine j_icmp_ge (tgt := 173) d_Mo_digest_154 rfl (fun bq1 => False.elim (nI_ge (b := 13) (by omega) (by omega) bq1)) (fun bq1 => ?_)
    refine j_aload_n d_Mo_digest_157 rfl rfl ?_
    refine j_aload_n d_Mo_digest_158 rfl rfl ?_
    refine j_iload_n d_Mo_digest_159 rfl rfl ?_
    refine q_i (s_Mo_digest_160 rfl (by decide)) rfl (Nat.le_of_ble_eq_true rfl) (Nat.le_of_ble_eq_true rfl) ?_
    refine c_Mo_countOf hM1 ho ?_
    refine j_i2l d_Mo_digest_163 ?_
    refine q_v (s_Mo_digest_164 rfl (by decide)) rfl (Nat.le_of_ble_eq_true rfl) (Nat.le_of_ble_eq_true rfl) ?_
    refine c_Mo_say (x := x) hz (fun z2 hz2 => ?_)
    refine j_iinc (ls' := [(1, _), (0, _)]) d_Mo_digest_167 rfl (by decide) rfl ?_
    refine j_goto (tgt := 151) d_Mo_digest_170 rfl ?_
    refine j_pick [1, 0] (ls' := [(0, _), (1, _)]) rfl ?_
    exact ih (v + 1) _ _ h1 _ (by omega) (nI_inc v) hy hz2 hdg
set_option maxRecDepth 100000 in
set_option maxHeartbeats 4000000 in
theorem m_sp2 {G : r_X} {d : Nat} {h : r_HI} {p q : Nat} {F : r_HI → r_HR → r_HL → Prop} {Z : a_Z} (hM : p_M h Z) (ho : a_zok Z) {y : Int64} (kk : (∀ h' z' vv, r_ey r_As r_Js h h' → z' 47 40 = y → r_TM G m_Mo_sayPlate (d + 8) 61 61 (fun v h' g' z' => v = none ∧ F h' g' z') 126 [(0, .ref (G.2.1 + 47)), (1, .int vv)] [] 61 h' (r_gp p q) z')) : ∀ (e v : Nat) (vv : Int32) (x : Int64) (h1 : r_HI) (z1 : r_HL), e + v = 6 → vv = nI v → r_ey r_As r_Js h h1 → z1 47 40 = x → a_dg (fun t => a_lay1 Z.2.1.2.2.1 (10 + t)) e v x = y → r_TM G m_Mo_sayPlate (d + 8) 61 61 (fun v h' g' z' => v = none ∧ F h' g' z') 101 [(0, .ref (G.2.1 + 47)), (1, .int vv)] [] 61 h1 (r_gp p q) z1 := by
  obtain ⟨mG, mN, mJ0, m6, mW, mS, m11, m20, mkk, mkp⟩ := id hM
  obtain ⟨op, ⟨od, ok, otk, ow, os, okd⟩, o3, o4, o5, o6, o7⟩ := id ho
  obtain ⟨od1, od2, od3, od4⟩ := id od
  obtain ⟨ok1, ok2, ok3, ok4⟩ := id ok
  have os1 := os.1
  have op1 := op.1
  intro e
  induction e with
  | zero =>
    intro v vv x h1 z1 he hv hy hz hdg
    subst hv
    replace hdg : x = y := hdg
    subst hdg
    have hM1 := hM.scr hy
    obtain ⟨nG, nN, nJ0, n6, nW, nS, n11, n20, nkk, nkp⟩ := id hM1
    refine j_iload_n d_Mo_sayPlate_101 rfl rfl ?_
    refine j_bipush (v := 6) d_Mo_sayPlate_102 (by decide) ?_
    refine j_icmp_ge (tgt := 126) d_Mo_sayPlate_104 rfl (fun bq1 => ?_) (fun bq1 => False.elim (bq1 (nI_le (a := 6) (by omega) (by omega))))
    exact kk _ _ _ hy hz
  | succ e ih =>
    intro v vv x h1 z1 he hv hy hz hdg
    subst hv
    have hM1 := hM.scr hy
    obtain ⟨nG, nN, nJ0, n6, nW, nS, n11, n20, nkk, nkp⟩ := id hM1
    refine j_iload_n d_Mo_sayPlate_101 rfl rfl ?_
    refine j_bipush (v := 6) d_Mo_sayPlate_102 (by decide) ?_
    refine j_icmp_ge (tgt := 126) d_Mo_sayPlate_104 rfl (fun bq1 => False.elim (nI_ge (b := 6) (by omega) (by omega) bq1)) (fun bq1 => ?_)
    refine j_aload_n d_Mo_sayPlate_107 rfl rfl ?_
    refine j_aload_n d_Mo_sayPlate_108 rfl rfl ?_
    refine j_bipush (v := 10) d_Mo_sayPlate_109 (by decide) ?_
    refine j_iload_n d_Mo_sayPlate_111 rfl rfl ?_
    refine j_iadd d_Mo_sayPlate_112 ?_
    refine q_i (s_Mo_sayPlate_113 rfl (by decide)) rfl (Nat.le_of_ble_eq_true rfl) (Nat.le_of_ble_eq_true rfl) ?_
    refine c_Mo_layOf nW ow (t := v) (by omega) (nI_add 10 v) (fun h2 y2' => ?_)
    have y2 : r_ey r_As r_Js h1 h2 := y2'.mono (by decide) (by decide)
    have e9 : (if v < a_hm Z.2.1.2.2.1 6 then nI ((a_lyy Z.2.1.2.2.1).2.getD v 0) else -1) = a_lay1 Z.2.1.2.2.1 (10 + v) := by
      unfold a_lay1
      rw [if_neg (show ¬ 10 + v = 0 by omega), show 10 + v - 10 = v by omega]
    rw [e9]
    refine j_i2l d_Mo_sayPlate_116 ?_
    refine q_v (s_Mo_sayPlate_117 rfl (by decide)) rfl (Nat.le_of_ble_eq_true rfl) (Nat.le_of_ble_eq_true rfl) ?_
    refine c_Mo_say (x := x) hz (fun z2 hz2 => ?_)
    refine j_iinc (ls' := [(1, _), (0, _)]) d_Mo_sayPlate_120 rfl (by decide) rfl ?_
    refine j_goto (tgt := 101) d_Mo_sayPlate_123 rfl ?_
    refine j_pick [1, 0] (ls' := [(0, _), (1, _)]) rfl ?_
    exact ih (v + 1) _ _ h2 _ (by omega) (nI_inc v) (hy.tr y2 (fun _ q => q) (fun _ q => q)) hz2 hdg
set_option maxRecDepth 100000 in
set_option maxHeartbeats 4000000 in
theorem m_sp1 {G : r_X} {d : Nat} {h : r_HI} {p q : Nat} {F : r_HI → r_HR → r_HL → Prop} {Z : a_Z} (hM : p_M h Z) (ho : a_zok Z) (hR : ¬ Z.2.1.1.1 = 0) {y : Int64} (kk : (∀ h' z' vv, r_ey r_As r_Js h h' → z' 47 40 = y → r_TM G m_Mo_sayPlate (d + 8) 61 61 (fun v h' g' z' => v = none ∧ F h' g' z') 53 [(0, .ref (G.2.1 + 47)), (1, .int vv)] [] 61 h' (r_gp p q) z')) : ∀ (e k : Nat) (vv : Int32) (x : Int64) (h1 : r_HI) (z1 : r_HL), e + k = 5 → vv = nI k → r_ey r_As r_Js h h1 → z1 47 40 = x → s_mc Z e k x = y → r_TM G m_Mo_sayPlate (d + 8) 61 61 (fun v h' g' z' => v = none ∧ F h' g' z') 20 [(0, .ref (G.2.1 + 47)), (1, .int vv)] [] 61 h1 (r_gp p q) z1 := by
  obtain ⟨mG, mN, mJ0, m6, mW, mS, m11, m20, mkk, mkp⟩ := id hM
  obtain ⟨op, ⟨od, ok, otk, ow, os, okd⟩, o3, o4, o5, o6, o7⟩ := id ho
  obtain ⟨od1, od2, od3, od4⟩ := id od
  obtain ⟨ok1, ok2, ok3, ok4⟩ := id ok
  have os1 := os.1
  have op1 := op.1
  intro e
  induction e with
  | zero =>
    intro k vv x h1 z1 he hv hy hz hdg
    subst hv
    replace hdg : x = y := hdg
    subst hdg
    refine j_iload_n d_Mo_sayPlate_20 rfl rfl ?_
    refine j_iconst (v := 5) d_Mo_sayPlate_21 rfl ?_
    refine j_icmp_ge (tgt := 53) d_Mo_sayPlate_22 rfl (fun bq1 => ?_) (fun bq1 => False.elim (bq1 (nI_le (a := 5) (by omega) (by omega))))
    exact kk _ _ _ hy hz
  | succ e ih =>
    intro k vv x h1 z1 he hv hy hz hdg
    subst hv
    have hM1 := hM.scr hy
    obtain ⟨nG, nN, nJ0, n6, nW, nS, n11, n20, nkk, nkp⟩ := id hM1
    have hJ1 : p_J h1 Z.2.1.2.1 := by rw [← z_w_eq (K := Z.2.1.2.1) hR]; exact nJ0
    refine j_iload_n d_Mo_sayPlate_20 rfl rfl ?_
    refine j_iconst (v := 5) d_Mo_sayPlate_21 rfl ?_
    refine j_icmp_ge (tgt := 53) d_Mo_sayPlate_22 rfl (fun bq1 => False.elim (nI_ge (b := 5) (by omega) (by omega) bq1)) (fun bq1 => ?_)
    refine j_aload_n d_Mo_sayPlate_25 rfl rfl ?_
    refine j_aload_n d_Mo_sayPlate_26 rfl rfl ?_
    refine j_iload_n d_Mo_sayPlate_27 rfl rfl ?_
    refine j_iconst (v := 0) d_Mo_sayPlate_28 rfl ?_
    refine q_i (s_Mo_sayPlate_29 rfl (by decide)) rfl (Nat.le_of_ble_eq_true rfl) (Nat.le_of_ble_eq_true rfl) ?_
    refine c_Mo_runOf0 nN od hJ1 ok otk (k := k) (by omega) rfl rfl (fun h2 y2 t2 => ?_)
    have y3 : r_ey r_As r_Js h1 h2 := y2.mono (by decide) (by decide)
    have hM2 := hM1.scr y3
    have hJ2 : p_J h2 Z.2.1.2.1 := by rw [← z_w_eq (K := Z.2.1.2.1) hR]; exact hM2.2.2.1
    refine j_i2l d_Mo_sayPlate_32 ?_
    refine q_v (s_Mo_sayPlate_33 rfl (by decide)) rfl (Nat.le_of_ble_eq_true rfl) (Nat.le_of_ble_eq_true rfl) ?_
    refine c_Mo_say (x := x) hz (fun z2 hz2 => ?_)
    refine j_aload_n d_Mo_sayPlate_36 rfl rfl ?_
    refine j_aload_n d_Mo_sayPlate_37 rfl rfl ?_
    refine j_iload_n d_Mo_sayPlate_38 rfl rfl ?_
    refine j_iconst (v := 1) d_Mo_sayPlate_39 rfl ?_
    refine q_i (s_Mo_sayPlate_40 rfl (by decide)) rfl (Nat.le_of_ble_eq_true rfl) (Nat.le_of_ble_eq_true rfl) ?_
    refine c_Mo_runOf1 hM2.2.1 od hJ2 ok otk (k := k) (by omega) rfl (by decide) (fun h3 y4 t3 => ?_)
    have y5 : r_ey r_As r_Js h2 h3 := y4.mono (by decide) (by decide)
    refine j_i2l d_Mo_sayPlate_43 ?_
    refine q_v (s_Mo_sayPlate_44 rfl (by decide)) rfl (Nat.le_of_ble_eq_true rfl) (Nat.le_of_ble_eq_true rfl) ?_
    refine c_Mo_say (x := _) hz2 (fun z3 hz3 => ?_)
    refine j_iinc (ls' := [(1, _), (0, _)]) d_Mo_sayPlate_47 rfl (by decide) rfl ?_
    refine j_goto (tgt := 20) d_Mo_sayPlate_50 rfl ?_
    refine j_pick [1, 0] (ls' := [(0, _), (1, _)]) rfl ?_
    exact ih (k + 1) _ _ h3 _ (by omega) (nI_inc k) ((hy.tr y3 (fun _ q => q) (fun _ q => q)).tr y5 (fun _ q => q) (fun _ q => q)) hz3 hdg
set_option maxRecDepth 100000 in
set_option maxHeartbeats 4000000 in
theorem c_Mo_sayPlate {G : r_X} {d : Nat} {h : r_HI} {p q : Nat} {z : r_HL} {F : r_HI → r_HR → r_HL → Prop} {Z : a_Z} (hM : p_M h Z) (ho : a_zok Z) (hR : ¬ Z.2.1.1.1 = 0) {x : Int64} (hz : z 47 40 = x) (hF : ∀ h' z', r_ey r_As r_Js h h' → z' 47 40 = s_mbs Z (s_mcs Z x) → F h' (r_gp p q) z') : r_Cv G m_Mo_sayPlate (d + 8) 61 [.ref (G.2.1 + 47)] 61 h (r_gp p q) z F := by
  obtain ⟨mG, mN, mJ0, m6, mW, mS, m11, m20, mkk, mkp⟩ := id hM
  obtain ⟨op, ⟨od, ok, otk, ow, os, okd⟩, o3, o4, o5, o6, o7⟩ := id ho
  obtain ⟨od1, od2, od3, od4⟩ := id od
  obtain ⟨ok1, ok2, ok3, ok4⟩ := id ok
  have os1 := os.1
  have op1 := op.1
  have hb : ∀ v, v < 3 → s_behind Z 0 1 (nI v) = nI (a_be Z.2.1.1 0 1 v) := fun v hv => by
    have i1 : a_ix 0 Z.2.1.1.1 = some 0 := a_ix_nI (j := 0) (by omega) (by omega)
    have i2 : a_ix 1 Z.2.1.1.1 = some 1 := a_ix_nI (j := 1) (by omega) (by omega)
    have i3 : a_ix (nI v) 3 = some v := a_ix_nI hv (by decide)
    simp [s_behind, i1, i2, i3]
  refine r_C_of (by decide +kernel) (Nat.le_of_ble_eq_true rfl) ?_
  refine j_ls (ls' := [(0, _)]) rfl ?_
  refine j_aload_n d_Mo_sayPlate_0 rfl rfl ?_
  refine j_aload_n d_Mo_sayPlate_1 rfl rfl ?_
  refine j_geti d_Mo_sayPlate_2 f_Mo_102 rfl rfl (by decide) ?_
  rw [m6]
  refine j_i2l d_Mo_sayPlate_5 ?_
  refine q_v (s_Mo_sayPlate_6 rfl (by decide)) rfl (Nat.le_of_ble_eq_true rfl) (Nat.le_of_ble_eq_true rfl) ?_
  refine c_Mo_say (x := x) hz (fun z1 hz1 => ?_)
  refine j_aload_n d_Mo_sayPlate_9 rfl rfl ?_
  refine j_aload_n d_Mo_sayPlate_10 rfl rfl ?_
  refine q_i (s_Mo_sayPlate_11 rfl (by decide)) rfl (Nat.le_of_ble_eq_true rfl) (Nat.le_of_ble_eq_true rfl) ?_
  refine c_Mo_nextOf hM ho hR (fun h1 y1 => ?_)
  refine j_i2l d_Mo_sayPlate_14 ?_
  refine q_v (s_Mo_sayPlate_15 rfl (by decide)) rfl (Nat.le_of_ble_eq_true rfl) (Nat.le_of_ble_eq_true rfl) ?_
  refine c_Mo_say (x := _) hz1 (fun z2 hz2 => ?_)
  refine j_iconst (v := 0) d_Mo_sayPlate_18 rfl ?_
  refine j_istore_n (ls' := [(1, _), (0, _)]) d_Mo_sayPlate_19 rfl (by decide) rfl ?_
  refine j_pick [1, 0] (ls' := [(0, _), (1, _)]) rfl ?_
  refine m_sp1 hM ho hR (fun h2 z3 v2 y2 hz3 => ?_) 5 0 _ _ h1 z2 (by omega) rfl y1 hz2 rfl
  have hM2 := hM.scr y2
  refine j_aload_n d_Mo_sayPlate_53 rfl rfl ?_
  refine j_aload_n d_Mo_sayPlate_54 rfl rfl ?_
  refine j_iconst (v := 0) d_Mo_sayPlate_55 rfl ?_
  refine j_iconst (v := 1) d_Mo_sayPlate_56 rfl ?_
  refine j_iconst (v := 0) d_Mo_sayPlate_57 rfl ?_
  refine q_i (s_Mo_sayPlate_58 rfl (by decide)) rfl (Nat.le_of_ble_eq_true rfl) (Nat.le_of_ble_eq_true rfl) ?_
  refine c_Mo_behindOf hM2.2.1 od (r := 0) (s := 1) (v := 0) (by omega) (by omega) (by decide) rfl rfl rfl ?_
  refine j_i2l d_Mo_sayPlate_61 ?_
  refine q_v (s_Mo_sayPlate_62 rfl (by decide)) rfl (Nat.le_of_ble_eq_true rfl) (Nat.le_of_ble_eq_true rfl) ?_
  refine c_Mo_say (x := _) hz3 (fun z4 hz4 => ?_)
  refine j_aload_n d_Mo_sayPlate_65 rfl rfl ?_
  refine j_aload_n d_Mo_sayPlate_66 rfl rfl ?_
  refine j_iconst (v := 0) d_Mo_sayPlate_67 rfl ?_
  refine j_iconst (v := 1) d_Mo_sayPlate_68 rfl ?_
  refine j_iconst (v := 1) d_Mo_sayPlate_69 rfl ?_
  refine q_i (s_Mo_sayPlate_70 rfl (by decide)) rfl (Nat.le_of_ble_eq_true rfl) (Nat.le_of_ble_eq_true rfl) ?_
  refine c_Mo_behindOf hM2.2.1 od (r := 0) (s := 1) (v := 1) (by omega) (by omega) (by decide) rfl rfl rfl ?_
  refine j_i2l d_Mo_sayPlate_73 ?_
  refine q_v (s_Mo_sayPlate_74 rfl (by decide)) rfl (Nat.le_of_ble_eq_true rfl) (Nat.le_of_ble_eq_true rfl) ?_
  refine c_Mo_say (x := _) hz4 (fun z5 hz5 => ?_)
  refine j_aload_n d_Mo_sayPlate_77 rfl rfl ?_
  refine j_aload_n d_Mo_sayPlate_78 rfl rfl ?_
  refine j_iconst (v := 0) d_Mo_sayPlate_79 rfl ?_
  refine j_iconst (v := 1) d_Mo_sayPlate_80 rfl ?_
  refine j_iconst (v := 2) d_Mo_sayPlate_81 rfl ?_
  refine q_i (s_Mo_sayPlate_82 rfl (by decide)) rfl (Nat.le_of_ble_eq_true rfl) (Nat.le_of_ble_eq_true rfl) ?_
  refine c_Mo_behindOf hM2.2.1 od (r := 0) (s := 1) (v := 2) (by omega) (by omega) (by decide) rfl rfl rfl ?_
  refine j_i2l d_Mo_sayPlate_85 ?_
  refine q_v (s_Mo_sayPlate_86 rfl (by decide)) rfl (Nat.le_of_ble_eq_true rfl) (Nat.le_of_ble_eq_true rfl) ?_
  refine c_Mo_say (x := _) hz5 (fun z6 hz6 => ?_)
  refine j_aload_n d_Mo_sayPlate_89 rfl rfl ?_
  refine j_aload_n d_Mo_sayPlate_90 rfl rfl ?_
  refine j_iconst (v := 0) d_Mo_sayPlate_91 rfl ?_
  refine q_i (s_Mo_sayPlate_92 rfl (by decide)) rfl (Nat.le_of_ble_eq_true rfl) (Nat.le_of_ble_eq_true rfl) ?_
  refine c_Mo_layOf0 hM2.2.2.2.2.1 ow rfl (fun h3 y3' => ?_)
  have y3 : r_ey r_As r_Js h h3 := y2.tr y3' (by decide) (by decide)
  refine j_i2l d_Mo_sayPlate_95 ?_
  refine q_v (s_Mo_sayPlate_96 rfl (by decide)) rfl (Nat.le_of_ble_eq_true rfl) (Nat.le_of_ble_eq_true rfl) ?_
  refine c_Mo_say (x := _) hz6 (fun z7 hz7 => ?_)
  refine j_iconst (v := 0) d_Mo_sayPlate_99 rfl ?_
  refine j_istore_n (ls' := [(1, _), (0, _)]) d_Mo_sayPlate_100 rfl (by decide) rfl ?_
  refine j_pick [1, 0] (ls' := [(0, _), (1, _)]) rfl ?_
  refine m_sp2 hM ho (fun h4 z8 v4 y4 hz8 => ?_) 6 0 _ _ h3 z7 (by omega) rfl y3 hz7 rfl
  have hM4 := hM.scr y4
  refine j_aload_n d_Mo_sayPlate_126 rfl rfl ?_
  refine j_aload_n d_Mo_sayPlate_127 rfl rfl ?_
  refine q_i (s_Mo_sayPlate_128 rfl (by decide)) rfl (Nat.le_of_ble_eq_true rfl) (Nat.le_of_ble_eq_true rfl) ?_
  refine c_Mo_stepsOf hM4.2.2.2.2.2.1 os hM4.2.1.2.1 od2 ?_
  refine j_i2l d_Mo_sayPlate_131 ?_
  refine q_v (s_Mo_sayPlate_132 rfl (by decide)) rfl (Nat.le_of_ble_eq_true rfl) (Nat.le_of_ble_eq_true rfl) ?_
  refine c_Mo_say (x := _) hz8 (fun z9 hz9 => ?_)
  refine j_aload_n d_Mo_sayPlate_135 rfl rfl ?_
  refine j_aload_n d_Mo_sayPlate_136 rfl rfl ?_
  refine q_i (s_Mo_sayPlate_137 rfl (by decide)) rfl (Nat.le_of_ble_eq_true rfl) (Nat.le_of_ble_eq_true rfl) ?_
  refine c_Mo_trialOf hM4.2.2.2.2.2.1 os hM4.2.1.2.1 od2 ?_
  refine j_i2l d_Mo_sayPlate_140 ?_
  refine q_v (s_Mo_sayPlate_141 rfl (by decide)) rfl (Nat.le_of_ble_eq_true rfl) (Nat.le_of_ble_eq_true rfl) ?_
  refine c_Mo_say (x := _) hz9 (fun z10 hz10 => ?_)
  refine j_vret d_Mo_sayPlate_144 rfl ?_
  refine ⟨rfl, hF _ _ y4 ?_⟩
  rw [hz10]
  unfold s_mbs s_mcs
  simp only [a_dg, a_mx, hb 0 (by decide), hb 1 (by decide), hb 2 (by decide)]
  rfl
set_option maxRecDepth 100000 in
set_option maxHeartbeats 4000000 in
theorem m_dgR {G : r_X} {d : Nat} {h : r_HI} {p q : Nat} {F : Int64 → r_HI → r_HR → r_HL → Prop} {Z : a_Z} (hM : p_M h Z) (ho : a_zok Z) {y : Int64} (kk : (∀ h' z' vv, r_ey r_As r_Js h h' → z' 47 40 = y → r_TM G m_Mo_digest (d + 9) 61 61 (fun v h' g' z' => ∃ r, v = some (.long r) ∧ F r h' g' z') 71 [(0, .ref (G.2.1 + 47)), (1, .int vv)] [] 61 h' (r_gp p q) z')) : ∀ (e i : Nat) (vv : Int32) (x : Int64) (h1 : r_HI) (z1 : r_HL), e + i = Z.2.1.1.1 → vv = nI i → r_ey r_As r_Js h h1 → z1 47 40 = x → s_mr Z e i x = y → r_TM G m_Mo_digest (d + 9) 61 61 (fun v h' g' z' => ∃ r, v = some (.long r) ∧ F r h' g' z') 9 [(0, .ref (G.2.1 + 47)), (1, .int vv)] [] 61 h1 (r_gp p q) z1 := by
  obtain ⟨mG, mN, mJ0, m6, mW, mS, m11, m20, mkk, mkp⟩ := id hM
  obtain ⟨op, ⟨od, ok, otk, ow, os, okd⟩, o3, o4, o5, o6, o7⟩ := id ho
  obtain ⟨od1, od2, od3, od4⟩ := id od
  obtain ⟨ok1, ok2, ok3, ok4⟩ := id ok
  have os1 := os.1
  have op1 := op.1
  intro e
  induction e with
  | zero =>
    intro i vv x h1 z1 he hv hy hz hdg
    subst hv
    replace hdg : x = y := hdg
    subst hdg
    have hM1 := hM.scr hy
    obtain ⟨nG, nN, nJ0, n6, nW, nS, n11, n20, nkk, nkp⟩ := id hM1
    refine j_iload_n d_Mo_digest_9 rfl rfl ?_
    refine j_aload_n d_Mo_digest_10 rfl rfl ?_
    refine j_geti d_Mo_digest_11 f_Mo_93 rfl rfl (by decide) ?_
    refine j_icmp_ge (tgt := 71) d_Mo_digest_14 rfl (fun bq1 => ?_) (fun bq1 => False.elim (bq1 (by rw [nN.1]; exact nI_le (by omega) (by omega))))
    exact kk _ _ _ hy hz
  | succ e ih =>
    intro i vv x h1 z1 he hv hy hz hdg
    subst hv
    have hM1 := hM.scr hy
    obtain ⟨nG, nN, nJ0, n6, nW, nS, n11, n20, nkk, nkp⟩ := id hM1
    refine j_iload_n d_Mo_digest_9 rfl rfl ?_
    refine j_aload_n d_Mo_digest_10 rfl rfl ?_
    refine j_geti d_Mo_digest_11 f_Mo_93 rfl rfl (by decide) ?_
    refine j_icmp_ge (tgt := 71) d_Mo_digest_14 rfl (fun bq1 => False.elim (nI_ge (by omega) (by omega) (nN.1 ▸ bq1))) (fun bq1 => ?_)
    refine j_iconst (v := 0) d_Mo_digest_17 rfl ?_
    refine j_istore_n (ls' := [(2, _), (0, _), (1, _)]) d_Mo_digest_18 rfl (by decide) rfl ?_
    refine j_pick [1, 2, 0] (ls' := [(0, _), (1, _), (2, _)]) rfl ?_
    refine m_dg1 hM ho (i := i) (by omega) (fun h2 z2 v2 y2 hz2 => ?_) 5 0 _ _ h1 z1 (by omega) rfl hy hz rfl
    have hM2 := hM.scr y2
    refine j_aload_n d_Mo_digest_41 rfl rfl ?_
    refine j_aload_n d_Mo_digest_42 rfl rfl ?_
    refine j_iload_n d_Mo_digest_43 rfl rfl ?_
    refine j_iconst (v := 5) d_Mo_digest_44 rfl ?_
    refine j_iconst (v := 0) d_Mo_digest_45 rfl ?_
    refine q_i (s_Mo_digest_46 rfl (by decide)) rfl (Nat.le_of_ble_eq_true rfl) (Nat.le_of_ble_eq_true rfl) ?_
    refine c_Mo_apartOf hM2.2.1 od (r := i) (th := 5) (v := 0) (by omega) (by decide) (by decide) rfl rfl rfl ?_
    refine j_i2l d_Mo_digest_49 ?_
    refine q_v (s_Mo_digest_50 rfl (by decide)) rfl (Nat.le_of_ble_eq_true rfl) (Nat.le_of_ble_eq_true rfl) ?_
    refine c_Mo_say (x := _) hz2 (fun z3 hz3 => ?_)
    refine j_aload_n d_Mo_digest_53 rfl rfl ?_
    refine j_aload_n d_Mo_digest_54 rfl rfl ?_
    refine j_iload_n d_Mo_digest_55 rfl rfl ?_
    refine j_iconst (v := 5) d_Mo_digest_56 rfl ?_
    refine j_iconst (v := 1) d_Mo_digest_57 rfl ?_
    refine q_i (s_Mo_digest_58 rfl (by decide)) rfl (Nat.le_of_ble_eq_true rfl) (Nat.le_of_ble_eq_true rfl) ?_
    refine c_Mo_apartOf hM2.2.1 od (r := i) (th := 5) (v := 1) (by omega) (by decide) (by decide) rfl rfl rfl ?_
    refine j_i2l d_Mo_digest_61 ?_
    refine q_v (s_Mo_digest_62 rfl (by decide)) rfl (Nat.le_of_ble_eq_true rfl) (Nat.le_of_ble_eq_true rfl) ?_
    refine c_Mo_say (x := _) hz3 (fun z4 hz4 => ?_)
    refine j_iinc (ls' := [(1, _), (0, _), (2, _)]) d_Mo_digest_65 rfl (by decide) rfl ?_
    refine j_goto (tgt := 9) d_Mo_digest_68 rfl ?_
    refine j_pick [1, 0] (ls' := [(0, _), (1, _)]) rfl ?_
    exact ih (i + 1) _ _ h2 _ (by omega) (nI_inc i) y2 hz4 hdg
set_option maxRecDepth 100000 in
set_option maxHeartbeats 4000000 in
theorem m_dgA {G : r_X} {d : Nat} {h : r_HI} {p q : Nat} {F : Int64 → r_HI → r_HR → r_HL → Prop} {Z : a_Z} (hM : p_M h Z) (ho : a_zok Z) {y : Int64} (kk : (∀ h' z' vv, r_ey r_As r_Js h h' → z' 47 40 = y → r_TM G m_Mo_digest (d + 9) 61 61 (fun v h' g' z' => ∃ r, v = some (.long r) ∧ F r h' g' z') 111 [(0, .ref (G.2.1 + 47)), (1, .int vv)] [] 61 h' (r_gp p q) z')) : ∀ (e i : Nat) (vv : Int32) (x : Int64) (h1 : r_HI) (z1 : r_HL), e + i = Z.2.1.2.1.2.2.2.1 → vv = nI i → r_ey r_As r_Js h h1 → z1 47 40 = x → s_ma Z e i x = y → r_TM G m_Mo_digest (d + 9) 61 61 (fun v h' g' z' => ∃ r, v = some (.long r) ∧ F r h' g' z') 73 [(0, .ref (G.2.1 + 47)), (1, .int vv)] [] 61 h1 (r_gp p q) z1 := by
  obtain ⟨mG, mN, mJ0, m6, mW, mS, m11, m20, mkk, mkp⟩ := id hM
  obtain ⟨op, ⟨od, ok, otk, ow, os, okd⟩, o3, o4, o5, o6, o7⟩ := id ho
  obtain ⟨od1, od2, od3, od4⟩ := id od
  obtain ⟨ok1, ok2, ok3, ok4⟩ := id ok
  have os1 := os.1
  have op1 := op.1
  intro e
  induction e with
  | zero =>
    intro i vv x h1 z1 he hv hy hz hdg
    subst hv
    replace hdg : x = y := hdg
    subst hdg
    have hM1 := hM.scr hy
    obtain ⟨nG, nN, nJ0, n6, nW, nS, n11, n20, nkk, nkp⟩ := id hM1
    refine j_iload_n d_Mo_digest_73 rfl rfl ?_
    refine j_aload_n d_Mo_digest_74 rfl rfl ?_
    refine j_geti d_Mo_digest_75 f_Mo_114 rfl rfl (by decide) ?_
    refine j_icmp_ge (tgt := 111) d_Mo_digest_78 rfl (fun bq1 => ?_) (fun bq1 => False.elim (bq1 (by rw [(show h1 47 10 = nI Z.2.1.2.1.2.2.2.1 from nJ0.2.2.2.1)]; exact nI_le (by omega) (by omega))))
    exact kk _ _ _ hy hz
  | succ e ih =>
    intro i vv x h1 z1 he hv hy hz hdg
    subst hv
    have hM1 := hM.scr hy
    obtain ⟨nG, nN, nJ0, n6, nW, nS, n11, n20, nkk, nkp⟩ := id hM1
    refine j_iload_n d_Mo_digest_73 rfl rfl ?_
    refine j_aload_n d_Mo_digest_74 rfl rfl ?_
    refine j_geti d_Mo_digest_75 f_Mo_114 rfl rfl (by decide) ?_
    refine j_icmp_ge (tgt := 111) d_Mo_digest_78 rfl (fun bq1 => False.elim (nI_ge (by omega) (by omega) ((show h1 47 10 = nI Z.2.1.2.1.2.2.2.1 from nJ0.2.2.2.1) ▸ bq1))) (fun bq1 => ?_)
    refine j_iconst (v := 0) d_Mo_digest_81 rfl ?_
    refine j_istore_n (ls' := [(2, _), (0, _), (1, _)]) d_Mo_digest_82 rfl (by decide) rfl ?_
    refine j_pick [1, 2, 0] (ls' := [(0, _), (1, _), (2, _)]) rfl ?_
    refine m_dg2 hM ho (i := i) (by omega) (fun h2 z2 v2 y2 hz2 => ?_) 4 0 _ _ h1 z1 (by omega) rfl hy hz rfl
    refine j_iinc (ls' := [(1, _), (0, _), (2, _)]) d_Mo_digest_105 rfl (by decide) rfl ?_
    refine j_goto (tgt := 73) d_Mo_digest_108 rfl ?_
    refine j_pick [1, 0] (ls' := [(0, _), (1, _)]) rfl ?_
    exact ih (i + 1) _ _ h2 _ (by omega) (nI_inc i) y2 hz2 hdg
set_option maxRecDepth 100000 in
set_option maxHeartbeats 4000000 in
theorem c_Mo_digest {G : r_X} {d : Nat} {h : r_HI} {p q : Nat} {z : r_HL} {F : Int64 → r_HI → r_HR → r_HL → Prop} {Z : a_Z} (hM : p_M h Z) (ho : a_zok Z) (hF : ∀ h' z', r_ey r_As r_Js h h' → F (s_digest Z) h' (r_gp p q) z') : r_Cl G m_Mo_digest (d + 9) 61 [.ref (G.2.1 + 47)] 61 h (r_gp p q) z F := by
  obtain ⟨mG, mN, mJ0, m6, mW, mS, m11, m20, mkk, mkp⟩ := id hM
  obtain ⟨op, ⟨od, ok, otk, ow, os, okd⟩, o3, o4, o5, o6, o7⟩ := id ho
  obtain ⟨od1, od2, od3, od4⟩ := id od
  obtain ⟨ok1, ok2, ok3, ok4⟩ := id ok
  have os1 := os.1
  have op1 := op.1
  refine r_C_of (by decide +kernel) (Nat.le_of_ble_eq_true rfl) ?_
  refine j_ls (ls' := [(0, _)]) rfl ?_
  refine j_aload_n d_Mo_digest_0 rfl rfl ?_
  refine j_ldc2 d_Mo_digest_1 k_Mo_331 ?_
  refine j_putl d_Mo_digest_4 f_Mo_323 (by decide) rfl rfl (by decide) ?_
  refine j_iconst (v := 0) d_Mo_digest_7 rfl ?_
  refine j_istore_n (ls' := [(1, _), (0, _)]) d_Mo_digest_8 rfl (by decide) rfl ?_
  refine j_pick [1, 0] (ls' := [(0, _), (1, _)]) rfl ?_
  refine m_dgR hM ho (fun h1 z1 v1 y1 hz1 => ?_) Z.2.1.1.1 0 _ 1291 h _ (by omega) rfl r_ey.rf (by rw [r_uz_k]; exact pk_uLs) rfl
  refine j_iconst (v := 0) d_Mo_digest_71 rfl ?_
  refine j_istore_n (ls' := [(1, _), (0, _)]) d_Mo_digest_72 rfl (by decide) rfl ?_
  refine j_pick [1, 0] (ls' := [(0, _), (1, _)]) rfl ?_
  refine m_dgA hM ho (fun h2 z2 v2 y2 hz2 => ?_) Z.2.1.2.1.2.2.2.1 0 _ _ h1 z1 (by omega) rfl y1 hz1 rfl
  have hM2 := hM.scr y2
  by_cases hR : Z.2.1.1.1 = 0
  · refine j_aload_n d_Mo_digest_111 rfl rfl ?_
    refine q_i (s_Mo_digest_112 rfl (by decide)) rfl (Nat.le_of_ble_eq_true rfl) (Nat.le_of_ble_eq_true rfl) ?_
    refine c_Mo_lacksY hM2.2.1 od hR ?_
    refine j_if_ne (tgt := 122) d_Mo_digest_115 rfl (fun bq1 => ?_) (fun bq1 => False.elim (absurd bq1 (by decide)))
    refine j_iconst (v := 0) d_Mo_digest_122 rfl ?_
    refine j_istore_n (ls' := [(1, _), (0, _)]) d_Mo_digest_123 rfl (by decide) rfl ?_
    refine j_pick [1, 0] (ls' := [(0, _), (1, _)]) rfl ?_
    refine m_dg3 hM ho (fun h4 z4 v4 y4 hz4 => ?_) Z.1.1 0 _ (s_dg1 Z) h2 z2 (by omega) rfl y2 (by rw [hz2, s_dg1, if_pos hR]) rfl
    refine j_iconst (v := 0) d_Mo_digest_149 rfl ?_
    refine j_istore_n (ls' := [(1, _), (0, _)]) d_Mo_digest_150 rfl (by decide) rfl ?_
    refine j_pick [1, 0] (ls' := [(0, _), (1, _)]) rfl ?_
    refine m_dg4 hM ho (fun h5 z5 v5 y5 hz5 => ?_) 13 0 _ _ h4 z4 (by omega) rfl y4 hz4 rfl
    refine j_aload_n d_Mo_digest_173 rfl rfl ?_
    refine j_getl d_Mo_digest_174 f_Mo_323 rfl rfl (by decide) ?_
    refine j_lret d_Mo_digest_177 rfl ?_
    exact q_l1 (hF _ _ y5) hz5
  · refine j_aload_n d_Mo_digest_111 rfl rfl ?_
    refine q_i (s_Mo_digest_112 rfl (by decide)) rfl (Nat.le_of_ble_eq_true rfl) (Nat.le_of_ble_eq_true rfl) ?_
    refine c_Mo_lacksN hM2.2.1 od hR ?_
    refine j_if_ne (tgt := 122) d_Mo_digest_115 rfl (fun bq1 => False.elim (bq1 rfl)) (fun bq1 => ?_)
    refine j_aload_n d_Mo_digest_118 rfl rfl ?_
    refine q_v (s_Mo_digest_119 rfl (by decide)) rfl (Nat.le_of_ble_eq_true rfl) (Nat.le_of_ble_eq_true rfl) ?_
    refine c_Mo_sayPlate hM2 ho hR hz2 (fun h3 z3 y3 hz3 => ?_)
    refine j_iconst (v := 0) d_Mo_digest_122 rfl ?_
    refine j_istore_n (ls' := [(1, _), (0, _)]) d_Mo_digest_123 rfl (by decide) rfl ?_
    refine j_pick [1, 0] (ls' := [(0, _), (1, _)]) rfl ?_
    refine m_dg3 hM ho (fun h4 z4 v4 y4 hz4 => ?_) Z.1.1 0 _ (s_dg1 Z) h3 z3 (by omega) rfl (y2.tr y3 (fun _ q => q) (fun _ q => q)) (by rw [hz3, s_dg1, if_neg hR]) rfl
    refine j_iconst (v := 0) d_Mo_digest_149 rfl ?_
    refine j_istore_n (ls' := [(1, _), (0, _)]) d_Mo_digest_150 rfl (by decide) rfl ?_
    refine j_pick [1, 0] (ls' := [(0, _), (1, _)]) rfl ?_
    refine m_dg4 hM ho (fun h5 z5 v5 y5 hz5 => ?_) 13 0 _ _ h4 z4 (by omega) rfl y4 hz4 rfl
    refine j_aload_n d_Mo_digest_173 rfl rfl ?_
    refine j_getl d_Mo_digest_174 f_Mo_323 rfl rfl (by decide) ?_
    refine j_lret d_Mo_digest_177 rfl ?_
    exact q_l1 (hF _ _ y5) hz5
