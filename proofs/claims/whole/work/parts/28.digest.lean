def a_mx (x : Int64) (v : Int32) : Int64 := 31 * x + v.toInt64
/-- m values from the i-th on, mixed in -/
def a_dg (f : Nat → Int32) : Nat → Nat → Int64 → Int64
  | 0, _, x => x
  | m + 1, i, x => a_dg f m (i + 1) (a_mx x (f i))
def s_mr1 (Z : a_Z) (i : Nat) (x : Int64) : Int64 := a_mx (a_mx (a_dg (fun v => s_ring Z (nI i) (nI v)) 5 0 x) (nI (a_ap (Z.2.1.1.2.2.2.1 i) 5 0))) (nI (a_ap (Z.2.1.1.2.2.2.1 i) 5 1))
def s_mr (Z : a_Z) : Nat → Nat → Int64 → Int64
  | 0, _, x => x
  | m + 1, i, x => s_mr Z m (i + 1) (s_mr1 Z i x)
def s_ma (Z : a_Z) : Nat → Nat → Int64 → Int64
  | 0, _, x => x
  | m + 1, i, x => s_ma Z m (i + 1) (a_dg (fun v => s_asked Z (nI i) (nI v)) 4 0 x)
def s_mc1 (Z : a_Z) (k : Nat) (x : Int64) : Int64 := a_mx (a_mx x (nI (a_all Z.2.1.1 k Z.2.1.2.1.2.2.2.1 Z.2.1.2.1 0).1.1)) (nI (a_all Z.2.1.1 k Z.2.1.2.1.2.2.2.1 Z.2.1.2.1 0).2)
def s_mc (Z : a_Z) : Nat → Nat → Int64 → Int64
  | 0, _, x => x
  | m + 1, k, x => s_mc Z m (k + 1) (s_mc1 Z k x)
def s_mcs (Z : a_Z) (x : Int64) : Int64 := s_mc Z 5 0 (a_mx (a_mx x (nI Z.2.1.2.2.2.2)) (if Z.2.1.2.1.2.2.2.1 = 0 then -1 else nI (a_nx Z.2.1.1 Z.2.1.2.1 Z.2.1.2.2.2.2)))
def s_mbs (Z : a_Z) (x : Int64) : Int64 := a_mx (a_mx (a_dg (fun t => a_lay1 Z.2.1.2.2.1 (10 + t)) 6 0 (a_mx (a_dg (fun v => s_behind Z 0 1 (nI v)) 3 0 x) (a_lay1 Z.2.1.2.2.1 0))) (nI (a_ft Z.2.1.1.2.1 Z.2.1.2.2.2.1 9))) (a_tri (a_ft Z.2.1.1.2.1 Z.2.1.2.2.2.1 9))
def s_dg1 (Z : a_Z) : Int64 := if Z.2.1.1.1 = 0 then s_ma Z Z.2.1.2.1.2.2.2.1 0 (s_mr Z Z.2.1.1.1 0 1291) else s_mbs Z (s_mcs Z (s_ma Z Z.2.1.2.1.2.2.2.1 0 (s_mr Z Z.2.1.1.1 0 1291)))
def s_digest (Z : a_Z) : Int64 := a_dg (fun v => s_count Z (nI v)) 13 0 (a_dg (fun i => nI (Z.1.2 i)) Z.1.1 0 (s_dg1 Z))
theorem q_l1 {F : Int64 → r_HI → r_HR → r_HL → Prop} {h : r_HI} {g : r_HR} {z : r_HL} {r r' : Int64} (hF : F r' h g z) (e : r = r') : ∃ q, some (Value.long r) = some (Value.long q) ∧ F q h g z := ⟨r, rfl, e ▸ hF⟩
set_option maxRecDepth 100000 in
set_option maxHeartbeats 4000000 in
theorem l_mr_in {G : r_X} {d : Nat} {h : r_HI} {p q : Nat} {z : r_HL} {F : Int64 → r_HI → r_HR → r_HL → Prop} {Z : a_Z} (hC : p_C h p q Z) (ho : a_zok Z) {i : Nat} (hi : i < Z.2.1.1.1) {y : Int64} (kk : r_TM G m_Ra_mixRings (d + 21) 61 61 (fun v h' g' z' => ∃ r, v = some (.long r) ∧ F r h' g' z') 47 [(0, .ref (G.2.1 + 0)), (1, .long y), (3, .int (nI i))] [] 61 h (r_gp p q) z) : ∀ (e v : Nat) (vv : Int32) (x : Int64), e + v = 5 → vv = nI v → a_dg (fun v => s_ring Z (nI i) (nI v)) e v x = y → r_TM G m_Ra_mixRings (d + 21) 61 61 (fun v h' g' z' => ∃ r, v = some (.long r) ∧ F r h' g' z') 22 [(0, .ref (G.2.1 + 0)), (1, .long x), (3, .int (nI i)), (4, .int vv)] [] 61 h (r_gp p q) z := by
  obtain ⟨hP, ⟨hD, hK, hW, hS⟩, hpr, hld, hik, hpo, hkd, hqo, hkept⟩ := id hC
  obtain ⟨op, ⟨od, ok, otk, ow, os, okd⟩, o3, o4, o5, o6, o7⟩ := id ho
  obtain ⟨od1, od2, od3, od4⟩ := id od
  obtain ⟨ok1, ok2, ok3, ok4⟩ := id ok
  have os1 := os.1
  have op1 := op.1
  intro e
  induction e with
  | zero =>
    intro v vv x he hv hy
    subst hv
    replace hy : x = y := hy
    subst hy
    refine j_iload d_Ra_mixRings_22 rfl ?_
    refine j_iconst (v := 4) d_Ra_mixRings_24 rfl ?_
    refine j_icmp_gt (tgt := 47) d_Ra_mixRings_25 rfl (fun bq1 => ?_) (fun bq1 => False.elim (bq1 (nI_lt (a := 4) (by omega) (by omega))))
    refine j_pick [0, 1, 2] (ls' := [(0, _), (1, _), (3, _)]) rfl ?_
    exact kk
  | succ e ih =>
    intro v vv x he hv hy
    subst hv
    refine j_iload d_Ra_mixRings_22 rfl ?_
    refine j_iconst (v := 4) d_Ra_mixRings_24 rfl ?_
    refine j_icmp_gt (tgt := 47) d_Ra_mixRings_25 rfl (fun bq1 => False.elim (nI_nlt (b := v) (a := 4) (by omega) (by omega) bq1)) (fun bq1 => ?_)
    refine j_lload_n d_Ra_mixRings_28 rfl rfl ?_
    refine j_aload_n d_Ra_mixRings_29 rfl rfl ?_
    refine j_iload_n d_Ra_mixRings_30 rfl rfl ?_
    refine j_iload d_Ra_mixRings_31 rfl ?_
    refine q_i (s_Ra_mixRings_33 rfl (by decide)) rfl (Nat.le_of_ble_eq_true rfl) (Nat.le_of_ble_eq_true rfl) ?_
    refine c_Ra_ring hC ho ?_
    refine j_i2l d_Ra_mixRings_36 ?_
    refine q_l s_Ra_mixRings_37 rfl (Nat.le_of_ble_eq_true rfl) (Nat.le_of_ble_eq_true rfl) ?_
    refine c_Ra_mix ?_
    refine j_lstore_n (ls' := [(1, _), (0, _), (3, _), (4, _)]) d_Ra_mixRings_40 rfl (by decide) rfl ?_
    refine j_iinc (ls' := [(4, _), (1, _), (0, _), (3, _)]) d_Ra_mixRings_41 rfl (by decide) rfl ?_
    refine j_goto (tgt := 22) d_Ra_mixRings_44 rfl ?_
    refine j_pick [2, 1, 3, 0] (ls' := [(0, _), (1, _), (3, _), (4, _)]) rfl ?_
    exact ih (v + 1) _ _ (by omega) (nI_inc v) hy
set_option maxRecDepth 100000 in
set_option maxHeartbeats 4000000 in
theorem l_mr {G : r_X} {d : Nat} {h : r_HI} {p q : Nat} {z : r_HL} {F : Int64 → r_HI → r_HR → r_HL → Prop} {Z : a_Z} (hC : p_C h p q Z) (ho : a_zok Z)  : ∀ (e i : Nat) (vv : Int32) (x : Int64), e + i = Z.2.1.1.1 → vv = nI i → F (s_mr Z e i x) h (r_gp p q) z → r_TM G m_Ra_mixRings (d + 21) 61 61 (fun v h' g' z' => ∃ r, v = some (.long r) ∧ F r h' g' z') 2 [(0, .ref (G.2.1 + 0)), (1, .long x), (3, .int vv)] [] 61 h (r_gp p q) z := by
  obtain ⟨hP, ⟨hD, hK, hW, hS⟩, hpr, hld, hik, hpo, hkd, hqo, hkept⟩ := id hC
  obtain ⟨op, ⟨od, ok, otk, ow, os, okd⟩, o3, o4, o5, o6, o7⟩ := id ho
  obtain ⟨od1, od2, od3, od4⟩ := id od
  obtain ⟨ok1, ok2, ok3, ok4⟩ := id ok
  have os1 := os.1
  have op1 := op.1
  intro e
  induction e with
  | zero =>
    intro i vv x he hv hF
    subst hv
    refine j_iload_n d_Ra_mixRings_2 rfl rfl ?_
    refine j_aload_n d_Ra_mixRings_3 rfl rfl ?_
    refine j_getr d_Ra_mixRings_4 f_Ra_19 rfl rfl (by decide) rfl ?_
    refine j_geti d_Ra_mixRings_7 f_Ra_140 rfl rfl (by decide) ?_
    refine j_icmp_ge (tgt := 89) d_Ra_mixRings_10 rfl (fun bq1 => ?_) (fun bq1 => False.elim (bq1 (by rw [hD.1]; exact nI_le (by omega) (by omega))))
    refine j_lload_n d_Ra_mixRings_89 rfl rfl ?_
    refine j_lret d_Ra_mixRings_90 rfl ?_
    exact q_l1 hF rfl
  | succ e ih =>
    intro i vv x he hv hF
    subst hv
    have hi : i < Z.2.1.1.1 := by omega
    have hpl := a_pl (od4 i hi).1
    have hbg : a_bg (Z.2.1.1.2.2.2.1 i) 5 (Z.2.1.1.2.2.2.1 i - 2) 2 1 < 12 := a_bg_lt _ _ _ (by omega) (by omega)
    refine j_iload_n d_Ra_mixRings_2 rfl rfl ?_
    refine j_aload_n d_Ra_mixRings_3 rfl rfl ?_
    refine j_getr d_Ra_mixRings_4 f_Ra_19 rfl rfl (by decide) rfl ?_
    refine j_geti d_Ra_mixRings_7 f_Ra_140 rfl rfl (by decide) ?_
    refine j_icmp_ge (tgt := 89) d_Ra_mixRings_10 rfl (fun bq1 => False.elim (nI_ge (by omega) (by omega) (hD.1 ▸ bq1))) (fun bq1 => ?_)
    refine j_iload_n d_Ra_mixRings_13 rfl rfl ?_
    refine j_bipush (v := 10) d_Ra_mixRings_14 (by decide) ?_
    refine j_icmp_ge (tgt := 89) d_Ra_mixRings_16 rfl (fun bq2 => False.elim (nI_ge (b := 10) (by omega) (by omega) bq2)) (fun bq2 => ?_)
    refine j_iconst (v := 0) d_Ra_mixRings_19 rfl ?_
    refine j_istore (ls' := [(4, _), (0, _), (1, _), (3, _)]) d_Ra_mixRings_20 (by decide) rfl ?_
    refine j_pick [1, 2, 3, 0] (ls' := [(0, _), (1, _), (3, _), (4, _)]) rfl ?_
    refine l_mr_in hC ho hi ?_ 5 0 _ _ (by omega) rfl rfl
    refine j_aload_n d_Ra_mixRings_47 rfl rfl ?_
    refine j_getr d_Ra_mixRings_48 f_Ra_19 rfl rfl (by decide) rfl ?_
    refine j_iload_n d_Ra_mixRings_51 rfl rfl ?_
    refine j_iconst (v := 5) d_Ra_mixRings_52 rfl ?_
    refine q_i (s_Ra_mixRings_53 rfl (by decide)) rfl (Nat.le_of_ble_eq_true rfl) (Nat.le_of_ble_eq_true rfl) ?_
    refine c_Di_bestGap hD od (r := i) (th := 5) hi (by decide) rfl rfl ?_
    refine j_istore (ls' := [(4, _), (0, _), (1, _), (3, _)]) d_Ra_mixRings_56 (by decide) rfl ?_
    refine j_lload_n d_Ra_mixRings_58 rfl rfl ?_
    refine j_iload d_Ra_mixRings_59 rfl ?_
    refine j_i2l d_Ra_mixRings_61 ?_
    refine q_l s_Ra_mixRings_62 rfl (Nat.le_of_ble_eq_true rfl) (Nat.le_of_ble_eq_true rfl) ?_
    refine c_Ra_mix ?_
    refine j_lstore_n (ls' := [(1, _), (4, _), (0, _), (3, _)]) d_Ra_mixRings_65 rfl (by decide) rfl ?_
    refine j_lload_n d_Ra_mixRings_66 rfl rfl ?_
    refine j_aload_n d_Ra_mixRings_67 rfl rfl ?_
    refine j_getr d_Ra_mixRings_68 f_Ra_19 rfl rfl (by decide) rfl ?_
    refine j_iload_n d_Ra_mixRings_71 rfl rfl ?_
    refine j_iconst (v := 5) d_Ra_mixRings_72 rfl ?_
    refine j_iload d_Ra_mixRings_73 rfl ?_
    refine q_i (s_Ra_mixRings_75 rfl (by decide)) rfl (Nat.le_of_ble_eq_true rfl) (Nat.le_of_ble_eq_true rfl) ?_
    refine c_Di_gapTicks hD od hi (by decide) hbg rfl rfl rfl ?_
    refine j_i2l d_Ra_mixRings_78 ?_
    refine q_l s_Ra_mixRings_79 rfl (Nat.le_of_ble_eq_true rfl) (Nat.le_of_ble_eq_true rfl) ?_
    refine c_Ra_mix ?_
    refine j_lstore_n (ls' := [(1, _), (4, _), (0, _), (3, _)]) d_Ra_mixRings_82 rfl (by decide) rfl ?_
    refine j_iinc (ls' := [(3, _), (1, _), (4, _), (0, _)]) d_Ra_mixRings_83 rfl (by decide) rfl ?_
    refine j_goto (tgt := 2) d_Ra_mixRings_86 rfl ?_
    refine j_pick [3, 1, 0] (ls' := [(0, _), (1, _), (3, _)]) rfl ?_
    exact ih (i + 1) _ _ (by omega) (nI_inc i) hF
set_option maxRecDepth 100000 in
set_option maxHeartbeats 4000000 in
theorem c_Ra_mixRings {G : r_X} {d : Nat} {h : r_HI} {p q : Nat} {z : r_HL} {F : Int64 → r_HI → r_HR → r_HL → Prop} {Z : a_Z} (hC : p_C h p q Z) (ho : a_zok Z) {x : Int64} (hF : F (s_mr Z Z.2.1.1.1 0 x) h (r_gp p q) z) : r_Cl G m_Ra_mixRings (d + 21) 61 [.ref (G.2.1 + 0), .long x] 61 h (r_gp p q) z F := by
  refine r_C_of (by decide +kernel) (Nat.le_of_ble_eq_true rfl) ?_
  refine j_ls (ls' := [(0, _), (1, _)]) rfl ?_
  refine j_iconst (v := 0) d_Ra_mixRings_0 rfl ?_
  refine j_istore_n (ls' := [(3, _), (0, _), (1, _)]) d_Ra_mixRings_1 rfl (by decide) rfl ?_
  refine j_pick [1, 2, 0] (ls' := [(0, _), (1, _), (3, _)]) rfl ?_
  exact l_mr hC ho _ 0 _ _ (by omega) rfl hF
set_option maxRecDepth 100000 in
set_option maxHeartbeats 4000000 in
theorem l_ma_in {G : r_X} {d : Nat} {h : r_HI} {p q : Nat} {z : r_HL} {F : Int64 → r_HI → r_HR → r_HL → Prop} {Z : a_Z} (hC : p_C h p q Z) (ho : a_zok Z) {i : Nat} (hi : i < Z.2.1.2.1.2.2.2.1) {y : Int64} (kk : r_TM G m_Ra_mixAsked (d + 21) 61 61 (fun v h' g' z' => ∃ r, v = some (.long r) ∧ F r h' g' z') 47 [(0, .ref (G.2.1 + 0)), (1, .long y), (3, .int (nI i))] [] 61 h (r_gp p q) z) : ∀ (e v : Nat) (vv : Int32) (x : Int64), e + v = 4 → vv = nI v → a_dg (fun v => s_asked Z (nI i) (nI v)) e v x = y → r_TM G m_Ra_mixAsked (d + 21) 61 61 (fun v h' g' z' => ∃ r, v = some (.long r) ∧ F r h' g' z') 22 [(0, .ref (G.2.1 + 0)), (1, .long x), (3, .int (nI i)), (4, .int vv)] [] 61 h (r_gp p q) z := by
  obtain ⟨hP, ⟨hD, hK, hW, hS⟩, hpr, hld, hik, hpo, hkd, hqo, hkept⟩ := id hC
  obtain ⟨op, ⟨od, ok, otk, ow, os, okd⟩, o3, o4, o5, o6, o7⟩ := id ho
  obtain ⟨od1, od2, od3, od4⟩ := id od
  obtain ⟨ok1, ok2, ok3, ok4⟩ := id ok
  have os1 := os.1
  have op1 := op.1
  intro e
  induction e with
  | zero =>
    intro v vv x he hv hy
    subst hv
    replace hy : x = y := hy
    subst hy
    refine j_iload d_Ra_mixAsked_22 rfl ?_
    refine j_iconst (v := 3) d_Ra_mixAsked_24 rfl ?_
    refine j_icmp_gt (tgt := 47) d_Ra_mixAsked_25 rfl (fun bq1 => ?_) (fun bq1 => False.elim (bq1 (nI_lt (a := 3) (by omega) (by omega))))
    refine j_pick [0, 1, 2] (ls' := [(0, _), (1, _), (3, _)]) rfl ?_
    exact kk
  | succ e ih =>
    intro v vv x he hv hy
    subst hv
    refine j_iload d_Ra_mixAsked_22 rfl ?_
    refine j_iconst (v := 3) d_Ra_mixAsked_24 rfl ?_
    refine j_icmp_gt (tgt := 47) d_Ra_mixAsked_25 rfl (fun bq1 => False.elim (nI_nlt (b := v) (a := 3) (by omega) (by omega) bq1)) (fun bq1 => ?_)
    refine j_lload_n d_Ra_mixAsked_28 rfl rfl ?_
    refine j_aload_n d_Ra_mixAsked_29 rfl rfl ?_
    refine j_iload_n d_Ra_mixAsked_30 rfl rfl ?_
    refine j_iload d_Ra_mixAsked_31 rfl ?_
    refine q_i (s_Ra_mixAsked_33 rfl (by decide)) rfl (Nat.le_of_ble_eq_true rfl) (Nat.le_of_ble_eq_true rfl) ?_
    refine c_Ra_asked hC ho ?_
    refine j_i2l d_Ra_mixAsked_36 ?_
    refine q_l s_Ra_mixAsked_37 rfl (Nat.le_of_ble_eq_true rfl) (Nat.le_of_ble_eq_true rfl) ?_
    refine c_Ra_mix ?_
    refine j_lstore_n (ls' := [(1, _), (0, _), (3, _), (4, _)]) d_Ra_mixAsked_40 rfl (by decide) rfl ?_
    refine j_iinc (ls' := [(4, _), (1, _), (0, _), (3, _)]) d_Ra_mixAsked_41 rfl (by decide) rfl ?_
    refine j_goto (tgt := 22) d_Ra_mixAsked_44 rfl ?_
    refine j_pick [2, 1, 3, 0] (ls' := [(0, _), (1, _), (3, _), (4, _)]) rfl ?_
    exact ih (v + 1) _ _ (by omega) (nI_inc v) hy
set_option maxRecDepth 100000 in
set_option maxHeartbeats 4000000 in
theorem l_ma {G : r_X} {d : Nat} {h : r_HI} {p q : Nat} {z : r_HL} {F : Int64 → r_HI → r_HR → r_HL → Prop} {Z : a_Z} (hC : p_C h p q Z) (ho : a_zok Z)  : ∀ (e i : Nat) (vv : Int32) (x : Int64), e + i = Z.2.1.2.1.2.2.2.1 → vv = nI i → F (s_ma Z e i x) h (r_gp p q) z → r_TM G m_Ra_mixAsked (d + 21) 61 61 (fun v h' g' z' => ∃ r, v = some (.long r) ∧ F r h' g' z') 2 [(0, .ref (G.2.1 + 0)), (1, .long x), (3, .int vv)] [] 61 h (r_gp p q) z := by
  obtain ⟨hP, ⟨hD, hK, hW, hS⟩, hpr, hld, hik, hpo, hkd, hqo, hkept⟩ := id hC
  obtain ⟨op, ⟨od, ok, otk, ow, os, okd⟩, o3, o4, o5, o6, o7⟩ := id ho
  obtain ⟨od1, od2, od3, od4⟩ := id od
  obtain ⟨ok1, ok2, ok3, ok4⟩ := id ok
  have os1 := os.1
  have op1 := op.1
  intro e
  induction e with
  | zero =>
    intro i vv x he hv hF
    subst hv
    refine j_iload_n d_Ra_mixAsked_2 rfl rfl ?_
    refine j_aload_n d_Ra_mixAsked_3 rfl rfl ?_
    refine j_getr d_Ra_mixAsked_4 f_Ra_28 rfl rfl (by decide) rfl ?_
    refine j_geti d_Ra_mixAsked_7 f_Ra_197 rfl rfl (by decide) ?_
    refine j_icmp_ge (tgt := 53) d_Ra_mixAsked_10 rfl (fun bq1 => ?_) (fun bq1 => False.elim (bq1 (by rw [hK.1]; exact nI_le (by omega) (by omega))))
    refine j_lload_n d_Ra_mixAsked_53 rfl rfl ?_
    refine j_lret d_Ra_mixAsked_54 rfl ?_
    exact q_l1 hF rfl
  | succ e ih =>
    intro i vv x he hv hF
    subst hv
    have hi : i < Z.2.1.2.1.2.2.2.1 := by omega
    refine j_iload_n d_Ra_mixAsked_2 rfl rfl ?_
    refine j_aload_n d_Ra_mixAsked_3 rfl rfl ?_
    refine j_getr d_Ra_mixAsked_4 f_Ra_28 rfl rfl (by decide) rfl ?_
    refine j_geti d_Ra_mixAsked_7 f_Ra_197 rfl rfl (by decide) ?_
    refine j_icmp_ge (tgt := 53) d_Ra_mixAsked_10 rfl (fun bq1 => False.elim (nI_ge (by omega) (by omega) (hK.1 ▸ bq1))) (fun bq1 => ?_)
    refine j_iload_n d_Ra_mixAsked_13 rfl rfl ?_
    refine j_bipush (v := 7) d_Ra_mixAsked_14 (by decide) ?_
    refine j_icmp_ge (tgt := 53) d_Ra_mixAsked_16 rfl (fun bq2 => False.elim (nI_ge (b := 7) (by omega) (by omega) bq2)) (fun bq2 => ?_)
    refine j_iconst (v := 0) d_Ra_mixAsked_19 rfl ?_
    refine j_istore (ls' := [(4, _), (0, _), (1, _), (3, _)]) d_Ra_mixAsked_20 (by decide) rfl ?_
    refine j_pick [1, 2, 3, 0] (ls' := [(0, _), (1, _), (3, _), (4, _)]) rfl ?_
    refine l_ma_in hC ho hi ?_ 4 0 _ _ (by omega) rfl rfl
    refine j_iinc (ls' := [(3, _), (0, _), (1, _)]) d_Ra_mixAsked_47 rfl (by decide) rfl ?_
    refine j_goto (tgt := 2) d_Ra_mixAsked_50 rfl ?_
    refine j_pick [1, 2, 0] (ls' := [(0, _), (1, _), (3, _)]) rfl ?_
    exact ih (i + 1) _ _ (by omega) (nI_inc i) hF
set_option maxRecDepth 100000 in
set_option maxHeartbeats 4000000 in
theorem c_Ra_mixAsked {G : r_X} {d : Nat} {h : r_HI} {p q : Nat} {z : r_HL} {F : Int64 → r_HI → r_HR → r_HL → Prop} {Z : a_Z} (hC : p_C h p q Z) (ho : a_zok Z) {x : Int64} (hF : F (s_ma Z Z.2.1.2.1.2.2.2.1 0 x) h (r_gp p q) z) : r_Cl G m_Ra_mixAsked (d + 21) 61 [.ref (G.2.1 + 0), .long x] 61 h (r_gp p q) z F := by
  refine r_C_of (by decide +kernel) (Nat.le_of_ble_eq_true rfl) ?_
  refine j_ls (ls' := [(0, _), (1, _)]) rfl ?_
  refine j_iconst (v := 0) d_Ra_mixAsked_0 rfl ?_
  refine j_istore_n (ls' := [(3, _), (0, _), (1, _)]) d_Ra_mixAsked_1 rfl (by decide) rfl ?_
  refine j_pick [1, 2, 0] (ls' := [(0, _), (1, _), (3, _)]) rfl ?_
  exact l_ma hC ho _ 0 _ _ (by omega) rfl hF
set_option maxRecDepth 100000 in
set_option maxHeartbeats 4000000 in
theorem l_mc {G : r_X} {d : Nat} {p q : Nat} {z : r_HL} {F : Int64 → r_HI → r_HR → r_HL → Prop} {Z : a_Z} (ho : a_zok Z) : ∀ (e i : Nat) (vv : Int32) (x : Int64) (h : r_HI), p_C h p q Z → e + i = 5 → vv = nI i → (∀ h', r_ex r_scr h h' → F (s_mc Z e i x) h' (r_gp p q) z) → r_TM G m_Ra_mixChoices (d + 21) 61 61 (fun v h' g' z' => ∃ r, v = some (.long r) ∧ F r h' g' z') 32 [(0, .ref (G.2.1 + 0)), (1, .long x), (3, .int vv)] [] 61 h (r_gp p q) z := by
  intro e
  induction e with
  | zero =>
    intro i vv x h hC he hv hF
    subst hv
    refine j_iload_n d_Ra_mixChoices_32 rfl rfl ?_
    refine j_iconst (v := 5) d_Ra_mixChoices_33 rfl ?_
    refine j_icmp_ge (tgt := 92) d_Ra_mixChoices_34 rfl (fun bq1 => ?_) (fun bq1 => False.elim (bq1 (nI_le (a := 5) (by omega) (by omega))))
    refine j_lload_n d_Ra_mixChoices_92 rfl rfl ?_
    refine j_lret d_Ra_mixChoices_93 rfl ?_
    exact q_l1 (hF _ r_ex.rf) rfl
  | succ e ih =>
    intro i vv x h hC he hv hF
    obtain ⟨hP, ⟨hD, hK, hW, hS⟩, hpr, hld, hik, hpo, hkd, hqo, hkept⟩ := id hC
    obtain ⟨op, ⟨od, ok, otk, ow, os, okd⟩, o3, o4, o5, o6, o7⟩ := id ho
    obtain ⟨od1, od2, od3, od4⟩ := id od
    obtain ⟨ok1, ok2, ok3, ok4⟩ := id ok
    have os1 := os.1
    have op1 := op.1
    subst hv
    refine j_iload_n d_Ra_mixChoices_32 rfl rfl ?_
    refine j_iconst (v := 5) d_Ra_mixChoices_33 rfl ?_
    refine j_icmp_ge (tgt := 92) d_Ra_mixChoices_34 rfl (fun bq1 => False.elim (nI_ge (b := 5) (by omega) (by omega) bq1)) (fun bq1 => ?_)
    refine j_aload_n d_Ra_mixChoices_37 rfl rfl ?_
    refine j_getr d_Ra_mixChoices_38 f_Ra_88 rfl rfl (by decide) rfl ?_
    refine j_aload_n d_Ra_mixChoices_41 rfl rfl ?_
    refine j_getr d_Ra_mixChoices_42 f_Ra_28 rfl rfl (by decide) rfl ?_
    refine q_v (s_Ra_mixChoices_45 rfl (by decide)) rfl (Nat.le_of_ble_eq_true rfl) (Nat.le_of_ble_eq_true rfl) ?_
    refine c_Dk_copyFrom_40_7 hK ok (fun h1 q1 k1 w1 => ?_)
    refine j_aload_n d_Ra_mixChoices_48 rfl rfl ?_
    refine j_getr d_Ra_mixChoices_49 f_Ra_88 rfl rfl (by decide) rfl ?_
    refine j_aload_n d_Ra_mixChoices_52 rfl rfl ?_
    refine j_iload_n d_Ra_mixChoices_53 rfl rfl ?_
    refine q_a (s_Ra_mixChoices_54 rfl (by decide)) rfl (Nat.le_of_ble_eq_true rfl) (Nat.le_of_ble_eq_true rfl) ?_
    refine c_Ra_policyOf (k := i) (by omega) rfl ?_
    refine q_v (s_Ra_mixChoices_57 rfl (by decide)) rfl (Nat.le_of_ble_eq_true rfl) (Nat.le_of_ble_eq_true rfl) ?_
    have hD1 : p_D h1 3 Z.2.1.1 := hD.ex q1 (by decide) (by decide) (by decide) (by decide)
    refine c_Dk_followAll_40 hD1 od k1 ok (P := 19 + i) (s := 0) ⟨by omega, by omega⟩ (by omega) w1 (fun h2 q2 k2 w2 => ?_)
    rw [show r_kd (19 + i) = i from (show ∀ k, k < 5 → r_kd (19 + k) = k by decide) i (by omega)] at k2 w2
    have zz : r_ex r_scr h h2 := r_ex.tr (A := r_scr) (q1.mono (by decide)) q2 (by decide)
    refine j_lload_n d_Ra_mixChoices_60 rfl rfl ?_
    refine j_aload_n d_Ra_mixChoices_61 rfl rfl ?_
    refine j_getr d_Ra_mixChoices_62 f_Ra_88 rfl rfl (by decide) rfl ?_
    refine j_geti d_Ra_mixChoices_65 f_Ra_205 rfl rfl (by decide) ?_
    refine j_i2l d_Ra_mixChoices_68 ?_
    refine q_l s_Ra_mixChoices_69 rfl (Nat.le_of_ble_eq_true rfl) (Nat.le_of_ble_eq_true rfl) ?_
    refine c_Ra_mix ?_
    rw [k2.2.1]
    refine j_lstore_n (ls' := [(1, _), (0, _), (3, _)]) d_Ra_mixChoices_72 rfl (by decide) rfl ?_
    refine j_lload_n d_Ra_mixChoices_73 rfl rfl ?_
    refine j_aload_n d_Ra_mixChoices_74 rfl rfl ?_
    refine j_getr d_Ra_mixChoices_75 f_Ra_88 rfl rfl (by decide) rfl ?_
    refine j_geti d_Ra_mixChoices_78 f_Ra_230 rfl rfl (by decide) ?_
    refine j_i2l d_Ra_mixChoices_81 ?_
    refine q_l s_Ra_mixChoices_82 rfl (Nat.le_of_ble_eq_true rfl) (Nat.le_of_ble_eq_true rfl) ?_
    refine c_Ra_mix ?_
    rw [w2]
    refine j_lstore_n (ls' := [(1, _), (0, _), (3, _)]) d_Ra_mixChoices_85 rfl (by decide) rfl ?_
    refine j_iinc (ls' := [(3, _), (1, _), (0, _)]) d_Ra_mixChoices_86 rfl (by decide) rfl ?_
    refine j_goto (tgt := 32) d_Ra_mixChoices_89 rfl ?_
    refine j_pick [2, 1, 0] (ls' := [(0, _), (1, _), (3, _)]) rfl ?_
    exact ih (i + 1) _ _ h2 (hC.scr zz) (by omega) (nI_inc i) (fun h3 q3 => hF h3 (zz.tr q3 (fun _ q => q)))
set_option maxRecDepth 100000 in
set_option maxHeartbeats 4000000 in
theorem c_Ra_mixChoices {G : r_X} {d : Nat} {h : r_HI} {p q : Nat} {z : r_HL} {F : Int64 → r_HI → r_HR → r_HL → Prop} {Z : a_Z} (hC : p_C h p q Z) (ho : a_zok Z) {x : Int64} (hF : ∀ h', r_ex r_scr h h' → F (s_mcs Z x) h' (r_gp p q) z) : r_Cl G m_Ra_mixChoices (d + 21) 61 [.ref (G.2.1 + 0), .long x] 61 h (r_gp p q) z F := by
  obtain ⟨hP, ⟨hD, hK, hW, hS⟩, hpr, hld, hik, hpo, hkd, hqo, hkept⟩ := id hC
  obtain ⟨op, ⟨od, ok, otk, ow, os, okd⟩, o3, o4, o5, o6, o7⟩ := id ho
  obtain ⟨od1, od2, od3, od4⟩ := id od
  obtain ⟨ok1, ok2, ok3, ok4⟩ := id ok
  have os1 := os.1
  have op1 := op.1
  refine r_C_of (by decide +kernel) (Nat.le_of_ble_eq_true rfl) ?_
  refine j_ls (ls' := [(0, _), (1, _)]) rfl ?_
  refine j_lload_n d_Ra_mixChoices_0 rfl rfl ?_
  refine j_aload_n d_Ra_mixChoices_1 rfl rfl ?_
  refine j_getr d_Ra_mixChoices_2 f_Ra_65 rfl rfl (by decide) rfl ?_
  refine t_kind_Ra_mixChoices hpo (Nat.le_of_ble_eq_true rfl) ?_
  rw [hkd]
  refine j_i2l d_Ra_mixChoices_8 ?_
  refine q_l s_Ra_mixChoices_9 rfl (Nat.le_of_ble_eq_true rfl) (Nat.le_of_ble_eq_true rfl) ?_
  refine c_Ra_mix ?_
  refine j_lstore_n (ls' := [(1, _), (0, _)]) d_Ra_mixChoices_12 rfl (by decide) rfl ?_
  refine j_lload_n d_Ra_mixChoices_13 rfl rfl ?_
  refine j_aload_n d_Ra_mixChoices_14 rfl rfl ?_
  refine j_getr d_Ra_mixChoices_15 f_Ra_65 rfl rfl (by decide) rfl ?_
  refine j_aload_n d_Ra_mixChoices_18 rfl rfl ?_
  refine j_getr d_Ra_mixChoices_19 f_Ra_28 rfl rfl (by decide) rfl ?_
  refine q_i (s_pick_all_Ra_mixChoices_22 hpo) rfl (Nat.le_of_ble_eq_true rfl) (Nat.le_of_ble_eq_true rfl) ?_
  refine c_Fi_pick_7 hD od hK ok hpo (by omega) ?_
  rw [hkd]
  refine j_i2l d_Ra_mixChoices_25 ?_
  refine q_l s_Ra_mixChoices_26 rfl (Nat.le_of_ble_eq_true rfl) (Nat.le_of_ble_eq_true rfl) ?_
  refine c_Ra_mix ?_
  refine j_lstore_n (ls' := [(1, _), (0, _)]) d_Ra_mixChoices_29 rfl (by decide) rfl ?_
  refine j_iconst (v := 0) d_Ra_mixChoices_30 rfl ?_
  refine j_istore_n (ls' := [(3, _), (1, _), (0, _)]) d_Ra_mixChoices_31 rfl (by decide) rfl ?_
  refine j_pick [2, 1, 0] (ls' := [(0, _), (1, _), (3, _)]) rfl ?_
  exact l_mc ho 5 0 _ _ _ hC (by omega) rfl hF
set_option maxRecDepth 100000 in
set_option maxHeartbeats 4000000 in
theorem l_mb1 {G : r_X} {d : Nat} {h : r_HI} {p q : Nat} {z : r_HL} {F : Int64 → r_HI → r_HR → r_HL → Prop} {Z : a_Z} (hC : p_C h p q Z) (ho : a_zok Z) {y : Int64} (kk : r_TM G m_Ra_mixBests (d + 21) 61 61 (fun v h' g' z' => ∃ r, v = some (.long r) ∧ F r h' g' z') 26 [(0, .ref (G.2.1 + 0)), (1, .long y)] [] 61 h (r_gp p q) z) : ∀ (e v : Nat) (vv : Int32) (x : Int64), e + v = 3 → vv = nI v → a_dg (fun v => s_behind Z 0 1 (nI v)) e v x = y → r_TM G m_Ra_mixBests (d + 21) 61 61 (fun v h' g' z' => ∃ r, v = some (.long r) ∧ F r h' g' z') 2 [(0, .ref (G.2.1 + 0)), (1, .long x), (3, .int vv)] [] 61 h (r_gp p q) z := by
  obtain ⟨hP, ⟨hD, hK, hW, hS⟩, hpr, hld, hik, hpo, hkd, hqo, hkept⟩ := id hC
  obtain ⟨op, ⟨od, ok, otk, ow, os, okd⟩, o3, o4, o5, o6, o7⟩ := id ho
  obtain ⟨od1, od2, od3, od4⟩ := id od
  obtain ⟨ok1, ok2, ok3, ok4⟩ := id ok
  have os1 := os.1
  have op1 := op.1
  intro e
  induction e with
  | zero =>
    intro v vv x he hv hy
    subst hv
    replace hy : x = y := hy
    subst hy
    refine j_iload_n d_Ra_mixBests_2 rfl rfl ?_
    refine j_iconst (v := 2) d_Ra_mixBests_3 rfl ?_
    refine j_icmp_gt (tgt := 26) d_Ra_mixBests_4 rfl (fun bq1 => ?_) (fun bq1 => False.elim (bq1 (nI_lt (a := 2) (by omega) (by omega))))
    refine j_pick [0, 1] (ls' := [(0, _), (1, _)]) rfl ?_
    exact kk
  | succ e ih =>
    intro v vv x he hv hy
    subst hv
    refine j_iload_n d_Ra_mixBests_2 rfl rfl ?_
    refine j_iconst (v := 2) d_Ra_mixBests_3 rfl ?_
    refine j_icmp_gt (tgt := 26) d_Ra_mixBests_4 rfl (fun bq1 => False.elim (nI_nlt (b := v) (a := 2) (by omega) (by omega) bq1)) (fun bq1 => ?_)
    refine j_lload_n d_Ra_mixBests_7 rfl rfl ?_
    refine j_aload_n d_Ra_mixBests_8 rfl rfl ?_
    refine j_iconst (v := 0) d_Ra_mixBests_9 rfl ?_
    refine j_iconst (v := 1) d_Ra_mixBests_10 rfl ?_
    refine j_iload_n d_Ra_mixBests_11 rfl rfl ?_
    refine q_i (s_Ra_mixBests_12 rfl (by decide)) rfl (Nat.le_of_ble_eq_true rfl) (Nat.le_of_ble_eq_true rfl) ?_
    refine c_Ra_behind hC ho ?_
    refine j_i2l d_Ra_mixBests_15 ?_
    refine q_l s_Ra_mixBests_16 rfl (Nat.le_of_ble_eq_true rfl) (Nat.le_of_ble_eq_true rfl) ?_
    refine c_Ra_mix ?_
    refine j_lstore_n (ls' := [(1, _), (0, _), (3, _)]) d_Ra_mixBests_19 rfl (by decide) rfl ?_
    refine j_iinc (ls' := [(3, _), (1, _), (0, _)]) d_Ra_mixBests_20 rfl (by decide) rfl ?_
    refine j_goto (tgt := 2) d_Ra_mixBests_23 rfl ?_
    refine j_pick [2, 1, 0] (ls' := [(0, _), (1, _), (3, _)]) rfl ?_
    exact ih (v + 1) _ _ (by omega) (nI_inc v) hy
set_option maxRecDepth 100000 in
set_option maxHeartbeats 4000000 in
theorem l_mb2 {G : r_X} {d : Nat} {h : r_HI} {p q : Nat} {z : r_HL} {F : Int64 → r_HI → r_HR → r_HL → Prop} {Z : a_Z} (hC : p_C h p q Z) (ho : a_zok Z) (hb : p_B h 11 3 14 (a_hm Z.2.1.2.2.1 6) (a_lyy Z.2.1.2.2.1)) {y : Int64} (kk : r_TM G m_Ra_mixBests (d + 21) 61 61 (fun v h' g' z' => ∃ r, v = some (.long r) ∧ F r h' g' z') 78 [(0, .ref (G.2.1 + 0)), (1, .long y)] [] 61 h (r_gp p q) z) : ∀ (e v : Nat) (vv : Int32) (x : Int64), e + v = 6 → vv = nI v → a_dg (fun t => a_lay1 Z.2.1.2.2.1 (10 + t)) e v x = y → r_TM G m_Ra_mixBests (d + 21) 61 61 (fun v h' g' z' => ∃ r, v = some (.long r) ∧ F r h' g' z') 49 [(0, .ref (G.2.1 + 0)), (1, .long x), (3, .int vv)] [] 61 h (r_gp p q) z := by
  obtain ⟨hP, ⟨hD, hK, hW, hS⟩, hpr, hld, hik, hpo, hkd, hqo, hkept⟩ := id hC
  obtain ⟨op, ⟨od, ok, otk, ow, os, okd⟩, o3, o4, o5, o6, o7⟩ := id ho
  obtain ⟨od1, od2, od3, od4⟩ := id od
  obtain ⟨ok1, ok2, ok3, ok4⟩ := id ok
  have os1 := os.1
  have op1 := op.1
  intro e
  induction e with
  | zero =>
    intro v vv x he hv hy
    subst hv
    replace hy : x = y := hy
    subst hy
    refine j_iload_n d_Ra_mixBests_49 rfl rfl ?_
    refine j_bipush (v := 6) d_Ra_mixBests_50 (by decide) ?_
    refine j_icmp_ge (tgt := 78) d_Ra_mixBests_52 rfl (fun bq1 => ?_) (fun bq1 => False.elim (bq1 (nI_le (a := 6) (by omega) (by omega))))
    refine j_pick [0, 1] (ls' := [(0, _), (1, _)]) rfl ?_
    exact kk
  | succ e ih =>
    intro v vv x he hv hy
    subst hv
    refine j_iload_n d_Ra_mixBests_49 rfl rfl ?_
    refine j_bipush (v := 6) d_Ra_mixBests_50 (by decide) ?_
    refine j_icmp_ge (tgt := 78) d_Ra_mixBests_52 rfl (fun bq1 => False.elim (nI_ge (b := 6) (by omega) (by omega) bq1)) (fun bq1 => ?_)
    refine j_lload_n d_Ra_mixBests_55 rfl rfl ?_
    refine j_aload_n d_Ra_mixBests_56 rfl rfl ?_
    refine j_getr d_Ra_mixBests_57 f_Ra_35 rfl rfl (by decide) rfl ?_
    refine j_bipush (v := 10) d_Ra_mixBests_60 (by decide) ?_
    refine j_iload_n d_Ra_mixBests_62 rfl rfl ?_
    refine j_iadd d_Ra_mixBests_63 ?_
    refine q_i (s_Ra_mixBests_64 rfl (by decide)) rfl (Nat.le_of_ble_eq_true rfl) (Nat.le_of_ble_eq_true rfl) ?_
    refine c_Th_told hW ow (t := v) (by omega) (nI_add 10 v) ?_
    have h6 := a_hm_le Z.2.1.2.2.1 6
    have e9 : (if v < a_hm Z.2.1.2.2.1 6 then h 14 v else -1) = a_lay1 Z.2.1.2.2.1 (10 + v) := by
      unfold a_lay1
      rw [if_neg (show ¬ 10 + v = 0 by omega), show 10 + v - 10 = v by omega]
      by_cases hi : v < a_hm Z.2.1.2.2.1 6
      · rw [if_pos hi, if_pos hi]
        exact (hb.2.2.resolve_left (fun e => absurd (a_lyy_lt ow) (by rw [e]; decide))) v hi
      · rw [if_neg hi, if_neg hi]
    rw [e9]
    refine j_i2l d_Ra_mixBests_67 ?_
    refine q_l s_Ra_mixBests_68 rfl (Nat.le_of_ble_eq_true rfl) (Nat.le_of_ble_eq_true rfl) ?_
    refine c_Ra_mix ?_
    refine j_lstore_n (ls' := [(1, _), (0, _), (3, _)]) d_Ra_mixBests_71 rfl (by decide) rfl ?_
    refine j_iinc (ls' := [(3, _), (1, _), (0, _)]) d_Ra_mixBests_72 rfl (by decide) rfl ?_
    refine j_goto (tgt := 49) d_Ra_mixBests_75 rfl ?_
    refine j_pick [2, 1, 0] (ls' := [(0, _), (1, _), (3, _)]) rfl ?_
    exact ih (v + 1) _ _ (by omega) (nI_inc v) hy
set_option maxRecDepth 100000 in
set_option maxHeartbeats 4000000 in
theorem c_Ra_mixBests {G : r_X} {d : Nat} {h : r_HI} {p q : Nat} {z : r_HL} {F : Int64 → r_HI → r_HR → r_HL → Prop} {Z : a_Z} (hC : p_C h p q Z) (ho : a_zok Z) {x : Int64} (hF : ∀ h', r_ex r_scr h h' → F (s_mbs Z x) h' (r_gp p q) z) : r_Cl G m_Ra_mixBests (d + 21) 61 [.ref (G.2.1 + 0), .long x] 61 h (r_gp p q) z F := by
  obtain ⟨hP, ⟨hD, hK, hW, hS⟩, hpr, hld, hik, hpo, hkd, hqo, hkept⟩ := id hC
  obtain ⟨op, ⟨od, ok, otk, ow, os, okd⟩, o3, o4, o5, o6, o7⟩ := id ho
  obtain ⟨od1, od2, od3, od4⟩ := id od
  obtain ⟨ok1, ok2, ok3, ok4⟩ := id ok
  have os1 := os.1
  have op1 := op.1
  have h6 := a_hm_le Z.2.1.2.2.1 6
  have hft := a_ft_lt Z.2.1.1.2.1 Z.2.1.2.2.2.1 9
  refine r_C_of (by decide +kernel) (Nat.le_of_ble_eq_true rfl) ?_
  refine j_ls (ls' := [(0, _), (1, _)]) rfl ?_
  refine j_iconst (v := 0) d_Ra_mixBests_0 rfl ?_
  refine j_istore_n (ls' := [(3, _), (0, _), (1, _)]) d_Ra_mixBests_1 rfl (by decide) rfl ?_
  refine j_pick [1, 2, 0] (ls' := [(0, _), (1, _), (3, _)]) rfl ?_
  refine l_mb1 hC ho ?_ 3 0 _ _ (by omega) rfl rfl
  refine j_aload_n d_Ra_mixBests_26 rfl rfl ?_
  refine j_getr d_Ra_mixBests_27 f_Ra_35 rfl rfl (by decide) rfl ?_
  refine q_v (s_Ra_mixBests_30 rfl (by decide)) rfl (Nat.le_of_ble_eq_true rfl) (Nat.le_of_ble_eq_true rfl) ?_
  rw [show d + 20 = d + (17 - a_hm Z.2.1.2.2.1 6) + a_hm Z.2.1.2.2.1 6 + 3 by omega]
  refine c_Th_solve hW ow (fun h1 q1 b1 => ?_)
  rw [show d + (17 - a_hm Z.2.1.2.2.1 6) + a_hm Z.2.1.2.2.1 6 + 3 = d + 20 by omega]
  have hC1 := hC.scr (q1.mono (B := r_scr) (by decide))
  refine j_lload_n d_Ra_mixBests_33 rfl rfl ?_
  refine j_aload_n d_Ra_mixBests_34 rfl rfl ?_
  refine j_getr d_Ra_mixBests_35 f_Ra_35 rfl rfl (by decide) rfl ?_
  refine j_iconst (v := 0) d_Ra_mixBests_38 rfl ?_
  refine q_i (s_Ra_mixBests_39 rfl (by decide)) rfl (Nat.le_of_ble_eq_true rfl) (Nat.le_of_ble_eq_true rfl) ?_
  refine c_Th_told0 ?_
  rw [b1.1]
  refine j_i2l d_Ra_mixBests_42 ?_
  refine q_l s_Ra_mixBests_43 rfl (Nat.le_of_ble_eq_true rfl) (Nat.le_of_ble_eq_true rfl) ?_
  refine c_Ra_mix ?_
  refine j_lstore_n (ls' := [(1, _), (0, _)]) d_Ra_mixBests_46 rfl (by decide) rfl ?_
  refine j_iconst (v := 0) d_Ra_mixBests_47 rfl ?_
  refine j_istore_n (ls' := [(3, _), (1, _), (0, _)]) d_Ra_mixBests_48 rfl (by decide) rfl ?_
  refine j_pick [2, 1, 0] (ls' := [(0, _), (1, _), (3, _)]) rfl ?_
  refine l_mb2 hC1 ho b1 ?_ 6 0 _ _ (by omega) rfl rfl
  refine j_aload_n d_Ra_mixBests_78 rfl rfl ?_
  refine j_getr d_Ra_mixBests_79 f_Ra_42 rfl rfl (by decide) rfl ?_
  refine j_aload_n d_Ra_mixBests_82 rfl rfl ?_
  refine j_getr d_Ra_mixBests_83 f_Ra_19 rfl rfl (by decide) rfl ?_
  refine j_geti d_Ra_mixBests_86 f_Ra_219 rfl rfl (by decide) ?_
  refine q_i (s_Ra_mixBests_89 rfl (by decide)) rfl (Nat.le_of_ble_eq_true rfl) (Nat.le_of_ble_eq_true rfl) ?_
  refine c_Si_fitting (hS.ex q1 (by decide) (by decide) (by decide)) os od2 ((congrFun (q1 3 (by decide)) 4).trans hD.2.1) ?_
  refine j_istore_n (ls' := [(3, _), (0, _), (1, _)]) d_Ra_mixBests_92 rfl (by decide) rfl ?_
  refine j_lload_n d_Ra_mixBests_93 rfl rfl ?_
  refine j_iload_n d_Ra_mixBests_94 rfl rfl ?_
  refine j_i2l d_Ra_mixBests_95 ?_
  refine q_l s_Ra_mixBests_96 rfl (Nat.le_of_ble_eq_true rfl) (Nat.le_of_ble_eq_true rfl) ?_
  refine c_Ra_mix ?_
  refine j_lstore_n (ls' := [(1, _), (3, _), (0, _)]) d_Ra_mixBests_99 rfl (by decide) rfl ?_
  refine j_lload_n d_Ra_mixBests_100 rfl rfl ?_
  refine j_iload_n d_Ra_mixBests_101 rfl rfl ?_
  refine q_i s_Ra_mixBests_102 rfl (Nat.le_of_ble_eq_true rfl) (Nat.le_of_ble_eq_true rfl) ?_
  refine c_Ra_bestTry (b := (a_ft Z.2.1.1.2.1 Z.2.1.2.2.2.1 9)) (by omega) rfl ?_
  refine j_i2l d_Ra_mixBests_105 ?_
  refine q_l s_Ra_mixBests_106 rfl (Nat.le_of_ble_eq_true rfl) (Nat.le_of_ble_eq_true rfl) ?_
  refine c_Ra_mix ?_
  refine j_lret d_Ra_mixBests_109 rfl ?_
  exact q_l1 (hF _ (q1.mono (by decide))) rfl
set_option maxRecDepth 100000 in
set_option maxHeartbeats 4000000 in
theorem l_dg1 {G : r_X} {d : Nat} {h : r_HI} {p q : Nat} {z : r_HL} {F : Int64 → r_HI → r_HR → r_HL → Prop} {Z : a_Z} (hC : p_C h p q Z) (ho : a_zok Z) {y : Int64} (kk : r_TM G m_Ra_digest (d + 22) 61 61 (fun v h' g' z' => ∃ r, v = some (.long r) ∧ F r h' g' z') 77 [(0, .ref (G.2.1 + 0)), (1, .long y)] [] 61 h (r_gp p q) z) : ∀ (e v : Nat) (vv : Int32) (x : Int64), e + v = Z.1.1 → vv = nI v → a_dg (fun i => nI (Z.1.2 i)) e v x = y → r_TM G m_Ra_digest (d + 22) 61 61 (fun v h' g' z' => ∃ r, v = some (.long r) ∧ F r h' g' z') 37 [(0, .ref (G.2.1 + 0)), (1, .long x), (3, .int vv)] [] 61 h (r_gp p q) z := by
  obtain ⟨hP, ⟨hD, hK, hW, hS⟩, hpr, hld, hik, hpo, hkd, hqo, hkept⟩ := id hC
  obtain ⟨op, ⟨od, ok, otk, ow, os, okd⟩, o3, o4, o5, o6, o7⟩ := id ho
  obtain ⟨od1, od2, od3, od4⟩ := id od
  obtain ⟨ok1, ok2, ok3, ok4⟩ := id ok
  have os1 := os.1
  have op1 := op.1
  intro e
  induction e with
  | zero =>
    intro v vv x he hv hy
    subst hv
    replace hy : x = y := hy
    subst hy
    refine j_iload_n d_Ra_digest_37 rfl rfl ?_
    refine j_aload_n d_Ra_digest_38 rfl rfl ?_
    refine j_getr d_Ra_digest_39 f_Ra_10 rfl rfl (by decide) rfl ?_
    refine j_geti d_Ra_digest_42 f_Ra_105 rfl rfl (by decide) ?_
    refine j_icmp_ge (tgt := 77) d_Ra_digest_45 rfl (fun bq1 => ?_) (fun bq1 => False.elim (bq1 (by rw [hP.1]; exact nI_le (by omega) (by omega))))
    refine j_pick [0, 1] (ls' := [(0, _), (1, _)]) rfl ?_
    exact kk
  | succ e ih =>
    intro v vv x he hv hy
    subst hv
    refine j_iload_n d_Ra_digest_37 rfl rfl ?_
    refine j_aload_n d_Ra_digest_38 rfl rfl ?_
    refine j_getr d_Ra_digest_39 f_Ra_10 rfl rfl (by decide) rfl ?_
    refine j_geti d_Ra_digest_42 f_Ra_105 rfl rfl (by decide) ?_
    refine j_icmp_ge (tgt := 77) d_Ra_digest_45 rfl (fun bq1 => False.elim (nI_ge (by omega) (by omega) (hP.1 ▸ bq1))) (fun bq1 => ?_)
    refine j_iload_n d_Ra_digest_48 rfl rfl ?_
    refine j_bipush (v := 28) d_Ra_digest_49 (by decide) ?_
    refine j_icmp_ge (tgt := 77) d_Ra_digest_51 rfl (fun bq2 => False.elim (nI_ge (b := 28) (by omega) (by omega) bq2)) (fun bq2 => ?_)
    refine j_lload_n d_Ra_digest_54 rfl rfl ?_
    refine j_aload_n d_Ra_digest_55 rfl rfl ?_
    refine j_getr d_Ra_digest_56 f_Ra_10 rfl rfl (by decide) rfl ?_
    refine j_getr d_Ra_digest_59 f_Ra_306 rfl rfl (by decide) rfl ?_
    refine j_iload_n d_Ra_digest_62 rfl rfl ?_
    refine q_i s_Ra_digest_63 rfl (Nat.le_of_ble_eq_true rfl) (Nat.le_of_ble_eq_true rfl) ?_
    refine c_Ra_av (j := v) rfl (by decide) rfl (by omega) (hP.2 v (by omega)) ?_
    refine j_i2l d_Ra_digest_66 ?_
    refine q_l s_Ra_digest_67 rfl (Nat.le_of_ble_eq_true rfl) (Nat.le_of_ble_eq_true rfl) ?_
    refine c_Ra_mix ?_
    refine j_lstore_n (ls' := [(1, _), (0, _), (3, _)]) d_Ra_digest_70 rfl (by decide) rfl ?_
    refine j_iinc (ls' := [(3, _), (1, _), (0, _)]) d_Ra_digest_71 rfl (by decide) rfl ?_
    refine j_goto (tgt := 37) d_Ra_digest_74 rfl ?_
    refine j_pick [2, 1, 0] (ls' := [(0, _), (1, _), (3, _)]) rfl ?_
    exact ih (v + 1) _ _ (by omega) (nI_inc v) hy
set_option maxRecDepth 100000 in
set_option maxHeartbeats 4000000 in
theorem l_dg2 {G : r_X} {d : Nat} {h : r_HI} {p q : Nat} {z : r_HL} {F : Int64 → r_HI → r_HR → r_HL → Prop} {Z : a_Z} (hC : p_C h p q Z) (ho : a_zok Z) {y : Int64} (kk : r_TM G m_Ra_digest (d + 22) 61 61 (fun v h' g' z' => ∃ r, v = some (.long r) ∧ F r h' g' z') 102 [(0, .ref (G.2.1 + 0)), (1, .long y)] [] 61 h (r_gp p q) z) : ∀ (e v : Nat) (vv : Int32) (x : Int64), e + v = 13 → vv = nI v → a_dg (fun v => s_count Z (nI v)) e v x = y → r_TM G m_Ra_digest (d + 22) 61 61 (fun v h' g' z' => ∃ r, v = some (.long r) ∧ F r h' g' z') 79 [(0, .ref (G.2.1 + 0)), (1, .long x), (3, .int vv)] [] 61 h (r_gp p q) z := by
  obtain ⟨hP, ⟨hD, hK, hW, hS⟩, hpr, hld, hik, hpo, hkd, hqo, hkept⟩ := id hC
  obtain ⟨op, ⟨od, ok, otk, ow, os, okd⟩, o3, o4, o5, o6, o7⟩ := id ho
  obtain ⟨od1, od2, od3, od4⟩ := id od
  obtain ⟨ok1, ok2, ok3, ok4⟩ := id ok
  have os1 := os.1
  have op1 := op.1
  intro e
  induction e with
  | zero =>
    intro v vv x he hv hy
    subst hv
    replace hy : x = y := hy
    subst hy
    refine j_iload_n d_Ra_digest_79 rfl rfl ?_
    refine j_bipush (v := 13) d_Ra_digest_80 (by decide) ?_
    refine j_icmp_ge (tgt := 102) d_Ra_digest_82 rfl (fun bq1 => ?_) (fun bq1 => False.elim (bq1 (nI_le (a := 13) (by omega) (by omega))))
    refine j_pick [0, 1] (ls' := [(0, _), (1, _)]) rfl ?_
    exact kk
  | succ e ih =>
    intro v vv x he hv hy
    subst hv
    refine j_iload_n d_Ra_digest_79 rfl rfl ?_
    refine j_bipush (v := 13) d_Ra_digest_80 (by decide) ?_
    refine j_icmp_ge (tgt := 102) d_Ra_digest_82 rfl (fun bq1 => False.elim (nI_ge (b := 13) (by omega) (by omega) bq1)) (fun bq1 => ?_)
    refine j_lload_n d_Ra_digest_85 rfl rfl ?_
    refine j_aload_n d_Ra_digest_86 rfl rfl ?_
    refine j_iload_n d_Ra_digest_87 rfl rfl ?_
    refine q_i (s_Ra_digest_88 rfl (by decide)) rfl (Nat.le_of_ble_eq_true rfl) (Nat.le_of_ble_eq_true rfl) ?_
    refine c_Ra_count hC ho ?_
    refine j_i2l d_Ra_digest_91 ?_
    refine q_l s_Ra_digest_92 rfl (Nat.le_of_ble_eq_true rfl) (Nat.le_of_ble_eq_true rfl) ?_
    refine c_Ra_mix ?_
    refine j_lstore_n (ls' := [(1, _), (0, _), (3, _)]) d_Ra_digest_95 rfl (by decide) rfl ?_
    refine j_iinc (ls' := [(3, _), (1, _), (0, _)]) d_Ra_digest_96 rfl (by decide) rfl ?_
    refine j_goto (tgt := 79) d_Ra_digest_99 rfl ?_
    refine j_pick [2, 1, 0] (ls' := [(0, _), (1, _), (3, _)]) rfl ?_
    exact ih (v + 1) _ _ (by omega) (nI_inc v) hy
set_option maxRecDepth 100000 in
set_option maxHeartbeats 4000000 in
theorem c_Ra_digest {G : r_X} {d : Nat} {h : r_HI} {p q : Nat} {z : r_HL} {F : Int64 → r_HI → r_HR → r_HL → Prop} {Z : a_Z} (hC : p_C h p q Z) (ho : a_zok Z) (hF : ∀ h', r_ex r_scr h h' → F (s_digest Z) h' (r_gp p q) z) : r_Cl G m_Ra_digest (d + 22) 61 [.ref (G.2.1 + 0)] 61 h (r_gp p q) z F := by
  obtain ⟨hP, ⟨hD, hK, hW, hS⟩, hpr, hld, hik, hpo, hkd, hqo, hkept⟩ := id hC
  obtain ⟨op, ⟨od, ok, otk, ow, os, okd⟩, o3, o4, o5, o6, o7⟩ := id ho
  obtain ⟨od1, od2, od3, od4⟩ := id od
  obtain ⟨ok1, ok2, ok3, ok4⟩ := id ok
  have os1 := os.1
  have op1 := op.1
  by_cases hR : Z.2.1.1.1 = 0
  · refine r_C_of (by decide +kernel) (Nat.le_of_ble_eq_true rfl) ?_
    refine j_ls (ls' := [(0, _)]) rfl ?_
    refine j_ldc2 d_Ra_digest_0 k_Ra_291 ?_
    refine j_lstore_n (ls' := [(1, _), (0, _)]) d_Ra_digest_3 rfl (by decide) rfl ?_
    refine j_aload_n d_Ra_digest_4 rfl rfl ?_
    refine j_lload_n d_Ra_digest_5 rfl rfl ?_
    refine q_l (s_Ra_digest_6 rfl (by decide)) rfl (Nat.le_of_ble_eq_true rfl) (Nat.le_of_ble_eq_true rfl) ?_
    refine c_Ra_mixRings hC ho ?_
    refine j_lstore_n (ls' := [(1, _), (0, _)]) d_Ra_digest_9 rfl (by decide) rfl ?_
    refine j_aload_n d_Ra_digest_10 rfl rfl ?_
    refine j_lload_n d_Ra_digest_11 rfl rfl ?_
    refine q_l (s_Ra_digest_12 rfl (by decide)) rfl (Nat.le_of_ble_eq_true rfl) (Nat.le_of_ble_eq_true rfl) ?_
    refine c_Ra_mixAsked hC ho ?_
    refine j_lstore_n (ls' := [(1, _), (0, _)]) d_Ra_digest_15 rfl (by decide) rfl ?_
    refine j_aload_n d_Ra_digest_16 rfl rfl ?_
    refine q_i (s_Ra_digest_17 rfl (by decide)) rfl (Nat.le_of_ble_eq_true rfl) (Nat.le_of_ble_eq_true rfl) ?_
    refine c_hpN hR hD.1 ?_
    refine j_if_eq (tgt := 35) d_Ra_digest_20 rfl (fun bq1 => ?_) (fun bq1 => False.elim (bq1 rfl))
    refine j_iconst (v := 0) d_Ra_digest_35 rfl ?_
    refine j_istore_n (ls' := [(3, _), (1, _), (0, _)]) d_Ra_digest_36 rfl (by decide) rfl ?_
    refine j_pick [2, 1, 0] (ls' := [(0, _), (1, _), (3, _)]) rfl ?_
    refine l_dg1 hC ho ?_ Z.1.1 0 _ _ (by omega) rfl rfl
    refine j_iconst (v := 0) d_Ra_digest_77 rfl ?_
    refine j_istore_n (ls' := [(3, _), (0, _), (1, _)]) d_Ra_digest_78 rfl (by decide) rfl ?_
    refine j_pick [1, 2, 0] (ls' := [(0, _), (1, _), (3, _)]) rfl ?_
    refine l_dg2 hC ho ?_ 13 0 _ _ (by omega) rfl rfl
    refine j_lload_n d_Ra_digest_102 rfl rfl ?_
    refine j_lret d_Ra_digest_103 rfl ?_
    exact q_l1 (hF _ r_ex.rf) (by unfold s_digest s_dg1; rw [if_pos hR])
  · refine r_C_of (by decide +kernel) (Nat.le_of_ble_eq_true rfl) ?_
    refine j_ls (ls' := [(0, _)]) rfl ?_
    refine j_ldc2 d_Ra_digest_0 k_Ra_291 ?_
    refine j_lstore_n (ls' := [(1, _), (0, _)]) d_Ra_digest_3 rfl (by decide) rfl ?_
    refine j_aload_n d_Ra_digest_4 rfl rfl ?_
    refine j_lload_n d_Ra_digest_5 rfl rfl ?_
    refine q_l (s_Ra_digest_6 rfl (by decide)) rfl (Nat.le_of_ble_eq_true rfl) (Nat.le_of_ble_eq_true rfl) ?_
    refine c_Ra_mixRings hC ho ?_
    refine j_lstore_n (ls' := [(1, _), (0, _)]) d_Ra_digest_9 rfl (by decide) rfl ?_
    refine j_aload_n d_Ra_digest_10 rfl rfl ?_
    refine j_lload_n d_Ra_digest_11 rfl rfl ?_
    refine q_l (s_Ra_digest_12 rfl (by decide)) rfl (Nat.le_of_ble_eq_true rfl) (Nat.le_of_ble_eq_true rfl) ?_
    refine c_Ra_mixAsked hC ho ?_
    refine j_lstore_n (ls' := [(1, _), (0, _)]) d_Ra_digest_15 rfl (by decide) rfl ?_
    refine j_aload_n d_Ra_digest_16 rfl rfl ?_
    refine q_i (s_Ra_digest_17 rfl (by decide)) rfl (Nat.le_of_ble_eq_true rfl) (Nat.le_of_ble_eq_true rfl) ?_
    refine c_hpY (by omega) od1 hD.1 ?_
    refine j_if_eq (tgt := 35) d_Ra_digest_20 rfl (fun bq1 => False.elim (absurd bq1 (by decide))) (fun bq1 => ?_)
    refine j_aload_n d_Ra_digest_23 rfl rfl ?_
    refine j_lload_n d_Ra_digest_24 rfl rfl ?_
    refine q_l (s_Ra_digest_25 rfl (by decide)) rfl (Nat.le_of_ble_eq_true rfl) (Nat.le_of_ble_eq_true rfl) ?_
    refine c_Ra_mixChoices hC ho (fun h1 q1 => ?_)
    have hC1 := hC.scr q1
    refine j_lstore_n (ls' := [(1, _), (0, _)]) d_Ra_digest_28 rfl (by decide) rfl ?_
    refine j_aload_n d_Ra_digest_29 rfl rfl ?_
    refine j_lload_n d_Ra_digest_30 rfl rfl ?_
    refine q_l (s_Ra_digest_31 rfl (by decide)) rfl (Nat.le_of_ble_eq_true rfl) (Nat.le_of_ble_eq_true rfl) ?_
    refine c_Ra_mixBests hC1 ho (fun h2 q2 => ?_)
    have hC2 := hC1.scr q2
    refine j_lstore_n (ls' := [(1, _), (0, _)]) d_Ra_digest_34 rfl (by decide) rfl ?_
    refine j_iconst (v := 0) d_Ra_digest_35 rfl ?_
    refine j_istore_n (ls' := [(3, _), (1, _), (0, _)]) d_Ra_digest_36 rfl (by decide) rfl ?_
    refine j_pick [2, 1, 0] (ls' := [(0, _), (1, _), (3, _)]) rfl ?_
    refine l_dg1 hC2 ho ?_ Z.1.1 0 _ _ (by omega) rfl rfl
    refine j_iconst (v := 0) d_Ra_digest_77 rfl ?_
    refine j_istore_n (ls' := [(3, _), (0, _), (1, _)]) d_Ra_digest_78 rfl (by decide) rfl ?_
    refine j_pick [1, 2, 0] (ls' := [(0, _), (1, _), (3, _)]) rfl ?_
    refine l_dg2 hC2 ho ?_ 13 0 _ _ (by omega) rfl rfl
    refine j_lload_n d_Ra_digest_102 rfl rfl ?_
    refine j_lret d_Ra_digest_103 rfl ?_
    exact q_l1 (hF _ (q1.tr q2 (fun _ q => q))) (by unfold s_digest s_dg1; rw [if_neg hR])
