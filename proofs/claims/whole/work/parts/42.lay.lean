theorem a_pp_le6 {wt : Nat → Nat} (hw : a_wok wt) {x : List Nat} (h6 : x.length ≤ 6) (hx : ∀ j, j < x.length → x.getD j 0 < 6) : a_pp wt x < 1000000 := by
  have h1 := a_sum_lt (f := fun i => a_sh wt (fun j => x.getD j 0) i i) (c := 6 * 405) (n := x.length) (fun i hi => Nat.le_trans (a_sh_lt (hw i (by omega)) (hx i hi) (fun j hj => ⟨hw j (by omega), hx j (by omega)⟩)) (Nat.mul_le_mul_right _ (by omega)))
  have h2 : x.length * (6 * 405) ≤ 6 * (6 * 405) := Nat.mul_le_mul_right _ h6
  unfold a_pp
  omega
set_option maxRecDepth 100000 in
set_option maxHeartbeats 4000000 in
theorem l_price1 {G : r_X} {d : Nat} {h : r_HI} {p q : Nat} {z : r_HL} {F : Int32 → r_HI → r_HR → r_HL → Prop} {wt : Nat → Nat} (hW : p_Wm h 55 wt) {x : List Nat} (hL : p_L h 54 x) (h6 : x.length ≤ 6) (hx : ∀ j, j < x.length → x.getD j 0 < 6) {a s : Nat} (ha : a < x.length) {c1 : Int32} (kk : (∀ v, r_TM G m_Mo_priceOfTried (d) 61 61 (fun v h' g' z' => ∃ r, v = some (.int r) ∧ F r h' g' z') 93 [(0, .ref (G.2.1 + 47)), (1, .int c1), (2, .int (nI (s + a_sh wt (fun j => x.getD j 0) a a))), (3, .int (nI a)), (4, .int v)] [] 61 h (r_gp p q) z)) : ∀ (e b : Nat) (v : Int32), e + b = a → v = nI b → r_TM G m_Mo_priceOfTried (d) 61 61 (fun v h' g' z' => ∃ r, v = some (.int r) ∧ F r h' g' z') 12 [(0, .ref (G.2.1 + 47)), (1, .int c1), (2, .int (nI (s + a_sh wt (fun j => x.getD j 0) a b))), (3, .int (nI a)), (4, .int v)] [] 61 h (r_gp p q) z := by
  intro e
  induction e with
  | zero =>
    intro b v he hv
    subst hv
    refine j_iload d_Mo_priceOfTried_12 rfl ?_
    refine j_iload_n d_Mo_priceOfTried_14 rfl rfl ?_
    refine j_icmp_ge (tgt := 93) d_Mo_priceOfTried_15 rfl (fun bq1 => ?_) (fun bq1 => False.elim (bq1 (nI_le (by omega) (by omega))))
    have e0 : b = a := by omega
    subst e0
    exact kk _
  | succ e ih =>
    intro b v he hv
    subst hv
    have hxa := hx a ha
    have hxb := hx b (by omega)
    by_cases c : x.getD b 0 < x.getD a 0
    · refine j_iload d_Mo_priceOfTried_12 rfl ?_
      refine j_iload_n d_Mo_priceOfTried_14 rfl rfl ?_
      refine j_icmp_ge (tgt := 93) d_Mo_priceOfTried_15 rfl (fun bq1 => False.elim (nI_ge (by omega) (by omega) bq1)) (fun bq1 => ?_)
      refine j_aload_n d_Mo_priceOfTried_18 rfl rfl ?_
      refine j_getr d_Mo_priceOfTried_19 f_Mo_28 rfl rfl (by decide) rfl ?_
      refine j_iload_n d_Mo_priceOfTried_22 rfl rfl ?_
      refine j_iav d_Mo_priceOfTried_23 rfl (by decide) (j := a) (rfl) (by omega) (by decide) (hL a ha) ?_
      refine j_aload_n d_Mo_priceOfTried_24 rfl rfl ?_
      refine j_getr d_Mo_priceOfTried_25 f_Mo_28 rfl rfl (by decide) rfl ?_
      refine j_iload d_Mo_priceOfTried_28 rfl ?_
      refine j_iav d_Mo_priceOfTried_30 rfl (by decide) (j := b) (rfl) (by omega) (by decide) (hL b (by omega)) ?_
      refine j_icmp_le (tgt := 51) d_Mo_priceOfTried_31 rfl (fun bq2 => False.elim (nI_ge c (by omega) bq2)) (fun bq2 => ?_)
      refine j_aload_n d_Mo_priceOfTried_34 rfl rfl ?_
      refine j_getr d_Mo_priceOfTried_35 f_Mo_28 rfl rfl (by decide) rfl ?_
      refine j_iload_n d_Mo_priceOfTried_38 rfl rfl ?_
      refine j_iav d_Mo_priceOfTried_39 rfl (by decide) (j := a) (rfl) (by omega) (by decide) (hL a ha) ?_
      refine j_aload_n d_Mo_priceOfTried_40 rfl rfl ?_
      refine j_getr d_Mo_priceOfTried_41 f_Mo_28 rfl rfl (by decide) rfl ?_
      refine j_iload d_Mo_priceOfTried_44 rfl ?_
      refine j_iav d_Mo_priceOfTried_46 rfl (by decide) (j := b) (rfl) (by omega) (by decide) (hL b (by omega)) ?_
      refine j_isub d_Mo_priceOfTried_47 ?_
      refine j_goto (tgt := 65) d_Mo_priceOfTried_48 rfl ?_
      rw [pk_sub (by omega)]
      refine j_istore (ls' := [(5, _), (0, _), (1, _), (2, _), (3, _), (4, _)]) d_Mo_priceOfTried_65 (by decide) rfl ?_
      refine j_iload_n d_Mo_priceOfTried_67 rfl rfl ?_
      refine j_aload_n d_Mo_priceOfTried_68 rfl rfl ?_
      refine j_getr d_Mo_priceOfTried_69 f_Mo_31 rfl rfl (by decide) rfl ?_
      refine j_iload_n d_Mo_priceOfTried_72 rfl rfl ?_
      refine j_iav d_Mo_priceOfTried_73 rfl (by decide) (j := a) (rfl) (by omega) (by decide) (hW a (by omega)) ?_
      refine j_aload_n d_Mo_priceOfTried_74 rfl rfl ?_
      refine j_getr d_Mo_priceOfTried_75 f_Mo_31 rfl rfl (by decide) rfl ?_
      refine j_iload d_Mo_priceOfTried_78 rfl ?_
      refine j_iav d_Mo_priceOfTried_80 rfl (by decide) (j := b) (rfl) (by omega) (by decide) (hW b (by omega)) ?_
      refine j_imul d_Mo_priceOfTried_81 ?_
      refine j_iload d_Mo_priceOfTried_82 rfl ?_
      refine j_imul d_Mo_priceOfTried_84 ?_
      refine j_iadd d_Mo_priceOfTried_85 ?_
      rw [pk_mul, pk_mul, nI_add]
      refine j_istore_n (ls' := [(2, _), (5, _), (0, _), (1, _), (3, _), (4, _)]) d_Mo_priceOfTried_86 rfl (by decide) rfl ?_
      refine j_iinc (ls' := [(4, _), (2, _), (5, _), (0, _), (1, _), (3, _)]) d_Mo_priceOfTried_87 rfl (by decide) rfl ?_
      refine j_goto (tgt := 12) d_Mo_priceOfTried_90 rfl ?_
      refine j_pick [3, 4, 1, 5, 0] (ls' := [(0, _), (1, _), (2, _), (3, _), (4, _)]) rfl ?_
      have e9 : s + a_sh wt (fun j => x.getD j 0) a (b + 1) = s + a_sh wt (fun j => x.getD j 0) a b + wt a * wt b * (x.getD a 0 - x.getD b 0) := by
        show s + (a_sh wt (fun j => x.getD j 0) a b + wt b * wt a * a_ds (x.getD b 0) (x.getD a 0)) = _
        rw [show a_ds (x.getD b 0) (x.getD a 0) = x.getD a 0 - x.getD b 0 by unfold a_ds; split <;> omega, Nat.mul_comm (wt b) (wt a)]
        omega
      have ih1 := ih (b + 1) _ (by omega) (nI_inc b)
      rw [e9] at ih1
      exact ih1
    · refine j_iload d_Mo_priceOfTried_12 rfl ?_
      refine j_iload_n d_Mo_priceOfTried_14 rfl rfl ?_
      refine j_icmp_ge (tgt := 93) d_Mo_priceOfTried_15 rfl (fun bq1 => False.elim (nI_ge (by omega) (by omega) bq1)) (fun bq1 => ?_)
      refine j_aload_n d_Mo_priceOfTried_18 rfl rfl ?_
      refine j_getr d_Mo_priceOfTried_19 f_Mo_28 rfl rfl (by decide) rfl ?_
      refine j_iload_n d_Mo_priceOfTried_22 rfl rfl ?_
      refine j_iav d_Mo_priceOfTried_23 rfl (by decide) (j := a) (rfl) (by omega) (by decide) (hL a ha) ?_
      refine j_aload_n d_Mo_priceOfTried_24 rfl rfl ?_
      refine j_getr d_Mo_priceOfTried_25 f_Mo_28 rfl rfl (by decide) rfl ?_
      refine j_iload d_Mo_priceOfTried_28 rfl ?_
      refine j_iav d_Mo_priceOfTried_30 rfl (by decide) (j := b) (rfl) (by omega) (by decide) (hL b (by omega)) ?_
      refine j_icmp_le (tgt := 51) d_Mo_priceOfTried_31 rfl (fun bq2 => ?_) (fun bq2 => False.elim (bq2 (nI_le (by omega) (by omega))))
      refine j_aload_n d_Mo_priceOfTried_51 rfl rfl ?_
      refine j_getr d_Mo_priceOfTried_52 f_Mo_28 rfl rfl (by decide) rfl ?_
      refine j_iload d_Mo_priceOfTried_55 rfl ?_
      refine j_iav d_Mo_priceOfTried_57 rfl (by decide) (j := b) (rfl) (by omega) (by decide) (hL b (by omega)) ?_
      refine j_aload_n d_Mo_priceOfTried_58 rfl rfl ?_
      refine j_getr d_Mo_priceOfTried_59 f_Mo_28 rfl rfl (by decide) rfl ?_
      refine j_iload_n d_Mo_priceOfTried_62 rfl rfl ?_
      refine j_iav d_Mo_priceOfTried_63 rfl (by decide) (j := a) (rfl) (by omega) (by decide) (hL a ha) ?_
      refine j_isub d_Mo_priceOfTried_64 ?_
      rw [pk_sub (by omega)]
      refine j_istore (ls' := [(5, _), (0, _), (1, _), (2, _), (3, _), (4, _)]) d_Mo_priceOfTried_65 (by decide) rfl ?_
      refine j_iload_n d_Mo_priceOfTried_67 rfl rfl ?_
      refine j_aload_n d_Mo_priceOfTried_68 rfl rfl ?_
      refine j_getr d_Mo_priceOfTried_69 f_Mo_31 rfl rfl (by decide) rfl ?_
      refine j_iload_n d_Mo_priceOfTried_72 rfl rfl ?_
      refine j_iav d_Mo_priceOfTried_73 rfl (by decide) (j := a) (rfl) (by omega) (by decide) (hW a (by omega)) ?_
      refine j_aload_n d_Mo_priceOfTried_74 rfl rfl ?_
      refine j_getr d_Mo_priceOfTried_75 f_Mo_31 rfl rfl (by decide) rfl ?_
      refine j_iload d_Mo_priceOfTried_78 rfl ?_
      refine j_iav d_Mo_priceOfTried_80 rfl (by decide) (j := b) (rfl) (by omega) (by decide) (hW b (by omega)) ?_
      refine j_imul d_Mo_priceOfTried_81 ?_
      refine j_iload d_Mo_priceOfTried_82 rfl ?_
      refine j_imul d_Mo_priceOfTried_84 ?_
      refine j_iadd d_Mo_priceOfTried_85 ?_
      rw [pk_mul, pk_mul, nI_add]
      refine j_istore_n (ls' := [(2, _), (5, _), (0, _), (1, _), (3, _), (4, _)]) d_Mo_priceOfTried_86 rfl (by decide) rfl ?_
      refine j_iinc (ls' := [(4, _), (2, _), (5, _), (0, _), (1, _), (3, _)]) d_Mo_priceOfTried_87 rfl (by decide) rfl ?_
      refine j_goto (tgt := 12) d_Mo_priceOfTried_90 rfl ?_
      refine j_pick [3, 4, 1, 5, 0] (ls' := [(0, _), (1, _), (2, _), (3, _), (4, _)]) rfl ?_
      have e9 : s + a_sh wt (fun j => x.getD j 0) a (b + 1) = s + a_sh wt (fun j => x.getD j 0) a b + wt a * wt b * (x.getD b 0 - x.getD a 0) := by
        show s + (a_sh wt (fun j => x.getD j 0) a b + wt b * wt a * a_ds (x.getD b 0) (x.getD a 0)) = _
        rw [show a_ds (x.getD b 0) (x.getD a 0) = x.getD b 0 - x.getD a 0 by unfold a_ds; split <;> omega, Nat.mul_comm (wt b) (wt a)]
        omega
      have ih1 := ih (b + 1) _ (by omega) (nI_inc b)
      rw [e9] at ih1
      exact ih1
set_option maxRecDepth 100000 in
set_option maxHeartbeats 4000000 in
theorem l_price2 {G : r_X} {d : Nat} {h : r_HI} {p q : Nat} {z : r_HL} {F : Int32 → r_HI → r_HR → r_HL → Prop} {wt : Nat → Nat} (hW : p_Wm h 55 wt) {x : List Nat} (hL : p_L h 54 x) (h6 : x.length ≤ 6) (hx : ∀ j, j < x.length → x.getD j 0 < 6) (hF : F (nI (a_pp wt x)) h (r_gp p q) z) : ∀ (e a : Nat) (v : Int32), e + a = x.length → v = nI a → r_TM G m_Mo_priceOfTried (d) 61 61 (fun v h' g' z' => ∃ r, v = some (.int r) ∧ F r h' g' z') 4 [(0, .ref (G.2.1 + 47)), (1, .int (nI x.length)), (2, .int (nI (a_sum (fun i => a_sh wt (fun j => x.getD j 0) i i) a))), (3, .int v)] [] 61 h (r_gp p q) z := by
  intro e
  induction e with
  | zero =>
    intro a v he hv
    subst hv
    refine j_iload_n d_Mo_priceOfTried_4 rfl rfl ?_
    refine j_iload_n d_Mo_priceOfTried_5 rfl rfl ?_
    refine j_icmp_ge (tgt := 99) d_Mo_priceOfTried_6 rfl (fun bq1 => ?_) (fun bq1 => False.elim (bq1 (nI_le (by omega) (by omega))))
    refine j_iload_n d_Mo_priceOfTried_99 rfl rfl ?_
    refine j_iret d_Mo_priceOfTried_100 rfl ?_
    have e0 : a = x.length := by omega
    subst e0
    exact q_i1 hF rfl
  | succ e ih =>
    intro a v he hv
    subst hv
    refine j_iload_n d_Mo_priceOfTried_4 rfl rfl ?_
    refine j_iload_n d_Mo_priceOfTried_5 rfl rfl ?_
    refine j_icmp_ge (tgt := 99) d_Mo_priceOfTried_6 rfl (fun bq1 => False.elim (nI_ge (by omega) (by omega) bq1)) (fun bq1 => ?_)
    refine j_iconst (v := 0) d_Mo_priceOfTried_9 rfl ?_
    refine j_istore (ls' := [(4, _), (0, _), (1, _), (2, _), (3, _)]) d_Mo_priceOfTried_10 (by decide) rfl ?_
    refine j_pick [1, 2, 3, 4, 0] (ls' := [(0, _), (1, _), (2, _), (3, _), (4, _)]) rfl ?_
    refine l_price1 hW hL h6 hx (a := a) (by omega) (fun v => ?_) a 0 _ (by omega) rfl
    refine j_iinc (ls' := [(3, _), (0, _), (1, _), (2, _), (4, _)]) d_Mo_priceOfTried_93 rfl (by decide) rfl ?_
    refine j_goto (tgt := 4) d_Mo_priceOfTried_96 rfl ?_
    refine j_pick [1, 2, 3, 0] (ls' := [(0, _), (1, _), (2, _), (3, _)]) rfl ?_
    exact ih (a + 1) _ (by omega) (nI_inc a)
set_option maxRecDepth 100000 in
set_option maxHeartbeats 4000000 in
theorem c_Mo_priceOfTried {G : r_X} {d : Nat} {h : r_HI} {p q : Nat} {z : r_HL} {F : Int32 → r_HI → r_HR → r_HL → Prop} {wt : Nat → Nat} (hW : p_Wm h 55 wt) {x : List Nat} (hL : p_L h 54 x) (h6 : x.length ≤ 6) (hx : ∀ j, j < x.length → x.getD j 0 < 6) {a1 : Int32} (e1 : a1 = nI x.length) (hF : F (nI (a_pp wt x)) h (r_gp p q) z) : r_Ci G m_Mo_priceOfTried (d) 61 [.ref (G.2.1 + 47), .int a1] 61 h (r_gp p q) z F := by
  subst e1
  refine r_C_of (by decide +kernel) (Nat.le_of_ble_eq_true rfl) ?_
  refine j_ls (ls' := [(0, _), (1, _)]) rfl ?_
  refine j_iconst (v := 0) d_Mo_priceOfTried_0 rfl ?_
  refine j_istore_n (ls' := [(2, _), (0, _), (1, _)]) d_Mo_priceOfTried_1 rfl (by decide) rfl ?_
  refine j_iconst (v := 0) d_Mo_priceOfTried_2 rfl ?_
  refine j_istore_n (ls' := [(3, _), (2, _), (0, _), (1, _)]) d_Mo_priceOfTried_3 rfl (by decide) rfl ?_
  refine j_pick [2, 3, 1, 0] (ls' := [(0, _), (1, _), (2, _), (3, _)]) rfl ?_
  exact l_price2 hW hL h6 hx hF x.length 0 _ (by omega) rfl
set_option maxRecDepth 100000 in
set_option maxHeartbeats 4000000 in
theorem l_layOf {G : r_X} {d : Nat} {h : r_HI} {p q : Nat} {z : r_HL} {F : Int32 → r_HI → r_HR → r_HL → Prop} {wt : Nat → Nat} (hW : p_Wm h 55 wt) (hw : a_wok wt) {a1 : Int32} (kk : (∀ h' be v, r_ey [54] [] h h' → be < a_fc (a_hm wt 6) → (a_pc (a_hm wt 6) (a_hm wt 6) 0 [])[be]? = some (a_lyy wt).2 → r_TM G m_Mo_layOf (d + 2) 61 61 (fun v h' g' z' => ∃ r, v = some (.int r) ∧ F r h' g' z') 73 [(0, .ref (G.2.1 + 47)), (1, .int a1), (2, .int (nI (a_hm wt 6))), (3, .int (nI be)), (4, .int (nI (a_lyy wt).1)), (5, .int v)] [] 61 h' (r_gp p q) z)) : ∀ (e no le be : Nat) (v : Int32) (h1 : r_HI), e + no = a_fc (a_hm wt 6) → v = nI no → r_ey [54] [] h h1 → ((no = 0 → le = 1000000 ∧ be = 0) ∧ (0 < no → le = (a_fd (a_pp wt) (2147483647, []) ((a_pc (a_hm wt 6) (a_hm wt 6) 0 []).take no)).1 ∧ le < 1000000 ∧ be < no ∧ (a_pc (a_hm wt 6) (a_hm wt 6) 0 [])[be]? = some (a_fd (a_pp wt) (2147483647, []) ((a_pc (a_hm wt 6) (a_hm wt 6) 0 []).take no)).2)) → r_TM G m_Mo_layOf (d + 2) 61 61 (fun v h' g' z' => ∃ r, v = some (.int r) ∧ F r h' g' z') 14 [(0, .ref (G.2.1 + 47)), (1, .int a1), (2, .int (nI (a_hm wt 6))), (3, .int (nI be)), (4, .int (nI le)), (5, .int v)] [] 61 h1 (r_gp p q) z := by
  have h6 := a_hm_le wt 6
  have hfc := a_fc_le (n := (a_hm wt 6)) (by omega)
  intro e
  induction e with
  | zero =>
    intro no le be v h1 he hv hy hi
    subst hv
    refine j_iload d_Mo_layOf_14 rfl ?_
    refine j_iload_n d_Mo_layOf_16 rfl rfl ?_
    refine q_i s_Mo_layOf_17 rfl (Nat.le_of_ble_eq_true rfl) (Nat.le_of_ble_eq_true rfl) ?_
    refine c_Mo_factorial (n := (a_hm wt 6)) (by omega) rfl ?_
    refine j_icmp_ge (tgt := 73) d_Mo_layOf_20 rfl (fun bq1 => ?_) (fun bq1 => False.elim (bq1 (nI_le (by omega) (by omega))))
    have e0 : no = a_fc (a_hm wt 6) := by omega
    obtain ⟨i1, i2, i3, i4⟩ := hi.2 (by omega)
    have e1 : (a_fd (a_pp wt) (2147483647, []) ((a_pc (a_hm wt 6) (a_hm wt 6) 0 []).take no)) = a_lyy wt := by
      unfold a_lyy
      rw [List.take_of_length_le (by rw [m_len (by omega)]; omega)]
    rw [e1] at i1 i4
    subst i1
    exact kk _ be _ hy (by omega) i4
  | succ e ih =>
    intro no le be v h1 he hv hy hi
    subst hv
    obtain ⟨x, hx1, hx2, hx3, hx4⟩ := m_lt_at (n := (a_hm wt 6)) (no := no) (by omega) (by omega)
    have hpr : a_pp wt x < 1000000 := a_pp_le6 hw (by omega) (fun j hj => by have := hx4 j (by omega); omega)
    have hfd : a_fd (a_pp wt) (2147483647, []) ((a_pc (a_hm wt 6) (a_hm wt 6) 0 []).take (no + 1)) = a_bf (a_pp wt) (a_fd (a_pp wt) (2147483647, []) ((a_pc (a_hm wt 6) (a_hm wt 6) 0 []).take no)) x := by
      rw [List.take_add_one, hx1, a_fd_app]
      rfl
    have hle : le ≤ 1000000 := by
      by_cases n0 : no = 0
      · have := (hi.1 n0).1
        omega
      · have := (hi.2 (by omega)).2.1
        omega
    have hbe : be < 5040 := by
      by_cases n0 : no = 0
      · have := (hi.1 n0).2
        omega
      · have := (hi.2 (by omega)).2.2.1
        omega
    by_cases c : a_pp wt x < le
    · refine j_iload d_Mo_layOf_14 rfl ?_
      refine j_iload_n d_Mo_layOf_16 rfl rfl ?_
      refine q_i s_Mo_layOf_17 rfl (Nat.le_of_ble_eq_true rfl) (Nat.le_of_ble_eq_true rfl) ?_
      refine c_Mo_factorial (n := (a_hm wt 6)) (by omega) rfl ?_
      refine j_icmp_ge (tgt := 73) d_Mo_layOf_20 rfl (fun bq1 => False.elim (nI_ge (by omega) (by omega) bq1)) (fun bq1 => ?_)
      refine j_aload_n d_Mo_layOf_23 rfl rfl ?_
      refine j_iload d_Mo_layOf_24 rfl ?_
      refine j_iload_n d_Mo_layOf_26 rfl rfl ?_
      refine q_v (s_Mo_layOf_27 rfl (by decide)) rfl (Nat.le_of_ble_eq_true rfl) (Nat.le_of_ble_eq_true rfl) ?_
      refine c_Mo_layTried (n := (a_hm wt 6)) (no := no) (by omega) (by omega) hx2 rfl rfl (fun h2 y2 l2 => ?_)
      refine j_aload_n d_Mo_layOf_30 rfl rfl ?_
      refine j_iload_n d_Mo_layOf_31 rfl rfl ?_
      refine q_i (s_Mo_layOf_32 rfl (by decide)) rfl (Nat.le_of_ble_eq_true rfl) (Nat.le_of_ble_eq_true rfl) ?_
      refine c_Mo_priceOfTried (x := x) ((hW.ey hy (by decide) (by decide)).ey y2 (by decide) (by decide)) l2 (by omega) (fun j hj => by have := hx4 j (by omega); omega) (by rw [hx3]) ?_
      refine j_istore (ls' := [(6, _), (0, _), (1, _), (2, _), (3, _), (4, _), (5, _)]) d_Mo_layOf_35 (by decide) rfl ?_
      refine j_iload d_Mo_layOf_37 rfl ?_
      refine j_iload d_Mo_layOf_39 rfl ?_
      refine j_icmp_ge (tgt := 49) d_Mo_layOf_41 rfl (fun bq2 => False.elim (nI_ge c (by omega) bq2)) (fun bq2 => ?_)
      refine j_iload d_Mo_layOf_44 rfl ?_
      refine j_goto (tgt := 50) d_Mo_layOf_46 rfl ?_
      refine j_istore_n (ls' := [(3, _), (6, _), (0, _), (1, _), (2, _), (4, _), (5, _)]) d_Mo_layOf_50 rfl (by decide) rfl ?_
      refine j_iload d_Mo_layOf_51 rfl ?_
      refine j_iload d_Mo_layOf_53 rfl ?_
      refine j_icmp_ge (tgt := 63) d_Mo_layOf_55 rfl (fun bq3 => False.elim (nI_ge c (by omega) bq3)) (fun bq3 => ?_)
      refine j_iload d_Mo_layOf_58 rfl ?_
      refine j_goto (tgt := 65) d_Mo_layOf_60 rfl ?_
      refine j_istore (ls' := [(4, _), (3, _), (6, _), (0, _), (1, _), (2, _), (5, _)]) d_Mo_layOf_65 (by decide) rfl ?_
      refine j_iinc (ls' := [(5, _), (4, _), (3, _), (6, _), (0, _), (1, _), (2, _)]) d_Mo_layOf_67 rfl (by decide) rfl ?_
      refine j_goto (tgt := 14) d_Mo_layOf_70 rfl ?_
      refine j_pick [4, 5, 6, 2, 1, 0] (ls' := [(0, _), (1, _), (2, _), (3, _), (4, _), (5, _)]) rfl ?_
      refine ih (no + 1) _ _ _ h2 (by omega) (nI_inc no) (hy.tr y2 (by decide) (by decide)) ⟨fun e => absurd e (by omega), fun _ => ?_⟩
      rw [hfd]
      have hlt : a_pp wt x < (a_fd (a_pp wt) (2147483647, []) ((a_pc (a_hm wt 6) (a_hm wt 6) 0 []).take no)).1 := by
        by_cases n0 : no = 0
        · subst n0
          show a_pp wt x < 2147483647
          omega
        · rw [← (hi.2 (by omega)).1]
          exact c
      rw [a_bf, if_pos hlt]
      exact ⟨rfl, hpr, by omega, hx1⟩
    · refine j_iload d_Mo_layOf_14 rfl ?_
      refine j_iload_n d_Mo_layOf_16 rfl rfl ?_
      refine q_i s_Mo_layOf_17 rfl (Nat.le_of_ble_eq_true rfl) (Nat.le_of_ble_eq_true rfl) ?_
      refine c_Mo_factorial (n := (a_hm wt 6)) (by omega) rfl ?_
      refine j_icmp_ge (tgt := 73) d_Mo_layOf_20 rfl (fun bq1 => False.elim (nI_ge (by omega) (by omega) bq1)) (fun bq1 => ?_)
      refine j_aload_n d_Mo_layOf_23 rfl rfl ?_
      refine j_iload d_Mo_layOf_24 rfl ?_
      refine j_iload_n d_Mo_layOf_26 rfl rfl ?_
      refine q_v (s_Mo_layOf_27 rfl (by decide)) rfl (Nat.le_of_ble_eq_true rfl) (Nat.le_of_ble_eq_true rfl) ?_
      refine c_Mo_layTried (n := (a_hm wt 6)) (no := no) (by omega) (by omega) hx2 rfl rfl (fun h2 y2 l2 => ?_)
      refine j_aload_n d_Mo_layOf_30 rfl rfl ?_
      refine j_iload_n d_Mo_layOf_31 rfl rfl ?_
      refine q_i (s_Mo_layOf_32 rfl (by decide)) rfl (Nat.le_of_ble_eq_true rfl) (Nat.le_of_ble_eq_true rfl) ?_
      refine c_Mo_priceOfTried (x := x) ((hW.ey hy (by decide) (by decide)).ey y2 (by decide) (by decide)) l2 (by omega) (fun j hj => by have := hx4 j (by omega); omega) (by rw [hx3]) ?_
      refine j_istore (ls' := [(6, _), (0, _), (1, _), (2, _), (3, _), (4, _), (5, _)]) d_Mo_layOf_35 (by decide) rfl ?_
      refine j_iload d_Mo_layOf_37 rfl ?_
      refine j_iload d_Mo_layOf_39 rfl ?_
      refine j_icmp_ge (tgt := 49) d_Mo_layOf_41 rfl (fun bq2 => ?_) (fun bq2 => False.elim (bq2 (nI_le (by omega) (by omega))))
      refine j_iload_n d_Mo_layOf_49 rfl rfl ?_
      refine j_istore_n (ls' := [(3, _), (6, _), (0, _), (1, _), (2, _), (4, _), (5, _)]) d_Mo_layOf_50 rfl (by decide) rfl ?_
      refine j_iload d_Mo_layOf_51 rfl ?_
      refine j_iload d_Mo_layOf_53 rfl ?_
      refine j_icmp_ge (tgt := 63) d_Mo_layOf_55 rfl (fun bq3 => ?_) (fun bq3 => False.elim (bq3 (nI_le (by omega) (by omega))))
      refine j_iload d_Mo_layOf_63 rfl ?_
      refine j_istore (ls' := [(4, _), (3, _), (6, _), (0, _), (1, _), (2, _), (5, _)]) d_Mo_layOf_65 (by decide) rfl ?_
      refine j_iinc (ls' := [(5, _), (4, _), (3, _), (6, _), (0, _), (1, _), (2, _)]) d_Mo_layOf_67 rfl (by decide) rfl ?_
      refine j_goto (tgt := 14) d_Mo_layOf_70 rfl ?_
      refine j_pick [4, 5, 6, 2, 1, 0] (ls' := [(0, _), (1, _), (2, _), (3, _), (4, _), (5, _)]) rfl ?_
      refine ih (no + 1) _ _ _ h2 (by omega) (nI_inc no) (hy.tr y2 (by decide) (by decide)) ⟨fun e => absurd e (by omega), fun _ => ?_⟩
      rw [hfd]
      have n0 : 0 < no := by
        refine Nat.pos_of_ne_zero (fun n0 => ?_)
        have := (hi.1 n0).1
        omega
      obtain ⟨i1, i2, i3, i4⟩ := hi.2 n0
      rw [a_bf, if_neg (by rw [← i1]; exact c)]
      exact ⟨i1, i2, by omega, i4⟩
set_option maxRecDepth 100000 in
set_option maxHeartbeats 4000000 in
theorem c_Mo_layOf0 {G : r_X} {d : Nat} {h : r_HI} {p q : Nat} {z : r_HL} {F : Int32 → r_HI → r_HR → r_HL → Prop} {wt : Nat → Nat} (hW : p_Wm h 55 wt) (hw : a_wok wt) {a1 : Int32} (e1 : a1 = 0) (hF : ∀ h', r_ey [54] [] h h' → F (nI (a_lyy wt).1) h' (r_gp p q) z) : r_Ci G m_Mo_layOf (d + 2) 61 [.ref (G.2.1 + 47), .int a1] 61 h (r_gp p q) z F := by
  have h6 := a_hm_le wt 6
  have hfc := a_fc_le (n := (a_hm wt 6)) (by omega)
  refine r_C_of (by decide +kernel) (Nat.le_of_ble_eq_true rfl) ?_
  refine j_ls (ls' := [(0, _), (1, _)]) rfl ?_
  refine j_aload_n d_Mo_layOf_0 rfl rfl ?_
  refine q_i (s_Mo_layOf_1 rfl (by decide)) rfl (Nat.le_of_ble_eq_true rfl) (Nat.le_of_ble_eq_true rfl) ?_
  refine c_Mo_things hW hw ?_
  refine j_istore_n (ls' := [(2, _), (0, _), (1, _)]) d_Mo_layOf_4 rfl (by decide) rfl ?_
  refine j_iconst (v := 0) d_Mo_layOf_5 rfl ?_
  refine j_istore_n (ls' := [(3, _), (2, _), (0, _), (1, _)]) d_Mo_layOf_6 rfl (by decide) rfl ?_
  refine j_ldc d_Mo_layOf_7 k_Mo_216 ?_
  refine j_istore (ls' := [(4, _), (3, _), (2, _), (0, _), (1, _)]) d_Mo_layOf_9 (by decide) rfl ?_
  refine j_iconst (v := 0) d_Mo_layOf_11 rfl ?_
  refine j_istore (ls' := [(5, _), (4, _), (3, _), (2, _), (0, _), (1, _)]) d_Mo_layOf_12 (by decide) rfl ?_
  refine j_pick [4, 5, 3, 2, 1, 0] (ls' := [(0, _), (1, _), (2, _), (3, _), (4, _), (5, _)]) rfl ?_
  refine l_layOf hW hw (fun h1 be v y1 hb1 hb2 => ?_) (a_fc (a_hm wt 6)) 0 1000000 0 _ _ (by omega) rfl r_ey.rf ⟨fun _ => ⟨rfl, rfl⟩, fun e => absurd e (by omega)⟩
  obtain ⟨x, hx1, hx2, hx3, hx4⟩ := m_lt_at (n := (a_hm wt 6)) (no := be) (by omega) hb1
  have hxe : x = (a_lyy wt).2 := Option.some.inj (hx1.symm.trans hb2)
  refine j_aload_n d_Mo_layOf_73 rfl rfl ?_
  refine j_iload_n d_Mo_layOf_74 rfl rfl ?_
  refine j_iload_n d_Mo_layOf_75 rfl rfl ?_
  refine q_v (s_Mo_layOf_76 rfl (by decide)) rfl (Nat.le_of_ble_eq_true rfl) (Nat.le_of_ble_eq_true rfl) ?_
  refine c_Mo_layTried (n := (a_hm wt 6)) (no := be) (by omega) (by omega) hx2 rfl rfl (fun h2 y2 l2 => ?_)
  refine j_iload_n d_Mo_layOf_79 rfl rfl ?_
  refine j_if_ne (tgt := 88) d_Mo_layOf_80 rfl (fun bq1 => False.elim (bq1 e1)) (fun bq1 => ?_)
  refine j_iload d_Mo_layOf_83 rfl ?_
  refine j_goto (tgt := 109) d_Mo_layOf_85 rfl ?_
  refine j_iret d_Mo_layOf_109 rfl ?_
  exact q_i1 (hF _ (y1.tr y2 (by decide) (by decide))) rfl
set_option maxRecDepth 100000 in
set_option maxHeartbeats 4000000 in
theorem c_Mo_layOf {G : r_X} {d : Nat} {h : r_HI} {p q : Nat} {z : r_HL} {F : Int32 → r_HI → r_HR → r_HL → Prop} {wt : Nat → Nat} (hW : p_Wm h 55 wt) (hw : a_wok wt) {t : Nat} {a1 : Int32} (ht : t < 6) (e1 : a1 = nI (10 + t)) (hF : ∀ h', r_ey [54] [] h h' → F (if t < (a_hm wt 6) then nI ((a_lyy wt).2.getD t 0) else -1) h' (r_gp p q) z) : r_Ci G m_Mo_layOf (d + 2) 61 [.ref (G.2.1 + 47), .int a1] 61 h (r_gp p q) z F := by
  have h6 := a_hm_le wt 6
  have hfc := a_fc_le (n := (a_hm wt 6)) (by omega)
  have e10 : a1 - 10 = nI t := by rw [e1]; exact nI_10 t
  refine r_C_of (by decide +kernel) (Nat.le_of_ble_eq_true rfl) ?_
  refine j_ls (ls' := [(0, _), (1, _)]) rfl ?_
  refine j_aload_n d_Mo_layOf_0 rfl rfl ?_
  refine q_i (s_Mo_layOf_1 rfl (by decide)) rfl (Nat.le_of_ble_eq_true rfl) (Nat.le_of_ble_eq_true rfl) ?_
  refine c_Mo_things hW hw ?_
  refine j_istore_n (ls' := [(2, _), (0, _), (1, _)]) d_Mo_layOf_4 rfl (by decide) rfl ?_
  refine j_iconst (v := 0) d_Mo_layOf_5 rfl ?_
  refine j_istore_n (ls' := [(3, _), (2, _), (0, _), (1, _)]) d_Mo_layOf_6 rfl (by decide) rfl ?_
  refine j_ldc d_Mo_layOf_7 k_Mo_216 ?_
  refine j_istore (ls' := [(4, _), (3, _), (2, _), (0, _), (1, _)]) d_Mo_layOf_9 (by decide) rfl ?_
  refine j_iconst (v := 0) d_Mo_layOf_11 rfl ?_
  refine j_istore (ls' := [(5, _), (4, _), (3, _), (2, _), (0, _), (1, _)]) d_Mo_layOf_12 (by decide) rfl ?_
  refine j_pick [4, 5, 3, 2, 1, 0] (ls' := [(0, _), (1, _), (2, _), (3, _), (4, _), (5, _)]) rfl ?_
  refine l_layOf hW hw (fun h1 be v y1 hb1 hb2 => ?_) (a_fc (a_hm wt 6)) 0 1000000 0 _ _ (by omega) rfl r_ey.rf ⟨fun _ => ⟨rfl, rfl⟩, fun e => absurd e (by omega)⟩
  obtain ⟨x, hx1, hx2, hx3, hx4⟩ := m_lt_at (n := (a_hm wt 6)) (no := be) (by omega) hb1
  have hxe : x = (a_lyy wt).2 := Option.some.inj (hx1.symm.trans hb2)
  by_cases c : t < (a_hm wt 6)
  · rw [if_pos c] at hF
    refine j_aload_n d_Mo_layOf_73 rfl rfl ?_
    refine j_iload_n d_Mo_layOf_74 rfl rfl ?_
    refine j_iload_n d_Mo_layOf_75 rfl rfl ?_
    refine q_v (s_Mo_layOf_76 rfl (by decide)) rfl (Nat.le_of_ble_eq_true rfl) (Nat.le_of_ble_eq_true rfl) ?_
    refine c_Mo_layTried (n := (a_hm wt 6)) (no := be) (by omega) (by omega) hx2 rfl rfl (fun h2 y2 l2 => ?_)
    refine j_iload_n d_Mo_layOf_79 rfl rfl ?_
    refine j_if_ne (tgt := 88) d_Mo_layOf_80 rfl (fun bq1 => ?_) (fun bq1 => False.elim (absurd ((nI_eq (a := 10 + t) (b := 0) (by omega) (by omega)).mp (e1.symm.trans bq1)) (by omega)))
    refine j_iload_n d_Mo_layOf_88 rfl rfl ?_
    refine j_bipush (v := 10) d_Mo_layOf_89 (by decide) ?_
    refine j_isub d_Mo_layOf_91 ?_
    refine j_iload_n d_Mo_layOf_92 rfl rfl ?_
    refine j_icmp_ge (tgt := 108) d_Mo_layOf_93 rfl (fun bq2 => False.elim (nI_ge c (by omega) (e10 ▸ bq2))) (fun bq2 => ?_)
    refine j_aload_n d_Mo_layOf_96 rfl rfl ?_
    refine j_getr d_Mo_layOf_97 f_Mo_28 rfl rfl (by decide) rfl ?_
    refine j_iload_n d_Mo_layOf_100 rfl rfl ?_
    refine j_bipush (v := 10) d_Mo_layOf_101 (by decide) ?_
    refine j_isub d_Mo_layOf_103 ?_
    refine j_iav d_Mo_layOf_104 rfl (by decide) (j := t) (e10) (by omega) (by decide) ((l2 t (by omega)).trans (by rw [hxe])) ?_
    refine j_goto (tgt := 109) d_Mo_layOf_105 rfl ?_
    refine j_iret d_Mo_layOf_109 rfl ?_
    exact q_i1 (hF _ (y1.tr y2 (by decide) (by decide))) rfl
  · rw [if_neg c] at hF
    refine j_aload_n d_Mo_layOf_73 rfl rfl ?_
    refine j_iload_n d_Mo_layOf_74 rfl rfl ?_
    refine j_iload_n d_Mo_layOf_75 rfl rfl ?_
    refine q_v (s_Mo_layOf_76 rfl (by decide)) rfl (Nat.le_of_ble_eq_true rfl) (Nat.le_of_ble_eq_true rfl) ?_
    refine c_Mo_layTried (n := (a_hm wt 6)) (no := be) (by omega) (by omega) hx2 rfl rfl (fun h2 y2 l2 => ?_)
    refine j_iload_n d_Mo_layOf_79 rfl rfl ?_
    refine j_if_ne (tgt := 88) d_Mo_layOf_80 rfl (fun bq1 => ?_) (fun bq1 => False.elim (absurd ((nI_eq (a := 10 + t) (b := 0) (by omega) (by omega)).mp (e1.symm.trans bq1)) (by omega)))
    refine j_iload_n d_Mo_layOf_88 rfl rfl ?_
    refine j_bipush (v := 10) d_Mo_layOf_89 (by decide) ?_
    refine j_isub d_Mo_layOf_91 ?_
    refine j_iload_n d_Mo_layOf_92 rfl rfl ?_
    refine j_icmp_ge (tgt := 108) d_Mo_layOf_93 rfl (fun bq2 => ?_) (fun bq2 => False.elim (bq2 (by rw [e10]; exact nI_le (by omega) (by omega))))
    refine j_iconst (v := (-1)) d_Mo_layOf_108 rfl ?_
    refine j_iret d_Mo_layOf_109 rfl ?_
    exact q_i1 (hF _ (y1.tr y2 (by decide) (by decide))) rfl
set_option maxRecDepth 100000 in
set_option maxHeartbeats 4000000 in
theorem c_Mo_lay {G : r_X} {d : Nat} {h : r_HI} {p q : Nat} {z : r_HL} {F : Int32 → r_HI → r_HR → r_HL → Prop} {Z : a_Z} {x : Int32} (hM : p_M h Z) (ho : a_zok Z) (hF : ∀ h', r_ey r_As r_Js h h' → F (s_lay Z x) h' (r_gp p q) z) : r_Ci G m_Mo_lay (d + 20) 61 [.ref (G.2.1 + 47), .int x] 61 h (r_gp p q) z F := by
  obtain ⟨mG, mN, mJ0, m6, mW, mS, m11, m20, mkk, mkp⟩ := id hM
  obtain ⟨op, ⟨od, ok, otk, ow, os, okd⟩, o3, o4, o5, o6, o7⟩ := id ho
  obtain ⟨od1, od2, od3, od4⟩ := id od
  obtain ⟨ok1, ok2, ok3, ok4⟩ := id ok
  have os1 := os.1
  have op1 := op.1
  rcases ixc x 16 with ⟨ix1, hr1⟩ | ⟨v, hj1, e1, ix1, t1⟩
  · have hs : s_lay Z x = -102 := by simp [s_lay, ix1]
    rw [hs] at hF
    refine r_C_of (by decide +kernel) (Nat.le_of_ble_eq_true rfl) ?_
    refine j_ls (ls' := [(0, _), (1, _)]) rfl ?_
    refine j_iload_n d_Mo_lay_0 rfl rfl ?_
    refine j_if_eq (tgt := 21) d_Mo_lay_1 rfl (fun bq1 => False.elim (absurd ((xeq (n := 0) (by decide)).mp bq1) (by omega))) (fun bq1 => ?_)
    refine j_iload_n d_Mo_lay_4 rfl rfl ?_
    refine j_i2l d_Mo_lay_5 ?_
    refine j_ldc2 d_Mo_lay_6 k_Mo_230 ?_
    refine j_ldc2 d_Mo_lay_9 k_Mo_248 ?_
    refine q_i s_Mo_lay_12 rfl (Nat.le_of_ble_eq_true rfl) (Nat.le_of_ble_eq_true rfl) ?_
    refine c_inN 10 15 rfl rfl (by omega) ?_
    refine j_if_ne (tgt := 21) d_Mo_lay_15 rfl (fun bq2 => False.elim (bq2 rfl)) (fun bq2 => ?_)
    refine j_bipush (v := (-102)) d_Mo_lay_18 (by decide) ?_
    refine j_iret d_Mo_lay_20 rfl ?_
    exact q_i1 (hF _ r_ey.rf) rfl
  · by_cases v0 : v = 0
    · by_cases hR : Z.2.1.1.1 = 0
      · have hs : s_lay Z x = -103 := by simp [s_lay, ix1, v0, hR]
        rw [hs] at hF
        refine r_C_of (by decide +kernel) (Nat.le_of_ble_eq_true rfl) ?_
        refine j_ls (ls' := [(0, _), (1, _)]) rfl ?_
        refine j_iload_n d_Mo_lay_0 rfl rfl ?_
        refine j_if_eq (tgt := 21) d_Mo_lay_1 rfl (fun bq1 => ?_) (fun bq1 => False.elim (bq1 ((xeq (n := 0) (by decide)).mpr (by omega))))
        refine j_aload_n d_Mo_lay_21 rfl rfl ?_
        refine q_i (s_Mo_lay_22 rfl (by decide)) rfl (Nat.le_of_ble_eq_true rfl) (Nat.le_of_ble_eq_true rfl) ?_
        refine c_Mo_lacksY mN od hR ?_
        refine j_if_eq (tgt := 33) d_Mo_lay_25 rfl (fun bq2 => False.elim (absurd bq2 (by decide))) (fun bq2 => ?_)
        refine j_bipush (v := (-103)) d_Mo_lay_28 (by decide) ?_
        refine j_goto (tgt := 38) d_Mo_lay_30 rfl ?_
        refine j_iret d_Mo_lay_38 rfl ?_
        exact q_i1 (hF _ r_ey.rf) rfl
      · have hs : s_lay Z x = nI (a_lyy Z.2.1.2.2.1).1 := by simp [s_lay, ix1, v0, hR, a_lay1]
        rw [hs] at hF
        refine r_C_of (by decide +kernel) (Nat.le_of_ble_eq_true rfl) ?_
        refine j_ls (ls' := [(0, _), (1, _)]) rfl ?_
        refine j_iload_n d_Mo_lay_0 rfl rfl ?_
        refine j_if_eq (tgt := 21) d_Mo_lay_1 rfl (fun bq1 => ?_) (fun bq1 => False.elim (bq1 ((xeq (n := 0) (by decide)).mpr (by omega))))
        refine j_aload_n d_Mo_lay_21 rfl rfl ?_
        refine q_i (s_Mo_lay_22 rfl (by decide)) rfl (Nat.le_of_ble_eq_true rfl) (Nat.le_of_ble_eq_true rfl) ?_
        refine c_Mo_lacksN mN od hR ?_
        refine j_if_eq (tgt := 33) d_Mo_lay_25 rfl (fun bq2 => ?_) (fun bq2 => False.elim (bq2 rfl))
        refine j_aload_n d_Mo_lay_33 rfl rfl ?_
        refine j_iload_n d_Mo_lay_34 rfl rfl ?_
        refine q_i (s_Mo_lay_35 rfl (by decide)) rfl (Nat.le_of_ble_eq_true rfl) (Nat.le_of_ble_eq_true rfl) ?_
        refine c_Mo_layOf0 mW ow (x_of (j := 0) (by omega)) (fun h1 y1 => ?_)
        refine j_iret d_Mo_lay_38 rfl ?_
        exact q_i1 (hF _ (y1.mono (by decide) (by decide))) rfl
    · by_cases vv : v < 10
      · have hs : s_lay Z x = -102 := by simp [s_lay, ix1, v0, vv]
        rw [hs] at hF
        refine r_C_of (by decide +kernel) (Nat.le_of_ble_eq_true rfl) ?_
        refine j_ls (ls' := [(0, _), (1, _)]) rfl ?_
        refine j_iload_n d_Mo_lay_0 rfl rfl ?_
        refine j_if_eq (tgt := 21) d_Mo_lay_1 rfl (fun bq1 => False.elim (absurd ((xeq (n := 0) (by decide)).mp bq1) (by omega))) (fun bq1 => ?_)
        refine j_iload_n d_Mo_lay_4 rfl rfl ?_
        refine j_i2l d_Mo_lay_5 ?_
        refine j_ldc2 d_Mo_lay_6 k_Mo_230 ?_
        refine j_ldc2 d_Mo_lay_9 k_Mo_248 ?_
        refine q_i s_Mo_lay_12 rfl (Nat.le_of_ble_eq_true rfl) (Nat.le_of_ble_eq_true rfl) ?_
        refine c_inN 10 15 rfl rfl (by omega) ?_
        refine j_if_ne (tgt := 21) d_Mo_lay_15 rfl (fun bq2 => False.elim (bq2 rfl)) (fun bq2 => ?_)
        refine j_bipush (v := (-102)) d_Mo_lay_18 (by decide) ?_
        refine j_iret d_Mo_lay_20 rfl ?_
        exact q_i1 (hF _ r_ey.rf) rfl
      · by_cases hR : Z.2.1.1.1 = 0
        · have hs : s_lay Z x = -103 := by simp [s_lay, ix1, v0, vv, hR]
          rw [hs] at hF
          refine r_C_of (by decide +kernel) (Nat.le_of_ble_eq_true rfl) ?_
          refine j_ls (ls' := [(0, _), (1, _)]) rfl ?_
          refine j_iload_n d_Mo_lay_0 rfl rfl ?_
          refine j_if_eq (tgt := 21) d_Mo_lay_1 rfl (fun bq1 => False.elim (absurd ((xeq (n := 0) (by decide)).mp bq1) (by omega))) (fun bq1 => ?_)
          refine j_iload_n d_Mo_lay_4 rfl rfl ?_
          refine j_i2l d_Mo_lay_5 ?_
          refine j_ldc2 d_Mo_lay_6 k_Mo_230 ?_
          refine j_ldc2 d_Mo_lay_9 k_Mo_248 ?_
          refine q_i s_Mo_lay_12 rfl (Nat.le_of_ble_eq_true rfl) (Nat.le_of_ble_eq_true rfl) ?_
          refine c_inY 10 15 rfl rfl (by omega) ?_
          refine j_if_ne (tgt := 21) d_Mo_lay_15 rfl (fun bq2 => ?_) (fun bq2 => False.elim (absurd bq2 (by decide)))
          refine j_aload_n d_Mo_lay_21 rfl rfl ?_
          refine q_i (s_Mo_lay_22 rfl (by decide)) rfl (Nat.le_of_ble_eq_true rfl) (Nat.le_of_ble_eq_true rfl) ?_
          refine c_Mo_lacksY mN od hR ?_
          refine j_if_eq (tgt := 33) d_Mo_lay_25 rfl (fun bq3 => False.elim (absurd bq3 (by decide))) (fun bq3 => ?_)
          refine j_bipush (v := (-103)) d_Mo_lay_28 (by decide) ?_
          refine j_goto (tgt := 38) d_Mo_lay_30 rfl ?_
          refine j_iret d_Mo_lay_38 rfl ?_
          exact q_i1 (hF _ r_ey.rf) rfl
        · have hs : s_lay Z x = if v - 10 < a_hm Z.2.1.2.2.1 6 then nI ((a_lyy Z.2.1.2.2.1).2.getD (v - 10) 0) else -1 := by simp [s_lay, ix1, v0, vv, hR, a_lay1]
          rw [hs] at hF
          refine r_C_of (by decide +kernel) (Nat.le_of_ble_eq_true rfl) ?_
          refine j_ls (ls' := [(0, _), (1, _)]) rfl ?_
          refine j_iload_n d_Mo_lay_0 rfl rfl ?_
          refine j_if_eq (tgt := 21) d_Mo_lay_1 rfl (fun bq1 => False.elim (absurd ((xeq (n := 0) (by decide)).mp bq1) (by omega))) (fun bq1 => ?_)
          refine j_iload_n d_Mo_lay_4 rfl rfl ?_
          refine j_i2l d_Mo_lay_5 ?_
          refine j_ldc2 d_Mo_lay_6 k_Mo_230 ?_
          refine j_ldc2 d_Mo_lay_9 k_Mo_248 ?_
          refine q_i s_Mo_lay_12 rfl (Nat.le_of_ble_eq_true rfl) (Nat.le_of_ble_eq_true rfl) ?_
          refine c_inY 10 15 rfl rfl (by omega) ?_
          refine j_if_ne (tgt := 21) d_Mo_lay_15 rfl (fun bq2 => ?_) (fun bq2 => False.elim (absurd bq2 (by decide)))
          refine j_aload_n d_Mo_lay_21 rfl rfl ?_
          refine q_i (s_Mo_lay_22 rfl (by decide)) rfl (Nat.le_of_ble_eq_true rfl) (Nat.le_of_ble_eq_true rfl) ?_
          refine c_Mo_lacksN mN od hR ?_
          refine j_if_eq (tgt := 33) d_Mo_lay_25 rfl (fun bq3 => ?_) (fun bq3 => False.elim (bq3 rfl))
          refine j_aload_n d_Mo_lay_33 rfl rfl ?_
          refine j_iload_n d_Mo_lay_34 rfl rfl ?_
          refine q_i (s_Mo_lay_35 rfl (by decide)) rfl (Nat.le_of_ble_eq_true rfl) (Nat.le_of_ble_eq_true rfl) ?_
          refine c_Mo_layOf mW ow (t := v - 10) (by omega) (by rw [e1]; congr 1; omega) (fun h1 y1 => ?_)
          refine j_iret d_Mo_lay_38 rfl ?_
          exact q_i1 (hF _ (y1.mono (by decide) (by decide))) rfl
