/-! ===== the model's least: the least of the last row, the first order that ends so ===== -/
theorem a_fd_first {c : List Nat → Nat} : ∀ {L : List (List Nat)} {b : Nat × List Nat}, (a_fd c b L).1 < b.1 → ∃ (k : Nat) (x : List Nat), L[k]? = some x ∧ a_fd c b L = (c x, x) ∧ ∀ (j : Nat) (y : List Nat), j < k → L[j]? = some y → c x < c y
  | [], b, h => absurd h (Nat.lt_irrefl _)
  | y :: L, b, h => by
    have e0 : a_fd c b (y :: L) = a_fd c (a_bf c b y) L := rfl
    rw [e0] at h ⊢
    by_cases h1 : c y < b.1
    · have e1 : a_bf c b y = (c y, y) := if_pos h1
      rw [e1] at h ⊢
      by_cases h2 : (a_fd c (c y, y) L).1 < c y
      · obtain ⟨k, x, g1, g2, g3⟩ := a_fd_first (L := L) (b := (c y, y)) h2
        refine ⟨k + 1, x, by simpa using g1, g2, fun j w hj hw => ?_⟩
        cases j with
        | zero =>
          have hw : some y = some w := by simpa using hw
          injection hw with hw
          rw [← hw]
          rw [g2] at h2
          exact h2
        | succ j => exact g3 j w (by omega) (by simpa using hw)
      · have e2 : a_fd c (c y, y) L = (c y, y) := a_fd_id (fun x hx => Nat.le_trans (Nat.le_of_not_lt h2) (a_fd_le hx))
        exact ⟨0, y, rfl, e2, fun j w hj _ => absurd hj (Nat.not_lt_zero j)⟩
    · have e1 : a_bf c b y = b := if_neg h1
      rw [e1] at h ⊢
      obtain ⟨k, x, g1, g2, g3⟩ := a_fd_first (L := L) (b := b) h
      refine ⟨k + 1, x, by simpa using g1, g2, fun j w hj hw => ?_⟩
      cases j with
      | zero =>
        have hw : some y = some w := by simpa using hw
        injection hw with hw
        rw [← hw]
        rw [g2] at h
        exact Nat.lt_of_lt_of_le h (Nat.le_of_not_lt h1)
      | succ j => exact g3 j w (by omega) (by simpa using hw)
theorem a_et_bd {D : a_D} {K : a_K} (ho : a_dok D) (hk : a_kok D K) (ht : K.1 ≤ 100000) {y : List Nat} (hy : y ∈ a_pc K.2.2.2.1 K.2.2.2.1 0 []) : a_et D K y < 1000000 := by
  have h1 := (m_rv_bd ho hk ht (m_pc_vd K.2.2.2.1 0 [] y rfl trivial hy).1).1
  rw [m_rv_ef, List.reverse_reverse] at h1
  exact h1
theorem a_lst_at {D : a_D} {K : a_K} (ho : a_dok D) (hk : a_kok D K) (ht : K.1 ≤ 100000) : ∃ (k : Nat) (x : List Nat), k < a_fc K.2.2.2.1 ∧ (a_pc K.2.2.2.1 K.2.2.2.1 0 [])[k]? = some x ∧ (a_fd (a_et D K) (2147483647, []) (a_pc K.2.2.2.1 K.2.2.2.1 0 [])) = (a_et D K x, x) ∧ ∀ (j : Nat) (y : List Nat), j < k → (a_pc K.2.2.2.1 K.2.2.2.1 0 [])[j]? = some y → a_et D K x < a_et D K y := by
  obtain ⟨k, x, g1, g2, g3⟩ := a_fd_first (c := a_et D K) (b := (2147483647, [])) (L := a_pc K.2.2.2.1 K.2.2.2.1 0 []) (by have := a_lst_lt ho hk ht; show _ < 2147483647; omega)
  refine ⟨k, x, ?_, g1, g2, g3⟩
  rw [← m_len hk.2.2.1]
  exact (List.getElem?_eq_some_iff.mp g1).1
/-- the least of the last row is the least end -/
theorem m_best {D : a_D} {K : a_K} {h : r_HI} (ho : a_dok D) (hk : a_kok D K) (ht : K.1 ≤ 100000) (hn0 : 0 < K.2.2.2.1) (hs : m_sn D K h) (hc : m_cp D K (2 ^ K.2.2.2.1) 0 h) {le : Nat} (h3 : le ≤ 1000000) (h1 : ∀ j u, j < K.2.2.2.1 → u < 2 ^ 31 → h 53 (7 * (2 ^ K.2.2.2.1 - 1) + j) = nI u → le ≤ u) (h2 : le = 1000000 ∨ ∃ j, j < K.2.2.2.1 ∧ h 53 (7 * (2 ^ K.2.2.2.1 - 1) + j) = nI le) : le = (a_fd (a_et D K) (2147483647, []) (a_pc K.2.2.2.1 K.2.2.2.1 0 [])).1 := by
  have hn7 := hk.2.2.1
  have h27 : 2 ^ K.2.2.2.1 ≤ 2 ^ 7 := Nat.pow_le_pow_right (by decide) hn7
  have h20 := Nat.two_pow_pos K.2.2.2.1
  obtain ⟨k, x, -, g1, g2, g3⟩ := a_lst_at ho hk ht
  have hx := List.mem_of_getElem? g1
  have hv := m_pc_vd K.2.2.2.1 0 [] x rfl trivial hx
  have hb := m_vd_bs hn7 hv.1
  have hlen : x.reverse.length = K.2.2.2.1 := by rw [List.length_reverse, hv.2]; exact Nat.zero_add _
  have hf : m_bs x.reverse = 2 ^ K.2.2.2.1 - 1 := (m_full hn7 hb.1).mp (by rw [hb.2, hlen])
  have hr : (m_rv D K x.reverse).1 = a_et D K x := by rw [m_rv_ef, List.reverse_reverse]; rfl
  have hbd := (m_rv_bd ho hk ht hv.1).1
  have hv1 := hv.1
  rw [g2]
  show le = a_et D K x
  have hle : le ≤ a_et D K x := by
    revert hlen hf hr hbd hv1
    cases x.reverse with
    | nil =>
      intro hlen hf hr hbd hv1
      have hlen : 0 = K.2.2.2.1 := hlen
      omega
    | cons j y =>
      intro hlen hf hr hbd hv1
      have hby := (m_vd_bs hn7 hv1.2.2).1
      obtain ⟨u, u1, u2⟩ := hc j y hv1 (Or.inr (Or.inl hby))
      rw [hf] at u1
      have := h1 j u hv1.1 (by omega) u1
      omega
  have hge : a_et D K x ≤ le := by
    rw [hr] at hbd
    rcases h2 with h2 | ⟨j, hj, h2⟩
    · omega
    · obtain ⟨u, u1, u2⟩ := hs (2 ^ K.2.2.2.1 - 1) j (by omega) (by omega)
      rcases u2 with u2 | ⟨y, y1, y2, y3⟩
      · have e : le = u := (nI_eq (by omega) (by omega)).mp (h2.symm.trans u1)
        omega
      · have z0 := (m_rv_bd ho hk ht y1).1
        have e : le = u := (nI_eq (by omega) (by omega)).mp (h2.symm.trans u1)
        have z1 := m_vd_bs hn7 y1
        have z2 : (j :: y).length = K.2.2.2.1 := z1.2.symm.trans ((m_full hn7 z1.1).mpr y2)
        have z3 := m_vd_pc K.2.2.2.1 [] (j :: y).reverse (by rw [List.length_reverse]; exact z2) (by rw [List.nil_append, List.reverse_reverse]; exact y1)
        have z4 := a_fd_le (c := a_et D K) (b := (2147483647, [])) (show (j :: y).reverse ∈ a_pc K.2.2.2.1 K.2.2.2.1 0 [] from z3)
        rw [g2] at z4
        have z5 : (m_rv D K (j :: y)).1 = a_et D K (j :: y).reverse := by rw [m_rv_ef]; rfl
        have z4 : a_et D K x ≤ a_et D K (j :: y).reverse := z4
        omega
  omega
set_option maxRecDepth 100000 in
set_option maxHeartbeats 4000000 in
theorem l_least1 {G : r_X} {d : Nat} {h : r_HI} {p q : Nat} {z : r_HL} {F : Int32 → r_HI → r_HR → r_HL → Prop} {D : a_D} (ho : a_dok D) {K : a_K} (hJ : p_J h K) (hk : a_kok D K) (ht : K.1 ≤ 100000) (hn0 : 0 < K.2.2.2.1) (hsn : m_sn D K h) (hcp : m_cp D K (2 ^ K.2.2.2.1) 0 h) {a1 : Int32} (kk : (∀ v, r_TM G m_Mo_leastOf (d + 3) 61 61 (fun v h' g' z' => ∃ r, v = some (.int r) ∧ F r h' g' z') 76 [(0, .ref (G.2.1 + 47)), (1, .int a1), (2, .int (nI (a_fd (a_et D K) (2147483647, []) (a_pc K.2.2.2.1 K.2.2.2.1 0 [])).1)), (3, .int v)] [] 61 h (r_gp p q) z)) : ∀ (e i le : Nat) (v : Int32), e + i = K.2.2.2.1 → v = nI i → le ≤ 1000000 → (∀ j u, j < i → u < 2 ^ 31 → h 53 (7 * (2 ^ K.2.2.2.1 - 1) + j) = nI u → le ≤ u) → (le = 1000000 ∨ ∃ j, j < K.2.2.2.1 ∧ h 53 (7 * (2 ^ K.2.2.2.1 - 1) + j) = nI le) → r_TM G m_Mo_leastOf (d + 3) 61 61 (fun v h' g' z' => ∃ r, v = some (.int r) ∧ F r h' g' z') 29 [(0, .ref (G.2.1 + 47)), (1, .int a1), (2, .int (nI le)), (3, .int v)] [] 61 h (r_gp p q) z := by
  have hn7 := hk.2.2.1
  have h27 : 2 ^ K.2.2.2.1 ≤ 2 ^ 7 := Nat.pow_le_pow_right (by decide) hn7
  have h20 := Nat.two_pow_pos K.2.2.2.1
  have hp1 : nI (2 ^ K.2.2.2.1) - 1 = nI (2 ^ K.2.2.2.1 - 1) := by
    obtain ⟨w, hw⟩ : ∃ w, 2 ^ K.2.2.2.1 = w + 1 := ⟨2 ^ K.2.2.2.1 - 1, by omega⟩
    rw [hw]
    exact nI_pred w
  intro e
  induction e with
  | zero =>
    intro i le v he hv hle i1 i2
    subst hv
    refine j_iload_n d_Mo_leastOf_29 rfl rfl ?_
    refine j_aload_n d_Mo_leastOf_30 rfl rfl ?_
    refine j_geti d_Mo_leastOf_31 f_Mo_114 rfl rfl (by decide) ?_
    refine j_icmp_ge (tgt := 76) d_Mo_leastOf_34 rfl (fun bq1 => ?_) (fun bq1 => False.elim (bq1 (by rw [hJ.2.2.2.1]; exact nI_le (by omega) (by omega))))
    have e0 : i = K.2.2.2.1 := by omega
    subst e0
    have e9 := m_best ho hk ht hn0 hsn hcp hle i1 i2
    have kk1 := kk (nI K.2.2.2.1)
    rw [← e9] at kk1
    exact kk1
  | succ e ih =>
    intro i le v he hv hle i1 i2
    subst hv
    obtain ⟨v0, g0, d0⟩ := hsn (2 ^ K.2.2.2.1 - 1) i (by omega) (by omega)
    have hv0 : v0 ≤ 1000000 := by
      rcases d0 with d0 | ⟨y2, w1, w2, w3⟩
      · omega
      · have := (m_rv_bd ho hk ht w1).1
        omega
    by_cases c : v0 < le
    · refine j_iload_n d_Mo_leastOf_29 rfl rfl ?_
      refine j_aload_n d_Mo_leastOf_30 rfl rfl ?_
      refine j_geti d_Mo_leastOf_31 f_Mo_114 rfl rfl (by decide) ?_
      refine j_icmp_ge (tgt := 76) d_Mo_leastOf_34 rfl (fun bq1 => False.elim (nI_ge (by omega) (by omega) (hJ.2.2.2.1 ▸ bq1))) (fun bq1 => ?_)
      refine j_aload_n d_Mo_leastOf_37 rfl rfl ?_
      refine j_getr d_Mo_leastOf_38 f_Mo_25 rfl rfl (by decide) rfl ?_
      refine j_bipush (v := 7) d_Mo_leastOf_41 (by decide) ?_
      refine j_iconst (v := 1) d_Mo_leastOf_43 rfl ?_
      refine j_aload_n d_Mo_leastOf_44 rfl rfl ?_
      refine j_geti d_Mo_leastOf_45 f_Mo_114 rfl rfl (by decide) ?_
      refine j_ishl d_Mo_leastOf_48 ?_
      refine j_iconst (v := 1) d_Mo_leastOf_49 rfl ?_
      refine j_isub d_Mo_leastOf_50 ?_
      refine j_imul d_Mo_leastOf_51 ?_
      refine j_iload_n d_Mo_leastOf_52 rfl rfl ?_
      refine j_iadd d_Mo_leastOf_53 ?_
      refine j_iav d_Mo_leastOf_54 rfl (by decide) (j := 7 * (2 ^ K.2.2.2.1 - 1) + i) (by rw [hJ.2.2.2.1, nI_bit (by omega), hp1, i7]) (by omega) (by decide) (g0) ?_
      refine j_istore (ls' := [(4, _), (0, _), (1, _), (2, _), (3, _)]) d_Mo_leastOf_55 (by decide) rfl ?_
      refine j_iload d_Mo_leastOf_57 rfl ?_
      refine j_iload_n d_Mo_leastOf_59 rfl rfl ?_
      refine j_icmp_ge (tgt := 68) d_Mo_leastOf_60 rfl (fun bq2 => False.elim (nI_ge c (by omega) bq2)) (fun bq2 => ?_)
      refine j_iload d_Mo_leastOf_63 rfl ?_
      refine j_goto (tgt := 69) d_Mo_leastOf_65 rfl ?_
      refine j_istore_n (ls' := [(2, _), (4, _), (0, _), (1, _), (3, _)]) d_Mo_leastOf_69 rfl (by decide) rfl ?_
      refine j_iinc (ls' := [(3, _), (2, _), (4, _), (0, _), (1, _)]) d_Mo_leastOf_70 rfl (by decide) rfl ?_
      refine j_goto (tgt := 29) d_Mo_leastOf_73 rfl ?_
      refine j_pick [3, 4, 1, 0] (ls' := [(0, _), (1, _), (2, _), (3, _)]) rfl ?_
      refine ih (i + 1) v0 _ (by omega) (nI_inc i) (by omega) (fun j u hj hu q => ?_) (Or.inr ⟨i, by omega, g0⟩)
      by_cases e : j = i
      · subst e
        have := (nI_eq (by omega) hu).mp (g0.symm.trans q)
        omega
      · have := i1 j u (by omega) hu q
        omega
    · refine j_iload_n d_Mo_leastOf_29 rfl rfl ?_
      refine j_aload_n d_Mo_leastOf_30 rfl rfl ?_
      refine j_geti d_Mo_leastOf_31 f_Mo_114 rfl rfl (by decide) ?_
      refine j_icmp_ge (tgt := 76) d_Mo_leastOf_34 rfl (fun bq1 => False.elim (nI_ge (by omega) (by omega) (hJ.2.2.2.1 ▸ bq1))) (fun bq1 => ?_)
      refine j_aload_n d_Mo_leastOf_37 rfl rfl ?_
      refine j_getr d_Mo_leastOf_38 f_Mo_25 rfl rfl (by decide) rfl ?_
      refine j_bipush (v := 7) d_Mo_leastOf_41 (by decide) ?_
      refine j_iconst (v := 1) d_Mo_leastOf_43 rfl ?_
      refine j_aload_n d_Mo_leastOf_44 rfl rfl ?_
      refine j_geti d_Mo_leastOf_45 f_Mo_114 rfl rfl (by decide) ?_
      refine j_ishl d_Mo_leastOf_48 ?_
      refine j_iconst (v := 1) d_Mo_leastOf_49 rfl ?_
      refine j_isub d_Mo_leastOf_50 ?_
      refine j_imul d_Mo_leastOf_51 ?_
      refine j_iload_n d_Mo_leastOf_52 rfl rfl ?_
      refine j_iadd d_Mo_leastOf_53 ?_
      refine j_iav d_Mo_leastOf_54 rfl (by decide) (j := 7 * (2 ^ K.2.2.2.1 - 1) + i) (by rw [hJ.2.2.2.1, nI_bit (by omega), hp1, i7]) (by omega) (by decide) (g0) ?_
      refine j_istore (ls' := [(4, _), (0, _), (1, _), (2, _), (3, _)]) d_Mo_leastOf_55 (by decide) rfl ?_
      refine j_iload d_Mo_leastOf_57 rfl ?_
      refine j_iload_n d_Mo_leastOf_59 rfl rfl ?_
      refine j_icmp_ge (tgt := 68) d_Mo_leastOf_60 rfl (fun bq2 => ?_) (fun bq2 => False.elim (bq2 (nI_le (by omega) (by omega))))
      refine j_iload_n d_Mo_leastOf_68 rfl rfl ?_
      refine j_istore_n (ls' := [(2, _), (4, _), (0, _), (1, _), (3, _)]) d_Mo_leastOf_69 rfl (by decide) rfl ?_
      refine j_iinc (ls' := [(3, _), (2, _), (4, _), (0, _), (1, _)]) d_Mo_leastOf_70 rfl (by decide) rfl ?_
      refine j_goto (tgt := 29) d_Mo_leastOf_73 rfl ?_
      refine j_pick [3, 4, 1, 0] (ls' := [(0, _), (1, _), (2, _), (3, _)]) rfl ?_
      refine ih (i + 1) le _ (by omega) (nI_inc i) hle (fun j u hj hu q => ?_) i2
      by_cases e : j = i
      · subst e
        have := (nI_eq (by omega) hu).mp (g0.symm.trans q)
        omega
      · exact i1 j u (by omega) hu q
set_option maxRecDepth 100000 in
set_option maxHeartbeats 4000000 in
theorem l_least2 {G : r_X} {d : Nat} {h : r_HI} {p q : Nat} {z : r_HL} {F : Int32 → r_HI → r_HR → r_HL → Prop} {D : a_D} (hN : p_N h D) (ho : a_dok D) {K : a_K} (hJ : p_J h K) (hk : a_kok D K) (ht : K.1 ≤ 100000) {k : Nat} {x : List Nat} (hkf : k < a_fc K.2.2.2.1) (g1 : (a_pc K.2.2.2.1 K.2.2.2.1 0 [])[k]? = some x) (g3 : ∀ (j : Nat) (y : List Nat), j < k → (a_pc K.2.2.2.1 K.2.2.2.1 0 [])[j]? = some y → a_et D K x < a_et D K y) {a1 : Int32} (kk : (∀ h' v, r_ey [54] [] h h' → p_L h' 54 x → r_TM G m_Mo_leastOf (d + 3) 61 61 (fun v h' g' z' => ∃ r, v = some (.int r) ∧ F r h' g' z') 116 [(0, .ref (G.2.1 + 47)), (1, .int a1), (2, .int (nI (a_et D K x))), (3, .int v)] [] 61 h' (r_gp p q) z)) : ∀ (e no : Nat) (v : Int32) (h1 : r_HI), e + no = k → v = nI no → r_ey [54] [] h h1 → (∀ y, (a_pc K.2.2.2.1 K.2.2.2.1 0 [])[no]? = some y → p_L h1 54 y) → r_TM G m_Mo_leastOf (d + 3) 61 61 (fun v h' g' z' => ∃ r, v = some (.int r) ∧ F r h' g' z') 93 [(0, .ref (G.2.1 + 47)), (1, .int a1), (2, .int (nI (a_et D K x))), (3, .int v)] [] 61 h1 (r_gp p q) z := by
  have hn7 := hk.2.2.1
  have hfc := a_fc_le hn7
  have hxb := a_et_bd ho hk ht (List.mem_of_getElem? g1)
  intro e
  induction e with
  | zero =>
    intro no v h1 he hv hy hp
    subst hv
    have hJ1 : p_J h1 K := hJ.ey hy (by decide) (by decide) (by decide) (by decide) (by decide)
    have hN1 : p_N h1 D := hN.ey hy (by decide) (by decide) (by decide) (by decide) (by decide)
    obtain ⟨y, y1, y2, y3, y4⟩ := m_lt_at (n := K.2.2.2.1) (no := no) hn7 (by omega)
    have hyb := a_et_bd ho hk ht (List.mem_of_getElem? y1)
    refine j_aload_n d_Mo_leastOf_93 rfl rfl ?_
    refine q_i (s_Mo_leastOf_94 rfl (by decide)) rfl (Nat.le_of_ble_eq_true rfl) (Nat.le_of_ble_eq_true rfl) ?_
    refine c_Mo_endOfTried hN1 ho hJ1 hk ht (hp y y1) y3 (fun j hj => y4 j (by omega)) ?_
    have e0 : no = k := by omega
    subst e0
    have e1 : x = y := Option.some.inj (g1.symm.trans y1)
    subst e1
    refine j_iload_n d_Mo_leastOf_97 rfl rfl ?_
    refine j_icmp_eq (tgt := 116) d_Mo_leastOf_98 rfl (fun bq1 => ?_) (fun bq1 => False.elim (bq1 rfl))
    exact kk _ _ hy (hp _ y1)
  | succ e ih =>
    intro no v h1 he hv hy hp
    subst hv
    have hJ1 : p_J h1 K := hJ.ey hy (by decide) (by decide) (by decide) (by decide) (by decide)
    have hN1 : p_N h1 D := hN.ey hy (by decide) (by decide) (by decide) (by decide) (by decide)
    obtain ⟨y, y1, y2, y3, y4⟩ := m_lt_at (n := K.2.2.2.1) (no := no) hn7 (by omega)
    have hyb := a_et_bd ho hk ht (List.mem_of_getElem? y1)
    obtain ⟨x0, x1, x2, x3, x4⟩ := m_lt_at (n := K.2.2.2.1) (no := no + 1) hn7 (by omega)
    refine j_aload_n d_Mo_leastOf_93 rfl rfl ?_
    refine q_i (s_Mo_leastOf_94 rfl (by decide)) rfl (Nat.le_of_ble_eq_true rfl) (Nat.le_of_ble_eq_true rfl) ?_
    refine c_Mo_endOfTried hN1 ho hJ1 hk ht (hp y y1) y3 (fun j hj => y4 j (by omega)) ?_
    refine j_iload_n d_Mo_leastOf_97 rfl rfl ?_
    refine j_icmp_eq (tgt := 116) d_Mo_leastOf_98 rfl (fun bq1 => False.elim (absurd ((nI_eq (by omega) (by omega)).mp bq1) (by have := g3 no y (by omega) y1; omega))) (fun bq1 => ?_)
    refine j_iinc (ls' := [(3, _), (0, _), (1, _), (2, _)]) d_Mo_leastOf_101 rfl (by decide) rfl ?_
    refine j_aload_n d_Mo_leastOf_104 rfl rfl ?_
    refine j_iload_n d_Mo_leastOf_105 rfl rfl ?_
    refine j_aload_n d_Mo_leastOf_106 rfl rfl ?_
    refine j_geti d_Mo_leastOf_107 f_Mo_114 rfl rfl (by decide) ?_
    refine q_v (s_Mo_leastOf_110 rfl (by decide)) rfl (Nat.le_of_ble_eq_true rfl) (Nat.le_of_ble_eq_true rfl) ?_
    refine c_Mo_layTried (n := K.2.2.2.1) (no := no + 1) hn7 (by omega) x2 (nI_inc no) hJ1.2.2.2.1 (fun h2 v2 l2 => ?_)
    refine j_goto (tgt := 93) d_Mo_leastOf_113 rfl ?_
    refine j_pick [1, 2, 3, 0] (ls' := [(0, _), (1, _), (2, _), (3, _)]) rfl ?_
    exact ih (no + 1) _ h2 (by omega) (nI_inc no) (hy.tr v2 (by decide) (by decide)) (fun y' hy' => by rw [← Option.some.inj (x1.symm.trans hy')]; exact l2)
set_option maxRecDepth 100000 in
set_option maxHeartbeats 4000000 in
theorem c_Mo_leastOf0 {G : r_X} {d : Nat} {h : r_HI} {p q : Nat} {z : r_HL} {F : Int32 → r_HI → r_HR → r_HL → Prop} {D : a_D} (hN : p_N h D) (ho : a_dok D) {K : a_K} (hJ : p_J h K) (hk : a_kok D K) (ht : K.1 ≤ 100000) {a1 : Int32} (e1 : a1 = 0) (hF : ∀ h', r_ey [53, 54] [] h h' → F (nI (a_fd (a_et D K) (2147483647, []) (a_pc K.2.2.2.1 K.2.2.2.1 0 [])).1) h' (r_gp p q) z) : r_Ci G m_Mo_leastOf (d + 3) 61 [.ref (G.2.1 + 47), .int a1] 61 h (r_gp p q) z F := by
  have hn7 := hk.2.2.1
  have hfc := a_fc_le hn7
  by_cases hn0 : K.2.2.2.1 = 0
  · have e9 : (a_fd (a_et D K) (2147483647, []) (a_pc K.2.2.2.1 K.2.2.2.1 0 [])).1 = K.1 := by
      rw [hn0]
      show (a_bf (a_et D K) (2147483647, []) []).1 = K.1
      rw [a_bf, if_pos (show a_et D K [] < 2147483647 from Nat.lt_of_le_of_lt (show a_et D K [] ≤ 100000 from ht) (by decide))]
      rfl
    refine r_C_of (by decide +kernel) (Nat.le_of_ble_eq_true rfl) ?_
    refine j_ls (ls' := [(0, _), (1, _)]) rfl ?_
    refine j_aload_n d_Mo_leastOf_0 rfl rfl ?_
    refine j_geti d_Mo_leastOf_1 f_Mo_114 rfl rfl (by decide) ?_
    refine j_if_ne (tgt := 20) d_Mo_leastOf_4 rfl (fun bq1 => False.elim (bq1 (by rw [hJ.2.2.2.1, hn0]; rfl))) (fun bq1 => ?_)
    refine j_iload_n d_Mo_leastOf_7 rfl rfl ?_
    refine j_if_ne (tgt := 18) d_Mo_leastOf_8 rfl (fun bq2 => False.elim (bq2 e1)) (fun bq2 => ?_)
    refine j_aload_n d_Mo_leastOf_11 rfl rfl ?_
    refine j_geti d_Mo_leastOf_12 f_Mo_105 rfl rfl (by decide) ?_
    refine j_goto (tgt := 19) d_Mo_leastOf_15 rfl ?_
    refine j_iret d_Mo_leastOf_19 rfl ?_
    exact q_i1 (hF _ r_ey.rf) (by rw [e9]; exact hJ.1)
  · refine r_C_of (by decide +kernel) (Nat.le_of_ble_eq_true rfl) ?_
    refine j_ls (ls' := [(0, _), (1, _)]) rfl ?_
    refine j_aload_n d_Mo_leastOf_0 rfl rfl ?_
    refine j_geti d_Mo_leastOf_1 f_Mo_114 rfl rfl (by decide) ?_
    refine j_if_ne (tgt := 20) d_Mo_leastOf_4 rfl (fun bq1 => ?_) (fun bq1 => False.elim (nI_ne0 (n := K.2.2.2.1) (by omega) (by omega) (hJ.2.2.2.1 ▸ bq1)))
    refine j_aload_n d_Mo_leastOf_20 rfl rfl ?_
    refine q_v (s_Mo_leastOf_21 rfl (by decide)) rfl (Nat.le_of_ble_eq_true rfl) (Nat.le_of_ble_eq_true rfl) ?_
    refine c_Mo_laySoonest hN ho hJ hk ht (fun h1 y1 s1 c1 => ?_)
    refine j_ldc d_Mo_leastOf_24 k_Mo_216 ?_
    refine j_istore_n (ls' := [(2, _), (0, _), (1, _)]) d_Mo_leastOf_26 rfl (by decide) rfl ?_
    refine j_iconst (v := 0) d_Mo_leastOf_27 rfl ?_
    refine j_istore_n (ls' := [(3, _), (2, _), (0, _), (1, _)]) d_Mo_leastOf_28 rfl (by decide) rfl ?_
    refine j_pick [2, 3, 1, 0] (ls' := [(0, _), (1, _), (2, _), (3, _)]) rfl ?_
    have hJ1 : p_J h1 K := hJ.ey y1 (by decide) (by decide) (by decide) (by decide) (by decide)
    have hN1 : p_N h1 D := hN.ey y1 (by decide) (by decide) (by decide) (by decide) (by decide)
    refine l_least1 ho hJ1 hk ht (by omega) s1 c1 (fun v1 => ?_) K.2.2.2.1 0 1000000 _ (by omega) rfl (Nat.le_refl _) (fun j u hj => absurd hj (Nat.not_lt_zero j)) (Or.inl rfl)
    refine j_iload_n d_Mo_leastOf_76 rfl rfl ?_
    refine j_if_ne (tgt := 82) d_Mo_leastOf_77 rfl (fun bq1 => False.elim (bq1 e1)) (fun bq1 => ?_)
    refine j_iload_n d_Mo_leastOf_80 rfl rfl ?_
    refine j_iret d_Mo_leastOf_81 rfl ?_
    exact q_i1 (hF _ (y1.mono (by decide) (by decide))) rfl
set_option maxRecDepth 100000 in
set_option maxHeartbeats 4000000 in
theorem c_Mo_leastOf {G : r_X} {d : Nat} {h : r_HI} {p q : Nat} {z : r_HL} {F : Int32 → r_HI → r_HR → r_HL → Prop} {D : a_D} (hN : p_N h D) (ho : a_dok D) {K : a_K} (hJ : p_J h K) (hk : a_kok D K) (ht : K.1 ≤ 100000) {t : Nat} {a1 : Int32} (ht2 : t < 7) (e1 : a1 = nI (10 + t)) (hF : ∀ h', r_ey [53, 54] [] h h' → F (if t < K.2.2.2.1 then nI ((a_fd (a_et D K) (2147483647, []) (a_pc K.2.2.2.1 K.2.2.2.1 0 [])).2.getD t 0) else -1) h' (r_gp p q) z) : r_Ci G m_Mo_leastOf (d + 3) 61 [.ref (G.2.1 + 47), .int a1] 61 h (r_gp p q) z F := by
  have hn7 := hk.2.2.1
  have hfc := a_fc_le hn7
  have e10 : a1 - 10 = nI t := by rw [e1]; exact nI_10 t
  by_cases hn0 : K.2.2.2.1 = 0
  · rw [if_neg (by omega)] at hF
    refine r_C_of (by decide +kernel) (Nat.le_of_ble_eq_true rfl) ?_
    refine j_ls (ls' := [(0, _), (1, _)]) rfl ?_
    refine j_aload_n d_Mo_leastOf_0 rfl rfl ?_
    refine j_geti d_Mo_leastOf_1 f_Mo_114 rfl rfl (by decide) ?_
    refine j_if_ne (tgt := 20) d_Mo_leastOf_4 rfl (fun bq1 => False.elim (bq1 (by rw [hJ.2.2.2.1, hn0]; rfl))) (fun bq1 => ?_)
    refine j_iload_n d_Mo_leastOf_7 rfl rfl ?_
    refine j_if_ne (tgt := 18) d_Mo_leastOf_8 rfl (fun bq2 => ?_) (fun bq2 => False.elim (absurd ((nI_eq (a := 10 + t) (b := 0) (by omega) (by omega)).mp (e1.symm.trans bq2)) (by omega)))
    refine j_iconst (v := (-1)) d_Mo_leastOf_18 rfl ?_
    refine j_iret d_Mo_leastOf_19 rfl ?_
    exact q_i1 (hF _ r_ey.rf) rfl
  · refine r_C_of (by decide +kernel) (Nat.le_of_ble_eq_true rfl) ?_
    refine j_ls (ls' := [(0, _), (1, _)]) rfl ?_
    refine j_aload_n d_Mo_leastOf_0 rfl rfl ?_
    refine j_geti d_Mo_leastOf_1 f_Mo_114 rfl rfl (by decide) ?_
    refine j_if_ne (tgt := 20) d_Mo_leastOf_4 rfl (fun bq1 => ?_) (fun bq1 => False.elim (nI_ne0 (n := K.2.2.2.1) (by omega) (by omega) (hJ.2.2.2.1 ▸ bq1)))
    refine j_aload_n d_Mo_leastOf_20 rfl rfl ?_
    refine q_v (s_Mo_leastOf_21 rfl (by decide)) rfl (Nat.le_of_ble_eq_true rfl) (Nat.le_of_ble_eq_true rfl) ?_
    refine c_Mo_laySoonest hN ho hJ hk ht (fun h1 y1 s1 c1 => ?_)
    refine j_ldc d_Mo_leastOf_24 k_Mo_216 ?_
    refine j_istore_n (ls' := [(2, _), (0, _), (1, _)]) d_Mo_leastOf_26 rfl (by decide) rfl ?_
    refine j_iconst (v := 0) d_Mo_leastOf_27 rfl ?_
    refine j_istore_n (ls' := [(3, _), (2, _), (0, _), (1, _)]) d_Mo_leastOf_28 rfl (by decide) rfl ?_
    refine j_pick [2, 3, 1, 0] (ls' := [(0, _), (1, _), (2, _), (3, _)]) rfl ?_
    have hJ1 : p_J h1 K := hJ.ey y1 (by decide) (by decide) (by decide) (by decide) (by decide)
    have hN1 : p_N h1 D := hN.ey y1 (by decide) (by decide) (by decide) (by decide) (by decide)
    refine l_least1 ho hJ1 hk ht (by omega) s1 c1 (fun v1 => ?_) K.2.2.2.1 0 1000000 _ (by omega) rfl (Nat.le_refl _) (fun j u hj => absurd hj (Nat.not_lt_zero j)) (Or.inl rfl)
    obtain ⟨k, x, hkf, g1, g2, g3⟩ := a_lst_at ho hk ht
    obtain ⟨x0, x1, x2, x3, x4⟩ := m_lt_at (n := K.2.2.2.1) (no := 0) hn7 (by omega)
    rw [g2]
    refine j_iload_n d_Mo_leastOf_76 rfl rfl ?_
    refine j_if_ne (tgt := 82) d_Mo_leastOf_77 rfl (fun bq1 => ?_) (fun bq1 => False.elim (absurd ((nI_eq (a := 10 + t) (b := 0) (by omega) (by omega)).mp (e1.symm.trans bq1)) (by omega)))
    refine j_iconst (v := 0) d_Mo_leastOf_82 rfl ?_
    refine j_istore_n (ls' := [(3, _), (0, _), (1, _), (2, _)]) d_Mo_leastOf_83 rfl (by decide) rfl ?_
    refine j_aload_n d_Mo_leastOf_84 rfl rfl ?_
    refine j_iconst (v := 0) d_Mo_leastOf_85 rfl ?_
    refine j_aload_n d_Mo_leastOf_86 rfl rfl ?_
    refine j_geti d_Mo_leastOf_87 f_Mo_114 rfl rfl (by decide) ?_
    refine q_v (s_Mo_leastOf_90 rfl (by decide)) rfl (Nat.le_of_ble_eq_true rfl) (Nat.le_of_ble_eq_true rfl) ?_
    refine c_Mo_layTried (n := K.2.2.2.1) (no := 0) hn7 (by omega) x2 rfl hJ1.2.2.2.1 (fun h2 y2 l2 => ?_)
    refine j_pick [1, 2, 3, 0] (ls' := [(0, _), (1, _), (2, _), (3, _)]) rfl ?_
    have hJ2 : p_J h2 K := hJ1.ey y2 (by decide) (by decide) (by decide) (by decide) (by decide)
    have hN2 : p_N h2 D := hN1.ey y2 (by decide) (by decide) (by decide) (by decide) (by decide)
    refine l_least2 hN2 ho hJ2 hk ht hkf g1 g3 (fun h3 v3 y3 l3 => ?_) k 0 _ h2 (by omega) rfl r_ey.rf (fun y hy => by rw [← Option.some.inj (x1.symm.trans hy)]; exact l2)
    have hJ3 : p_J h3 K := hJ2.ey y3 (by decide) (by decide) (by decide) (by decide) (by decide)
    have y9 : r_ey [53, 54] [] h h3 := ((y1.mono (by decide) (by decide)).tr y2 (by decide) (by decide)).tr y3 (by decide) (by decide)
    obtain ⟨z0, z1, z2, z3, z4⟩ := m_lt_at (n := K.2.2.2.1) (no := k) hn7 (by omega)
    have hxl : x.length = K.2.2.2.1 := by rw [Option.some.inj (g1.symm.trans z1)]; exact z3
    rw [g2] at hF
    by_cases c : t < K.2.2.2.1
    · rw [if_pos c] at hF
      refine j_iload_n d_Mo_leastOf_116 rfl rfl ?_
      refine j_bipush (v := 10) d_Mo_leastOf_117 (by decide) ?_
      refine j_isub d_Mo_leastOf_119 ?_
      refine j_aload_n d_Mo_leastOf_120 rfl rfl ?_
      refine j_geti d_Mo_leastOf_121 f_Mo_114 rfl rfl (by decide) ?_
      refine j_icmp_ge (tgt := 139) d_Mo_leastOf_124 rfl (fun bq1 => False.elim (nI_ge (a := t) (b := K.2.2.2.1) c (by omega) (by rw [← e10, ← hJ3.2.2.2.1]; exact bq1))) (fun bq1 => ?_)
      refine j_aload_n d_Mo_leastOf_127 rfl rfl ?_
      refine j_getr d_Mo_leastOf_128 f_Mo_28 rfl rfl (by decide) rfl ?_
      refine j_iload_n d_Mo_leastOf_131 rfl rfl ?_
      refine j_bipush (v := 10) d_Mo_leastOf_132 (by decide) ?_
      refine j_isub d_Mo_leastOf_134 ?_
      refine j_iav d_Mo_leastOf_135 rfl (by decide) (j := t) (e10) (by omega) (by decide) (l3 t (by omega)) ?_
      refine j_goto (tgt := 140) d_Mo_leastOf_136 rfl ?_
      refine j_iret d_Mo_leastOf_140 rfl ?_
      exact q_i1 (hF _ y9) rfl
    · rw [if_neg c] at hF
      refine j_iload_n d_Mo_leastOf_116 rfl rfl ?_
      refine j_bipush (v := 10) d_Mo_leastOf_117 (by decide) ?_
      refine j_isub d_Mo_leastOf_119 ?_
      refine j_aload_n d_Mo_leastOf_120 rfl rfl ?_
      refine j_geti d_Mo_leastOf_121 f_Mo_114 rfl rfl (by decide) ?_
      refine j_icmp_ge (tgt := 139) d_Mo_leastOf_124 rfl (fun bq1 => ?_) (fun bq1 => False.elim (bq1 (by rw [e10, hJ3.2.2.2.1]; exact nI_le (by omega) (by omega))))
      refine j_iconst (v := (-1)) d_Mo_leastOf_139 rfl ?_
      refine j_iret d_Mo_leastOf_140 rfl ?_
      exact q_i1 (hF _ y9) rfl
