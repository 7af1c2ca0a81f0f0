/-! ===== the model's orders ===== -/
def a_fc : Nat → Nat
  | 0 => 1
  | n + 1 => (n + 1) * a_fc n
theorem a_fc_le {n : Nat} (h : n ≤ 7) : 0 < a_fc n ∧ a_fc n ≤ 5040 := (show ∀ n, n < 8 → 0 < a_fc n ∧ a_fc n ≤ 5040 by decide) n (by omega)
def m_fi (met : Nat) : Nat → Nat → Nat → Option Nat
  | 0, _, _ => none
  | f + 1, rank, i => if a_hb met i then m_fi met f rank (i + 1) else if rank = 0 then some i else m_fi met f (rank - 1) (i + 1)
theorem m_fi_some {met : Nat} : ∀ {f rank i j : Nat}, m_fi met f rank i = some j → a_hb met j = false ∧ j < i + f
  | 0, _, _, _, h => by cases h
  | f + 1, rank, i, j, h => by
    unfold m_fi at h
    split at h
    · have := m_fi_some h
      exact ⟨this.1, by omega⟩
    · rename_i hb
      split at h
      · injection h with h
        subst h
        exact ⟨by cases q : a_hb met i with | false => rfl | true => exact absurd q hb, by omega⟩
      · have := m_fi_some h
        exact ⟨this.1, by omega⟩
def m_lt (n : Nat) : Nat → Nat → Nat → Nat → Option (List Nat)
  | 0, _, _, _ => some []
  | m + 1, k, left, met => match m_fi met 7 (left / a_fc (n - 1 - k)) 0 with
    | none => none
    | some i => match m_lt n m (k + 1) (left % a_fc (n - 1 - k)) (met + 2 ^ i) with
      | none => none
      | some L => some (i :: L)
def m_b7 (r : Nat) : Prop := (List.range' (720 * r) 720).map (fun no => m_lt 7 7 0 no 0) = (a_pc 7 6 (2 ^ r) [r]).map some ∧ (a_pc 7 6 (2 ^ r) [r]).all (fun x => x.length == 7 && x.all (fun i => decide (i < 7))) = true
theorem m_b70 : m_b7 0 := by unfold m_b7; decide +kernel
theorem m_b71 : m_b7 1 := by unfold m_b7; decide +kernel
theorem m_b72 : m_b7 2 := by unfold m_b7; decide +kernel
theorem m_b73 : m_b7 3 := by unfold m_b7; decide +kernel
theorem m_b74 : m_b7 4 := by unfold m_b7; decide +kernel
theorem m_b75 : m_b7 5 := by unfold m_b7; decide +kernel
theorem m_b76 : m_b7 6 := by unfold m_b7; decide +kernel
theorem m_pc7 : a_pc 7 7 0 [] = a_pc 7 6 (2 ^ 0) [0] ++ (a_pc 7 6 (2 ^ 1) [1] ++ (a_pc 7 6 (2 ^ 2) [2] ++ (a_pc 7 6 (2 ^ 3) [3] ++ (a_pc 7 6 (2 ^ 4) [4] ++ (a_pc 7 6 (2 ^ 5) [5] ++ a_pc 7 6 (2 ^ 6) [6]))))) := by
  rw [show a_pc 7 7 0 [] = ([0, 1, 2, 3, 4, 5, 6] : List Nat).flatMap (fun r => if a_hb 0 r then [] else a_pc 7 6 (0 + 2 ^ r) ([] ++ [r])) by rw [a_pc]; rfl]
  simp only [List.flatMap_cons, List.flatMap_nil, show a_hb 0 0 = false by decide, show a_hb 0 1 = false by decide, show a_hb 0 2 = false by decide, show a_hb 0 3 = false by decide, show a_hb 0 4 = false by decide, show a_hb 0 5 = false by decide, show a_hb 0 6 = false by decide, List.append_nil, List.nil_append, Nat.zero_add, Bool.false_eq_true, if_false]
theorem m_rg7 : List.range 5040 = List.range' (720 * 0) 720 ++ (List.range' (720 * 1) 720 ++ (List.range' (720 * 2) 720 ++ (List.range' (720 * 3) 720 ++ (List.range' (720 * 4) 720 ++ (List.range' (720 * 5) 720 ++ List.range' (720 * 6) 720))))) := by
  rw [List.range_eq_range']
  rw [List.range'_append_1 (s := 720 * 5) (m := 720) (n := 720), List.range'_append_1 (s := 720 * 4) (m := 720), List.range'_append_1 (s := 720 * 3) (m := 720), List.range'_append_1 (s := 720 * 2) (m := 720), List.range'_append_1 (s := 720 * 1) (m := 720), List.range'_append_1 (s := 720 * 0) (m := 720)]
theorem m_lt_all {n : Nat} (hn : n ≤ 7) : (List.range (a_fc n)).map (fun no => m_lt n n 0 no 0) = (a_pc n n 0 []).map some ∧ (a_pc n n 0 []).all (fun x => x.length == n && x.all (fun i => decide (i < n))) = true := by
  have e : n = 0 ∨ n = 1 ∨ n = 2 ∨ n = 3 ∨ n = 4 ∨ n = 5 ∨ n = 6 ∨ n = 7 := by omega
  rcases e with rfl | rfl | rfl | rfl | rfl | rfl | rfl | rfl
  · decide +kernel
  · decide +kernel
  · decide +kernel
  · decide +kernel
  · decide +kernel
  · decide +kernel
  · decide +kernel
  · rw [show a_fc 7 = 5040 from rfl, m_rg7, m_pc7]
    simp only [List.map_append, List.all_append]
    rw [m_b70.1, m_b71.1, m_b72.1, m_b73.1, m_b74.1, m_b75.1, m_b76.1, m_b70.2, m_b71.2, m_b72.2, m_b73.2, m_b74.2, m_b75.2, m_b76.2]
    exact ⟨rfl, rfl⟩
theorem m_lt_at {n no : Nat} (hn : n ≤ 7) (h : no < a_fc n) : ∃ x, (a_pc n n 0 [])[no]? = some x ∧ m_lt n n 0 no 0 = some x ∧ x.length = n ∧ ∀ j, j < n → x.getD j 0 < n := by
  obtain ⟨h1, h2⟩ := m_lt_all hn
  have h3 := congrArg (fun l => l[no]?) h1
  simp only [List.getElem?_map, List.getElem?_range h, Option.map_some] at h3
  cases hx : (a_pc n n 0 [])[no]? with
  | none =>
    rw [hx] at h3
    cases h3
  | some x =>
    rw [hx] at h3
    injection h3 with h3
    have h4 := List.all_eq_true.mp h2 x (List.mem_of_getElem? hx)
    simp only [Bool.and_eq_true, beq_iff_eq] at h4
    refine ⟨x, rfl, h3, h4.1, fun j hj => ?_⟩
    have h5 := List.all_eq_true.mp h4.2 (x.getD j 0) (by
      rw [List.getD_eq_getElem?_getD, List.getElem?_eq_getElem (by omega)]
      exact List.getElem_mem _)
    exact of_decide_eq_true h5
theorem m_len {n : Nat} (hn : n ≤ 7) : (a_pc n n 0 []).length = a_fc n := by
  have h := congrArg List.length (m_lt_all hn).1
  simpa using h.symm
set_option maxRecDepth 100000 in
set_option maxHeartbeats 4000000 in
theorem l_Mo_factorial {G : r_X} {d : Nat} {h : r_HI} {p q : Nat} {z : r_HL} {F : Int32 → r_HI → r_HR → r_HL → Prop} {n : Nat} (hn : n ≤ 7) (hF : F (nI (a_fc n)) h (r_gp p q) z) : ∀ (e j : Nat) (v : Int32), e + j + 1 = n → v = nI (j + 2) → r_TM G m_Mo_factorial (d) 61 61 (fun v h' g' z' => ∃ r, v = some (.int r) ∧ F r h' g' z') 4 [(0, .int (nI n)), (1, .int (nI (a_fc (j + 1)))), (2, .int v)] [] 61 h (r_gp p q) z := by
  intro e
  induction e with
  | zero =>
    intro j v he hv
    subst hv
    refine j_iload_n d_Mo_factorial_4 rfl rfl ?_
    refine j_iload_n d_Mo_factorial_5 rfl rfl ?_
    refine j_icmp_gt (tgt := 19) d_Mo_factorial_6 rfl (fun bq1 => ?_) (fun bq1 => False.elim (bq1 (nI_lt (by omega) (by omega))))
    refine j_iload_n d_Mo_factorial_19 rfl rfl ?_
    refine j_iret d_Mo_factorial_20 rfl ?_
    exact q_i1 hF (by rw [show j + 1 = n by omega])
  | succ e ih =>
    intro j v he hv
    subst hv
    refine j_iload_n d_Mo_factorial_4 rfl rfl ?_
    refine j_iload_n d_Mo_factorial_5 rfl rfl ?_
    refine j_icmp_gt (tgt := 19) d_Mo_factorial_6 rfl (fun bq1 => False.elim (nI_nlt (a := n) (b := j + 2) (by omega) (by omega) bq1)) (fun bq1 => ?_)
    refine j_iload_n d_Mo_factorial_9 rfl rfl ?_
    refine j_iload_n d_Mo_factorial_10 rfl rfl ?_
    refine j_imul d_Mo_factorial_11 ?_
    rw [pk_mul, Nat.mul_comm]
    refine j_istore_n (ls' := [(1, _), (0, _), (2, _)]) d_Mo_factorial_12 rfl (by decide) rfl ?_
    refine j_iinc (ls' := [(2, _), (1, _), (0, _)]) d_Mo_factorial_13 rfl (by decide) rfl ?_
    refine j_goto (tgt := 4) d_Mo_factorial_16 rfl ?_
    refine j_pick [2, 1, 0] (ls' := [(0, _), (1, _), (2, _)]) rfl ?_
    exact ih (j + 1) _ (by omega) (nI_inc (j + 2))
set_option maxRecDepth 100000 in
set_option maxHeartbeats 4000000 in
theorem c_Mo_factorial {G : r_X} {d : Nat} {h : r_HI} {p q : Nat} {z : r_HL} {F : Int32 → r_HI → r_HR → r_HL → Prop} {n : Nat} {a1 : Int32} (hn : n ≤ 7) (e1 : a1 = nI n) (hF : F (nI (a_fc n)) h (r_gp p q) z) : r_Ci G m_Mo_factorial (d) 61 [.int a1] 61 h (r_gp p q) z F := by
  subst e1
  by_cases e0 : n = 0
  · subst e0
    refine r_C_of (by decide +kernel) (Nat.le_of_ble_eq_true rfl) ?_
    refine j_ls (ls' := [(0, _)]) rfl ?_
    refine j_iconst (v := 1) d_Mo_factorial_0 rfl ?_
    refine j_istore_n (ls' := [(1, _), (0, _)]) d_Mo_factorial_1 rfl (by decide) rfl ?_
    refine j_iconst (v := 2) d_Mo_factorial_2 rfl ?_
    refine j_istore_n (ls' := [(2, _), (1, _), (0, _)]) d_Mo_factorial_3 rfl (by decide) rfl ?_
    refine j_iload_n d_Mo_factorial_4 rfl rfl ?_
    refine j_iload_n d_Mo_factorial_5 rfl rfl ?_
    refine j_icmp_gt (tgt := 19) d_Mo_factorial_6 rfl (fun bq1 => ?_) (fun bq1 => False.elim (bq1 (nI_lt (a := 0) (b := 2) (by decide) (by decide))))
    refine j_iload_n d_Mo_factorial_19 rfl rfl ?_
    refine j_iret d_Mo_factorial_20 rfl ?_
    exact q_i1 hF rfl
  · skip
    refine r_C_of (by decide +kernel) (Nat.le_of_ble_eq_true rfl) ?_
    refine j_ls (ls' := [(0, _)]) rfl ?_
    refine j_iconst (v := 1) d_Mo_factorial_0 rfl ?_
    refine j_istore_n (ls' := [(1, _), (0, _)]) d_Mo_factorial_1 rfl (by decide) rfl ?_
    refine j_iconst (v := 2) d_Mo_factorial_2 rfl ?_
    refine j_istore_n (ls' := [(2, _), (1, _), (0, _)]) d_Mo_factorial_3 rfl (by decide) rfl ?_
    refine j_pick [2, 1, 0] (ls' := [(0, _), (1, _), (2, _)]) rfl ?_
    exact l_Mo_factorial hn hF (n - 1) 0 _ (by omega) rfl
set_option maxRecDepth 100000 in
set_option maxHeartbeats 4000000 in
theorem l_find {G : r_X} {d : Nat} {h : r_HI} {p q : Nat} {z : r_HL} {F : r_HI → r_HR → r_HL → Prop} {a1 c3 c5 c6 : Int32} {n met j : Nat} (hm : met < 2 ^ 31) (kk : ∀ r, r_TM G m_Mo_layTried (d + 1) 61 61 (fun v h' g' z' => v = none ∧ F h' g' z') 82 [(0, .ref (G.2.1 + 47)), (1, .int a1), (2, .int (nI n)), (3, .int c3), (4, .int (nI met)), (5, .int c5), (6, .int c6), (7, .int r), (8, .int (nI j))] [] 61 h (r_gp p q) z) : ∀ (f rank i : Nat) (v : Int32), i + f ≤ 8 → m_fi met f rank i = some j → rank < 2 ^ 31 → v = nI i → r_TM G m_Mo_layTried (d + 1) 61 61 (fun v h' g' z' => v = none ∧ F h' g' z') 39 [(0, .ref (G.2.1 + 47)), (1, .int a1), (2, .int (nI n)), (3, .int c3), (4, .int (nI met)), (5, .int c5), (6, .int c6), (7, .int (nI rank)), (8, .int v)] [] 61 h (r_gp p q) z := by
  intro f
  induction f with
  | zero =>
    intro rank i v hi hj hr hv
    cases hj
  | succ f ih =>
    intro rank i v hi hj hr hv
    subst hv
    have hbit := nI_hb (b := met) (j := i) hm (by omega)
    unfold m_fi at hj
    by_cases cb : a_hb met i = true
    · rw [if_pos cb] at hj
      have hz : met / 2 ^ i % 2 = 1 := of_decide_eq_true cb
      refine j_iload d_Mo_layTried_39 rfl ?_
      refine j_iload d_Mo_layTried_41 rfl ?_
      refine j_ishr d_Mo_layTried_43 ?_
      refine j_iconst (v := 1) d_Mo_layTried_44 rfl ?_
      refine j_iand d_Mo_layTried_45 ?_
      rw [hbit, hz]
      refine j_iconst (v := 1) d_Mo_layTried_46 rfl ?_
      refine j_icmp_eq (tgt := 55) d_Mo_layTried_47 rfl (fun bq1 => ?_) (fun bq1 => False.elim (bq1 rfl))
      refine j_iload d_Mo_layTried_55 rfl ?_
      refine j_iload d_Mo_layTried_57 rfl ?_
      refine j_iload d_Mo_layTried_59 rfl ?_
      refine j_ishr d_Mo_layTried_61 ?_
      refine j_iconst (v := 1) d_Mo_layTried_62 rfl ?_
      refine j_iand d_Mo_layTried_63 ?_
      rw [hbit, hz]
      refine j_iconst (v := 1) d_Mo_layTried_64 rfl ?_
      refine j_icmp_ne (tgt := 72) d_Mo_layTried_65 rfl (fun bq2 => False.elim (bq2 rfl)) (fun bq2 => ?_)
      refine j_iconst (v := 0) d_Mo_layTried_68 rfl ?_
      refine j_goto (tgt := 73) d_Mo_layTried_69 rfl ?_
      refine j_isub d_Mo_layTried_73 ?_
      rw [Int32.sub_zero]
      refine j_istore (ls' := [(7, _), (0, _), (1, _), (2, _), (3, _), (4, _), (5, _), (6, _), (8, _)]) d_Mo_layTried_74 (by decide) rfl ?_
      refine j_iinc (ls' := [(8, _), (7, _), (0, _), (1, _), (2, _), (3, _), (4, _), (5, _), (6, _)]) d_Mo_layTried_76 rfl (by decide) rfl ?_
      refine j_goto (tgt := 39) d_Mo_layTried_79 rfl ?_
      refine j_pick [2, 3, 4, 5, 6, 7, 8, 1, 0] (ls' := [(0, _), (1, _), (2, _), (3, _), (4, _), (5, _), (6, _), (7, _), (8, _)]) rfl ?_
      exact ih rank (i + 1) _ (by omega) hj hr (nI_inc i)
    · rw [if_neg cb] at hj
      have hz : met / 2 ^ i % 2 = 0 := by
        have : ¬ met / 2 ^ i % 2 = 1 := fun q => cb (decide_eq_true q)
        omega
      by_cases cr : rank = 0
      · rw [if_pos cr] at hj
        injection hj with hj
        subst hj
        refine j_iload d_Mo_layTried_39 rfl ?_
        refine j_iload d_Mo_layTried_41 rfl ?_
        refine j_ishr d_Mo_layTried_43 ?_
        refine j_iconst (v := 1) d_Mo_layTried_44 rfl ?_
        refine j_iand d_Mo_layTried_45 ?_
        rw [hbit, hz]
        refine j_iconst (v := 1) d_Mo_layTried_46 rfl ?_
        refine j_icmp_eq (tgt := 55) d_Mo_layTried_47 rfl (fun bq1 => False.elim (absurd bq1 (by decide))) (fun bq1 => ?_)
        refine j_iload d_Mo_layTried_50 rfl ?_
        refine j_if_le (tgt := 82) d_Mo_layTried_52 rfl (fun bq2 => ?_) (fun bq2 => False.elim (bq2 (by rw [cr]; decide)))
        exact kk _
      · rw [if_neg cr] at hj
        refine j_iload d_Mo_layTried_39 rfl ?_
        refine j_iload d_Mo_layTried_41 rfl ?_
        refine j_ishr d_Mo_layTried_43 ?_
        refine j_iconst (v := 1) d_Mo_layTried_44 rfl ?_
        refine j_iand d_Mo_layTried_45 ?_
        rw [hbit, hz]
        refine j_iconst (v := 1) d_Mo_layTried_46 rfl ?_
        refine j_icmp_eq (tgt := 55) d_Mo_layTried_47 rfl (fun bq1 => False.elim (absurd bq1 (by decide))) (fun bq1 => ?_)
        refine j_iload d_Mo_layTried_50 rfl ?_
        refine j_if_le (tgt := 82) d_Mo_layTried_52 rfl (fun bq2 => False.elim (nI_nle (n := rank) (by omega) (by omega) bq2)) (fun bq2 => ?_)
        refine j_iload d_Mo_layTried_55 rfl ?_
        refine j_iload d_Mo_layTried_57 rfl ?_
        refine j_iload d_Mo_layTried_59 rfl ?_
        refine j_ishr d_Mo_layTried_61 ?_
        refine j_iconst (v := 1) d_Mo_layTried_62 rfl ?_
        refine j_iand d_Mo_layTried_63 ?_
        rw [hbit, hz]
        refine j_iconst (v := 1) d_Mo_layTried_64 rfl ?_
        refine j_icmp_ne (tgt := 72) d_Mo_layTried_65 rfl (fun bq3 => ?_) (fun bq3 => False.elim (absurd bq3 (by decide)))
        refine j_iconst (v := 1) d_Mo_layTried_72 rfl ?_
        refine j_isub d_Mo_layTried_73 ?_
        rw [show nI rank - 1 = nI (rank - 1) from pk_sub (b := 1) (by omega)]
        refine j_istore (ls' := [(7, _), (0, _), (1, _), (2, _), (3, _), (4, _), (5, _), (6, _), (8, _)]) d_Mo_layTried_74 (by decide) rfl ?_
        refine j_iinc (ls' := [(8, _), (7, _), (0, _), (1, _), (2, _), (3, _), (4, _), (5, _), (6, _)]) d_Mo_layTried_76 rfl (by decide) rfl ?_
        refine j_goto (tgt := 39) d_Mo_layTried_79 rfl ?_
        refine j_pick [2, 3, 4, 5, 6, 7, 8, 1, 0] (ls' := [(0, _), (1, _), (2, _), (3, _), (4, _), (5, _), (6, _), (7, _), (8, _)]) rfl ?_
        exact ih (rank - 1) (i + 1) _ (by omega) hj (by omega) (nI_inc i)
set_option maxRecDepth 100000 in
set_option maxHeartbeats 4000000 in
theorem l_layTried {G : r_X} {d : Nat} {h : r_HI} {p q : Nat} {z : r_HL} {F : r_HI → r_HR → r_HL → Prop} {n : Nat} (hn : n ≤ 7) {a1 : Int32} : ∀ (m k left met : Nat) (pre x : List Nat) (v : Int32) (h1 : r_HI), m + k = n → v = nI k → pre.length = k → m_lt n m k left met = some x → met < 128 → left ≤ 5040 → r_ey [54] [] h h1 → p_L h1 54 pre → (∀ h', r_ey [54] [] h h' → p_L h' 54 (pre ++ x) → F h' (r_gp p q) z) → r_TM G m_Mo_layTried (d + 1) 61 61 (fun v h' g' z' => v = none ∧ F h' g' z') 8 [(0, .ref (G.2.1 + 47)), (1, .int a1), (2, .int (nI n)), (3, .int (nI left)), (4, .int (nI met)), (5, .int v)] [] 61 h1 (r_gp p q) z := by
  intro m
  induction m with
  | zero =>
    intro k left met pre x v h1 hm hv hpl hx hmet hle hy hL hF
    subst hv
    replace hx : some [] = some x := hx
    refine j_iload d_Mo_layTried_8 rfl ?_
    refine j_iload_n d_Mo_layTried_10 rfl rfl ?_
    refine j_icmp_ge (tgt := 106) d_Mo_layTried_11 rfl (fun bq1 => ?_) (fun bq1 => False.elim (bq1 (nI_le (by omega) (by omega))))
    refine j_vret d_Mo_layTried_106 rfl ?_
    injection hx with hx
    subst hx
    rw [List.append_nil] at hF
    exact ⟨rfl, hF _ hy hL⟩
  | succ m ih =>
    intro k left met pre x v h1 hm hv hpl hx hmet hle hy hL hF
    subst hv
    have hfc := a_fc_le (n := n - 1 - k) (by omega)
    unfold m_lt at hx
    cases hi : m_fi met 7 (left / (a_fc (n - 1 - k))) 0 with
    | none =>
      rw [hi] at hx
      cases hx
    | some i =>
      rw [hi] at hx
      dsimp only at hx
      have hf := m_fi_some hi
      cases hM : m_lt n m (k + 1) (left % (a_fc (n - 1 - k))) (met + 2 ^ i) with
      | none =>
        rw [hM] at hx
        cases hx
      | some L =>
        rw [hM] at hx
        injection hx with hx
        subst hx
        refine j_iload d_Mo_layTried_8 rfl ?_
        refine j_iload_n d_Mo_layTried_10 rfl rfl ?_
        refine j_icmp_ge (tgt := 106) d_Mo_layTried_11 rfl (fun bq1 => False.elim (nI_ge (by omega) (by omega) bq1)) (fun bq1 => ?_)
        refine j_iload_n d_Mo_layTried_14 rfl rfl ?_
        refine j_iconst (v := 1) d_Mo_layTried_15 rfl ?_
        refine j_isub d_Mo_layTried_16 ?_
        refine j_iload d_Mo_layTried_17 rfl ?_
        refine j_isub d_Mo_layTried_19 ?_
        rw [show nI n - 1 = nI (n - 1) from pk_sub (b := 1) (by omega), pk_sub (by omega)]
        refine q_i s_Mo_layTried_20 rfl (Nat.le_of_ble_eq_true rfl) (Nat.le_of_ble_eq_true rfl) ?_
        refine c_Mo_factorial (n := n - 1 - k) (by omega) rfl ?_
        refine j_istore (ls' := [(6, _), (0, _), (1, _), (2, _), (3, _), (4, _), (5, _)]) d_Mo_layTried_23 (by decide) rfl ?_
        refine j_iload_n d_Mo_layTried_25 rfl rfl ?_
        refine j_iload d_Mo_layTried_26 rfl ?_
        refine j_idiv d_Mo_layTried_28 (nI_ne0 (by omega) (by omega)) ?_
        rw [pk_div (by omega) (by omega) (by omega)]
        refine j_istore (ls' := [(7, _), (6, _), (0, _), (1, _), (2, _), (3, _), (4, _), (5, _)]) d_Mo_layTried_29 (by decide) rfl ?_
        refine j_iload_n d_Mo_layTried_31 rfl rfl ?_
        refine j_iload d_Mo_layTried_32 rfl ?_
        refine j_irem d_Mo_layTried_34 (nI_ne0 (by omega) (by omega)) ?_
        rw [pk_rem (by omega) (by omega) (by omega)]
        refine j_istore_n (ls' := [(3, _), (7, _), (6, _), (0, _), (1, _), (2, _), (4, _), (5, _)]) d_Mo_layTried_35 rfl (by decide) rfl ?_
        refine j_iconst (v := 0) d_Mo_layTried_36 rfl ?_
        refine j_istore (ls' := [(8, _), (3, _), (7, _), (6, _), (0, _), (1, _), (2, _), (4, _), (5, _)]) d_Mo_layTried_37 (by decide) rfl ?_
        refine j_pick [4, 5, 6, 1, 7, 8, 3, 2, 0] (ls' := [(0, _), (1, _), (2, _), (3, _), (4, _), (5, _), (6, _), (7, _), (8, _)]) rfl ?_
        refine l_find (met := met) (j := i) (by omega) (fun r => ?_) 7 (left / (a_fc (n - 1 - k))) 0 _ (by omega) hi (by have := Nat.div_le_self left (a_fc (n - 1 - k)); omega) rfl
        refine j_aload_n d_Mo_layTried_82 rfl rfl ?_
        refine j_getr d_Mo_layTried_83 f_Mo_28 rfl rfl (by decide) rfl ?_
        refine j_iload d_Mo_layTried_86 rfl ?_
        refine j_iload d_Mo_layTried_88 rfl ?_
        refine j_iap d_Mo_layTried_90 rfl (by decide) (j := k) (rfl) (by omega) (by decide) ?_
        refine j_iload d_Mo_layTried_91 rfl ?_
        refine j_iconst (v := 1) d_Mo_layTried_93 rfl ?_
        refine j_iload d_Mo_layTried_94 rfl ?_
        refine j_ishl d_Mo_layTried_96 ?_
        refine j_ior d_Mo_layTried_97 ?_
        rw [a_orI hmet (by omega) hf.1]
        refine j_istore (ls' := [(4, _), (0, _), (1, _), (2, _), (3, _), (5, _), (6, _), (7, _), (8, _)]) d_Mo_layTried_98 (by decide) rfl ?_
        refine j_iinc (ls' := [(5, _), (4, _), (0, _), (1, _), (2, _), (3, _), (6, _), (7, _), (8, _)]) d_Mo_layTried_100 rfl (by decide) rfl ?_
        refine j_goto (tgt := 8) d_Mo_layTried_103 rfl ?_
        refine j_pick [2, 3, 4, 5, 1, 0] (ls' := [(0, _), (1, _), (2, _), (3, _), (4, _), (5, _)]) rfl ?_
        have hL2 : p_L (r_up h1 54 k (nI i)) 54 (pre ++ [i]) := by
          have := hL.app (r := i)
          rw [hpl] at this
          exact this
        refine ih (k + 1) _ _ _ _ _ _ (by omega) (nI_inc k) (by simp [hpl]) hM (a_or hmet (by omega) hf.1).2 (by have := Nat.mod_le left (a_fc (n - 1 - k)); omega) (hy.up (by decide) (by decide)) hL2 (fun h2 y2 l2 => hF h2 y2 ?_)
        rw [List.append_assoc] at l2
        exact l2
set_option maxRecDepth 100000 in
set_option maxHeartbeats 4000000 in
theorem c_Mo_layTried {G : r_X} {d : Nat} {h : r_HI} {p q : Nat} {z : r_HL} {F : r_HI → r_HR → r_HL → Prop} {n no : Nat} {x : List Nat} {a1 a2 : Int32} (hn : n ≤ 7) (hno : no ≤ 5040) (hx : m_lt n n 0 no 0 = some x) (e1 : a1 = nI no) (e2 : a2 = nI n) (hF : ∀ h', r_ey [54] [] h h' → p_L h' 54 x → F h' (r_gp p q) z) : r_Cv G m_Mo_layTried (d + 1) 61 [.ref (G.2.1 + 47), .int a1, .int a2] 61 h (r_gp p q) z F := by
  subst e1
  subst e2
  refine r_C_of (by decide +kernel) (Nat.le_of_ble_eq_true rfl) ?_
  refine j_ls (ls' := [(0, _), (1, _), (2, _)]) rfl ?_
  refine j_iload_n d_Mo_layTried_0 rfl rfl ?_
  refine j_istore_n (ls' := [(3, _), (0, _), (1, _), (2, _)]) d_Mo_layTried_1 rfl (by decide) rfl ?_
  refine j_iconst (v := 0) d_Mo_layTried_2 rfl ?_
  refine j_istore (ls' := [(4, _), (3, _), (0, _), (1, _), (2, _)]) d_Mo_layTried_3 (by decide) rfl ?_
  refine j_iconst (v := 0) d_Mo_layTried_5 rfl ?_
  refine j_istore (ls' := [(5, _), (4, _), (3, _), (0, _), (1, _), (2, _)]) d_Mo_layTried_6 (by decide) rfl ?_
  refine j_pick [3, 4, 5, 2, 1, 0] (ls' := [(0, _), (1, _), (2, _), (3, _), (4, _), (5, _)]) rfl ?_
  exact l_layTried hn n 0 no 0 [] x _ _ (by omega) rfl rfl hx (by decide) hno r_ey.rf (fun i hi => absurd hi (Nat.not_lt_zero i)) hF
