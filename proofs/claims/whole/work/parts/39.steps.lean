theorem m2_s (k : Nat) : nI (2 * k) + Int32.ofInt 2 = nI (2 * (k + 1)) := nI_add (2 * k) 2
theorem m_fit {st s r t : Nat} (h1 : st ≤ 9) (h2 : s ≤ 9) (h3 : r ≤ 9) (h4 : t ≤ 99) : (nI st + nI s * nI r - nI t).toInt = (st : Int) + s * r - t := by
  have h5 : s * r ≤ 9 * 9 := Nat.mul_le_mul h2 h3
  rw [pk_mul, nI_add, pk_sub_toInt (by omega) (by omega)]
  omega
theorem m_far {s t f : Nat} (h1 : s < 9) (h2 : t < 9) (h3 : f ≤ 9) : ((nI s - nI t) * nI f).toInt = ((s : Int) - t) * f := by
  rw [iI_n, iI_n, iI_n, iI_sub, iI_mul]
  refine iI_to ?_ ?_
  · have : ((s : Int) - t) * f ≥ (-9) * 9 := by
      rcases Int.le_total 0 ((s : Int) - t) with h | h
      · have := Int.mul_nonneg h (Int.natCast_nonneg f)
        omega
      · have h6 : (9 : Int) * 9 ≥ (-((s : Int) - t)) * f := Int.mul_le_mul (by omega) (by omega) (by omega) (by omega)
        rw [Int.neg_mul] at h6
        omega
    omega
  · have : ((s : Int) - t) * f ≤ 9 * 9 := by
      rcases Int.le_total 0 ((s : Int) - t) with h | h
      · exact Int.mul_le_mul (by omega) (by omega) (by omega) (by omega)
      · have h6 := Int.mul_nonneg (show 0 ≤ -((s : Int) - t) by omega) (Int.natCast_nonneg f)
        rw [Int.neg_mul] at h6
        omega
    omega
theorem m_farI {s t f : Nat} (h1 : s < 9) (h2 : t < 9) (h3 : f ≤ 9) : (-1 ≤ ((s : Int) - t) * f ∧ ((s : Int) - t) * f ≤ 1) ↔ a_ds (t + 1) (s + 1) * f ≤ 1 := (show ∀ s : Nat, s < 9 → ∀ t : Nat, t < 9 → ∀ f : Nat, f < 10 → ((-1 ≤ ((s : Int) - t) * f ∧ ((s : Int) - t) * f ≤ 1) ↔ a_ds (t + 1) (s + 1) * f ≤ 1) by decide +kernel) s h1 t h2 f (by omega)
set_option maxRecDepth 100000 in
set_option maxHeartbeats 4000000 in
theorem l_steps1 {G : r_X} {d : Nat} {h : r_HI} {p q : Nat} {z : r_HL} {F : Int32 → r_HI → r_HR → r_HL → Prop} {S : a_S} (hS : p_Sm h 24 56 S) (hs : a_sok S) {st : Nat} (h4 : h 47 4 = nI st) (hst : st ≤ 9) {s : Nat} (hs9 : s ≤ 9) {b1 : Int32} : ∀ (m k : Nat) (t : Bool) (v : Int32), m + k = S.1 → v = nI (2 * k) → (∀ v, r_TM G m_Mo_stepsOf (d + 1) 61 61 (fun v h' g' z' => ∃ r, v = some (.int r) ∧ F r h' g' z') 77 [(0, .ref (G.2.1 + 47)), (1, .int b1), (2, .int (nI s)), (3, .int (if t && a_so st s S m k then (1 : Int32) else 0)), (4, .int v)] [] 61 h (r_gp p q) z) → r_TM G m_Mo_stepsOf (d + 1) 61 61 (fun v h' g' z' => ∃ r, v = some (.int r) ∧ F r h' g' z') 15 [(0, .ref (G.2.1 + 47)), (1, .int b1), (2, .int (nI s)), (3, .int (if t then (1 : Int32) else 0)), (4, .int v)] [] 61 h (r_gp p q) z := by
  have hs6 := hs.1
  intro m
  induction m with
  | zero =>
    intro k t v hm hv kk
    subst hv
    refine j_iload d_Mo_stepsOf_15 rfl ?_
    refine j_iconst (v := 2) d_Mo_stepsOf_17 rfl ?_
    refine j_aload_n d_Mo_stepsOf_18 rfl rfl ?_
    refine j_geti d_Mo_stepsOf_19 f_Mo_117 rfl rfl (by decide) ?_
    refine j_imul d_Mo_stepsOf_22 ?_
    refine j_icmp_ge (tgt := 77) d_Mo_stepsOf_23 rfl (fun bq1 => ?_) (fun bq1 => False.elim (bq1 (by rw [hS.1, m2_0]; exact nI_le (by omega) (by omega))))
    have e9 : (t && a_so st s S 0 k) = t := by simp [a_so]
    rw [e9] at kk
    exact kk _
  | succ m ih =>
    intro k t v hm hv kk
    subst hv
    have hk1 : k < S.1 := by omega
    obtain ⟨q1, q2⟩ := hs.2 k hk1
    have tf := m_fit (st := st) (s := s) hst hs9 q1 q2
    cases t with
    | false =>
      refine j_iload d_Mo_stepsOf_15 rfl ?_
      refine j_iconst (v := 2) d_Mo_stepsOf_17 rfl ?_
      refine j_aload_n d_Mo_stepsOf_18 rfl rfl ?_
      refine j_geti d_Mo_stepsOf_19 f_Mo_117 rfl rfl (by decide) ?_
      refine j_imul d_Mo_stepsOf_22 ?_
      refine j_icmp_ge (tgt := 77) d_Mo_stepsOf_23 rfl (fun bq1 => False.elim (nI_ge (a := 2 * k) (b := 2 * S.1) (by omega) (by omega) (by rw [← m2_0, ← hS.1]; exact bq1))) (fun bq1 => ?_)
      refine j_iload_n d_Mo_stepsOf_26 rfl rfl ?_
      refine j_if_eq (tgt := 69) d_Mo_stepsOf_27 rfl (fun bq2 => ?_) (fun bq2 => False.elim (bq2 rfl))
      refine j_iconst (v := 0) d_Mo_stepsOf_69 rfl ?_
      refine j_istore_n (ls' := [(3, _), (0, _), (1, _), (2, _), (4, _)]) d_Mo_stepsOf_70 rfl (by decide) rfl ?_
      refine j_iinc (ls' := [(4, _), (3, _), (0, _), (1, _), (2, _)]) d_Mo_stepsOf_71 rfl (by decide) rfl ?_
      refine j_goto (tgt := 15) d_Mo_stepsOf_74 rfl ?_
      refine j_pick [2, 3, 4, 1, 0] (ls' := [(0, _), (1, _), (2, _), (3, _), (4, _)]) rfl ?_
      have e9 : (false && a_so st s S (m + 1) k) = (false && a_so st s S m (k + 1)) := by simp [a_so]
      rw [e9] at kk
      exact ih (k + 1) false _ (by omega) (m2_s k) kk
    | true =>
      by_cases c : 1 < a_ds (st + s * S.2.1 k) (S.2.2 k)
      · have c2 : (nI st + nI s * nI (S.2.1 k) - nI (S.2.2 k)).toInt < -1 ∨ 1 < (nI st + nI s * nI (S.2.1 k) - nI (S.2.2 k)).toInt := by
          rw [tf]
          have c2 := c
          unfold a_ds at c2
          have hmul : ((s * S.2.1 k : Nat) : Int) = (s : Int) * (S.2.1 k : Int) := Int.natCast_mul s (S.2.1 k)
          rw [← hmul]
          split at c2 <;> omega
        refine j_iload d_Mo_stepsOf_15 rfl ?_
        refine j_iconst (v := 2) d_Mo_stepsOf_17 rfl ?_
        refine j_aload_n d_Mo_stepsOf_18 rfl rfl ?_
        refine j_geti d_Mo_stepsOf_19 f_Mo_117 rfl rfl (by decide) ?_
        refine j_imul d_Mo_stepsOf_22 ?_
        refine j_icmp_ge (tgt := 77) d_Mo_stepsOf_23 rfl (fun bq1 => False.elim (nI_ge (a := 2 * k) (b := 2 * S.1) (by omega) (by omega) (by rw [← m2_0, ← hS.1]; exact bq1))) (fun bq1 => ?_)
        refine j_iload_n d_Mo_stepsOf_26 rfl rfl ?_
        refine j_if_eq (tgt := 69) d_Mo_stepsOf_27 rfl (fun bq2 => False.elim (absurd bq2 (by decide))) (fun bq2 => ?_)
        refine j_aload_n d_Mo_stepsOf_30 rfl rfl ?_
        refine j_geti d_Mo_stepsOf_31 f_Mo_96 rfl rfl (by decide) ?_
        refine j_iload_n d_Mo_stepsOf_34 rfl rfl ?_
        refine j_aload_n d_Mo_stepsOf_35 rfl rfl ?_
        refine j_getr d_Mo_stepsOf_36 f_Mo_34 rfl rfl (by decide) rfl ?_
        refine j_iload d_Mo_stepsOf_39 rfl ?_
        refine j_iav d_Mo_stepsOf_41 rfl (by decide) (j := 2 * k) (rfl) (by omega) (by decide) ((hS.2 k hk1).1) ?_
        refine j_imul d_Mo_stepsOf_42 ?_
        rw [h4]
        refine j_iadd d_Mo_stepsOf_43 ?_
        refine j_aload_n d_Mo_stepsOf_44 rfl rfl ?_
        refine j_getr d_Mo_stepsOf_45 f_Mo_34 rfl rfl (by decide) rfl ?_
        refine j_iload d_Mo_stepsOf_48 rfl ?_
        refine j_iconst (v := 1) d_Mo_stepsOf_50 rfl ?_
        refine j_iadd d_Mo_stepsOf_51 ?_
        refine j_iav d_Mo_stepsOf_52 rfl (by decide) (j := 2 * k + 1) (nI_1 (2 * k)) (by omega) (by decide) ((hS.2 k hk1).2) ?_
        refine j_isub d_Mo_stepsOf_53 ?_
        refine j_i2l d_Mo_stepsOf_54 ?_
        refine j_ldc2 d_Mo_stepsOf_55 k_Mo_268 ?_
        refine j_lconst (v := 1) d_Mo_stepsOf_58 rfl ?_
        refine q_i s_Mo_stepsOf_59 rfl (Nat.le_of_ble_eq_true rfl) (Nat.le_of_ble_eq_true rfl) ?_
        refine c_inN (-1) 1 (by decide) (by decide) c2 ?_
        refine j_if_eq (tgt := 69) d_Mo_stepsOf_62 rfl (fun bq3 => ?_) (fun bq3 => False.elim (bq3 rfl))
        refine j_iconst (v := 0) d_Mo_stepsOf_69 rfl ?_
        refine j_istore_n (ls' := [(3, _), (0, _), (1, _), (2, _), (4, _)]) d_Mo_stepsOf_70 rfl (by decide) rfl ?_
        refine j_iinc (ls' := [(4, _), (3, _), (0, _), (1, _), (2, _)]) d_Mo_stepsOf_71 rfl (by decide) rfl ?_
        refine j_goto (tgt := 15) d_Mo_stepsOf_74 rfl ?_
        refine j_pick [2, 3, 4, 1, 0] (ls' := [(0, _), (1, _), (2, _), (3, _), (4, _)]) rfl ?_
        have e9 : (true && a_so st s S (m + 1) k) = (false && a_so st s S m (k + 1)) := by simp [a_so, c]
        rw [e9] at kk
        exact ih (k + 1) false _ (by omega) (m2_s k) kk
      · have c2 : -1 ≤ (nI st + nI s * nI (S.2.1 k) - nI (S.2.2 k)).toInt ∧ (nI st + nI s * nI (S.2.1 k) - nI (S.2.2 k)).toInt ≤ 1 := by
          rw [tf]
          have c2 := c
          unfold a_ds at c2
          have hmul : ((s * S.2.1 k : Nat) : Int) = (s : Int) * (S.2.1 k : Int) := Int.natCast_mul s (S.2.1 k)
          rw [← hmul]
          split at c2 <;> omega
        refine j_iload d_Mo_stepsOf_15 rfl ?_
        refine j_iconst (v := 2) d_Mo_stepsOf_17 rfl ?_
        refine j_aload_n d_Mo_stepsOf_18 rfl rfl ?_
        refine j_geti d_Mo_stepsOf_19 f_Mo_117 rfl rfl (by decide) ?_
        refine j_imul d_Mo_stepsOf_22 ?_
        refine j_icmp_ge (tgt := 77) d_Mo_stepsOf_23 rfl (fun bq1 => False.elim (nI_ge (a := 2 * k) (b := 2 * S.1) (by omega) (by omega) (by rw [← m2_0, ← hS.1]; exact bq1))) (fun bq1 => ?_)
        refine j_iload_n d_Mo_stepsOf_26 rfl rfl ?_
        refine j_if_eq (tgt := 69) d_Mo_stepsOf_27 rfl (fun bq2 => False.elim (absurd bq2 (by decide))) (fun bq2 => ?_)
        refine j_aload_n d_Mo_stepsOf_30 rfl rfl ?_
        refine j_geti d_Mo_stepsOf_31 f_Mo_96 rfl rfl (by decide) ?_
        refine j_iload_n d_Mo_stepsOf_34 rfl rfl ?_
        refine j_aload_n d_Mo_stepsOf_35 rfl rfl ?_
        refine j_getr d_Mo_stepsOf_36 f_Mo_34 rfl rfl (by decide) rfl ?_
        refine j_iload d_Mo_stepsOf_39 rfl ?_
        refine j_iav d_Mo_stepsOf_41 rfl (by decide) (j := 2 * k) (rfl) (by omega) (by decide) ((hS.2 k hk1).1) ?_
        refine j_imul d_Mo_stepsOf_42 ?_
        rw [h4]
        refine j_iadd d_Mo_stepsOf_43 ?_
        refine j_aload_n d_Mo_stepsOf_44 rfl rfl ?_
        refine j_getr d_Mo_stepsOf_45 f_Mo_34 rfl rfl (by decide) rfl ?_
        refine j_iload d_Mo_stepsOf_48 rfl ?_
        refine j_iconst (v := 1) d_Mo_stepsOf_50 rfl ?_
        refine j_iadd d_Mo_stepsOf_51 ?_
        refine j_iav d_Mo_stepsOf_52 rfl (by decide) (j := 2 * k + 1) (nI_1 (2 * k)) (by omega) (by decide) ((hS.2 k hk1).2) ?_
        refine j_isub d_Mo_stepsOf_53 ?_
        refine j_i2l d_Mo_stepsOf_54 ?_
        refine j_ldc2 d_Mo_stepsOf_55 k_Mo_268 ?_
        refine j_lconst (v := 1) d_Mo_stepsOf_58 rfl ?_
        refine q_i s_Mo_stepsOf_59 rfl (Nat.le_of_ble_eq_true rfl) (Nat.le_of_ble_eq_true rfl) ?_
        refine c_inY (-1) 1 (by decide) (by decide) c2 ?_
        refine j_if_eq (tgt := 69) d_Mo_stepsOf_62 rfl (fun bq3 => False.elim (absurd bq3 (by decide))) (fun bq3 => ?_)
        refine j_iconst (v := 1) d_Mo_stepsOf_65 rfl ?_
        refine j_goto (tgt := 70) d_Mo_stepsOf_66 rfl ?_
        refine j_istore_n (ls' := [(3, _), (0, _), (1, _), (2, _), (4, _)]) d_Mo_stepsOf_70 rfl (by decide) rfl ?_
        refine j_iinc (ls' := [(4, _), (3, _), (0, _), (1, _), (2, _)]) d_Mo_stepsOf_71 rfl (by decide) rfl ?_
        refine j_goto (tgt := 15) d_Mo_stepsOf_74 rfl ?_
        refine j_pick [2, 3, 4, 1, 0] (ls' := [(0, _), (1, _), (2, _), (3, _), (4, _)]) rfl ?_
        have e9 : (true && a_so st s S (m + 1) k) = (true && a_so st s S m (k + 1)) := by simp [a_so, c]
        rw [e9] at kk
        exact ih (k + 1) true _ (by omega) (m2_s k) kk
set_option maxRecDepth 100000 in
set_option maxHeartbeats 4000000 in
theorem l_steps {G : r_X} {d : Nat} {h : r_HI} {p q : Nat} {z : r_HL} {F : Int32 → r_HI → r_HR → r_HL → Prop} {S : a_S} (hS : p_Sm h 24 56 S) (hs : a_sok S) {st : Nat} (h4 : h 47 4 = nI st) (hst : st ≤ 9) (hF : F (nI (a_ft st S 9)) h (r_gp p q) z) : ∀ (e j : Nat) (v : Int32), e + j = 9 → v = nI (j + 1) → r_TM G m_Mo_stepsOf (d + 1) 61 61 (fun v h' g' z' => ∃ r, v = some (.int r) ∧ F r h' g' z') 4 [(0, .ref (G.2.1 + 47)), (1, .int (nI (a_ft st S j))), (2, .int v)] [] 61 h (r_gp p q) z := by
  intro e
  induction e with
  | zero =>
    intro j v he hv
    subst hv
    refine j_iload_n d_Mo_stepsOf_4 rfl rfl ?_
    refine j_bipush (v := 10) d_Mo_stepsOf_5 (by decide) ?_
    refine j_icmp_ge (tgt := 99) d_Mo_stepsOf_7 rfl (fun bq1 => ?_) (fun bq1 => False.elim (bq1 (nI_le (a := 10) (by omega) (by omega))))
    refine j_iload_n d_Mo_stepsOf_99 rfl rfl ?_
    refine j_iret d_Mo_stepsOf_100 rfl ?_
    have e0 : j = 9 := by omega
    subst e0
    exact q_i1 hF rfl
  | succ e ih =>
    intro j v he hv
    subst hv
    refine j_iload_n d_Mo_stepsOf_4 rfl rfl ?_
    refine j_bipush (v := 10) d_Mo_stepsOf_5 (by decide) ?_
    refine j_icmp_ge (tgt := 99) d_Mo_stepsOf_7 rfl (fun bq1 => False.elim (nI_ge (b := 10) (by omega) (by omega) bq1)) (fun bq1 => ?_)
    refine j_iconst (v := 1) d_Mo_stepsOf_10 rfl ?_
    refine j_istore_n (ls' := [(3, _), (0, _), (1, _), (2, _)]) d_Mo_stepsOf_11 rfl (by decide) rfl ?_
    refine j_iconst (v := 0) d_Mo_stepsOf_12 rfl ?_
    refine j_istore (ls' := [(4, _), (3, _), (0, _), (1, _), (2, _)]) d_Mo_stepsOf_13 (by decide) rfl ?_
    refine j_pick [2, 3, 4, 1, 0] (ls' := [(0, _), (1, _), (2, _), (3, _), (4, _)]) rfl ?_
    refine l_steps1 hS hs h4 hst (s := j + 1) (by omega) S.1 0 true _ (by omega) rfl (fun v => ?_)
    rw [Bool.true_and]
    cases c : a_so st (j + 1) S S.1 0
    · refine j_iload_n d_Mo_stepsOf_77 rfl rfl ?_
      refine j_iload_n d_Mo_stepsOf_78 rfl rfl ?_
      refine j_if_eq (tgt := 90) d_Mo_stepsOf_79 rfl (fun bq1 => ?_) (fun bq1 => False.elim (bq1 rfl))
      refine j_iconst (v := 0) d_Mo_stepsOf_90 rfl ?_
      refine j_ior d_Mo_stepsOf_91 ?_
      rw [Int32.or_zero]
      refine j_istore_n (ls' := [(1, _), (0, _), (2, _), (3, _), (4, _)]) d_Mo_stepsOf_92 rfl (by decide) rfl ?_
      refine j_iinc (ls' := [(2, _), (1, _), (0, _), (3, _), (4, _)]) d_Mo_stepsOf_93 rfl (by decide) rfl ?_
      refine j_goto (tgt := 4) d_Mo_stepsOf_96 rfl ?_
      refine j_pick [2, 1, 0] (ls' := [(0, _), (1, _), (2, _)]) rfl ?_
      have e9 : a_ft st S (j + 1) = a_ft st S j := by show (if a_so st (j + 1) S S.1 0 then a_ft st S j + 2 ^ j else a_ft st S j) = _; rw [c]; rfl
      have ih1 := ih (j + 1) _ (by omega) (nI_inc (j + 1))
      rw [e9] at ih1
      exact ih1
    · refine j_iload_n d_Mo_stepsOf_77 rfl rfl ?_
      refine j_iload_n d_Mo_stepsOf_78 rfl rfl ?_
      refine j_if_eq (tgt := 90) d_Mo_stepsOf_79 rfl (fun bq1 => False.elim (absurd bq1 (by decide))) (fun bq1 => ?_)
      refine j_iconst (v := 1) d_Mo_stepsOf_82 rfl ?_
      refine j_iload_n d_Mo_stepsOf_83 rfl rfl ?_
      refine j_iconst (v := 1) d_Mo_stepsOf_84 rfl ?_
      refine j_isub d_Mo_stepsOf_85 ?_
      rw [nI_pred]
      refine j_ishl d_Mo_stepsOf_86 ?_
      refine j_goto (tgt := 91) d_Mo_stepsOf_87 rfl ?_
      rw [nI_bit (by omega)]
      refine j_ior d_Mo_stepsOf_91 ?_
      rw [nI_or (a_ft_lt st S j) (by omega)]
      refine j_istore_n (ls' := [(1, _), (0, _), (2, _), (3, _), (4, _)]) d_Mo_stepsOf_92 rfl (by decide) rfl ?_
      refine j_iinc (ls' := [(2, _), (1, _), (0, _), (3, _), (4, _)]) d_Mo_stepsOf_93 rfl (by decide) rfl ?_
      refine j_goto (tgt := 4) d_Mo_stepsOf_96 rfl ?_
      refine j_pick [2, 1, 0] (ls' := [(0, _), (1, _), (2, _)]) rfl ?_
      have e9 : a_ft st S (j + 1) = a_ft st S j + 2 ^ j := by show (if a_so st (j + 1) S S.1 0 then a_ft st S j + 2 ^ j else a_ft st S j) = _; rw [c]; rfl
      have ih1 := ih (j + 1) _ (by omega) (nI_inc (j + 1))
      rw [e9] at ih1
      exact ih1
set_option maxRecDepth 100000 in
set_option maxHeartbeats 4000000 in
theorem c_Mo_stepsOf {G : r_X} {d : Nat} {h : r_HI} {p q : Nat} {z : r_HL} {F : Int32 → r_HI → r_HR → r_HL → Prop} {S : a_S} (hS : p_Sm h 24 56 S) (hs : a_sok S) {st : Nat} (h4 : h 47 4 = nI st) (hst : st ≤ 9) (hF : F (nI (a_ft st S 9)) h (r_gp p q) z) : r_Ci G m_Mo_stepsOf (d + 1) 61 [.ref (G.2.1 + 47)] 61 h (r_gp p q) z F := by
  refine r_C_of (by decide +kernel) (Nat.le_of_ble_eq_true rfl) ?_
  refine j_ls (ls' := [(0, _)]) rfl ?_
  refine j_iconst (v := 0) d_Mo_stepsOf_0 rfl ?_
  refine j_istore_n (ls' := [(1, _), (0, _)]) d_Mo_stepsOf_1 rfl (by decide) rfl ?_
  refine j_iconst (v := 1) d_Mo_stepsOf_2 rfl ?_
  refine j_istore_n (ls' := [(2, _), (1, _), (0, _)]) d_Mo_stepsOf_3 rfl (by decide) rfl ?_
  refine j_pick [2, 1, 0] (ls' := [(0, _), (1, _), (2, _)]) rfl ?_
  exact l_steps hS hs h4 hst hF 9 0 _ (by omega) rfl
set_option maxRecDepth 100000 in
set_option maxHeartbeats 4000000 in
theorem c_Mo_steps {G : r_X} {d : Nat} {h : r_HI} {p q : Nat} {z : r_HL} {F : Int32 → r_HI → r_HR → r_HL → Prop} {Z : a_Z} (hM : p_M h Z) (ho : a_zok Z) (hF : ∀ h', r_ey r_As r_Js h h' → F (s_steps Z) h' (r_gp p q) z) : r_Ci G m_Mo_steps (d + 20) 61 [.ref (G.2.1 + 47)] 61 h (r_gp p q) z F := by
  obtain ⟨mG, mN, mJ0, m6, mW, mS, m11, m20, mkk, mkp⟩ := id hM
  obtain ⟨op, ⟨od, ok, otk, ow, os, okd⟩, o3, o4, o5, o6, o7⟩ := id ho
  obtain ⟨od1, od2, od3, od4⟩ := id od
  obtain ⟨ok1, ok2, ok3, ok4⟩ := id ok
  have os1 := os.1
  have op1 := op.1
  by_cases hR : Z.2.1.1.1 = 0
  · have hs : s_steps Z = -103 := by simp [s_steps, hR]
    rw [hs] at hF
    refine r_C_of (by decide +kernel) (Nat.le_of_ble_eq_true rfl) ?_
    refine j_ls (ls' := [(0, _)]) rfl ?_
    refine j_aload_n d_Mo_steps_0 rfl rfl ?_
    refine q_i (s_Mo_steps_1 rfl (by decide)) rfl (Nat.le_of_ble_eq_true rfl) (Nat.le_of_ble_eq_true rfl) ?_
    refine c_Mo_lacksY mN od hR ?_
    refine j_if_eq (tgt := 12) d_Mo_steps_4 rfl (fun bq1 => False.elim (absurd bq1 (by decide))) (fun bq1 => ?_)
    refine j_bipush (v := (-103)) d_Mo_steps_7 (by decide) ?_
    refine j_goto (tgt := 16) d_Mo_steps_9 rfl ?_
    refine j_iret d_Mo_steps_16 rfl ?_
    exact q_i1 (hF _ r_ey.rf) rfl
  · have hs : s_steps Z = nI (a_ft Z.2.1.1.2.1 Z.2.1.2.2.2.1 9) := by simp [s_steps, hR]
    rw [hs] at hF
    refine r_C_of (by decide +kernel) (Nat.le_of_ble_eq_true rfl) ?_
    refine j_ls (ls' := [(0, _)]) rfl ?_
    refine j_aload_n d_Mo_steps_0 rfl rfl ?_
    refine q_i (s_Mo_steps_1 rfl (by decide)) rfl (Nat.le_of_ble_eq_true rfl) (Nat.le_of_ble_eq_true rfl) ?_
    refine c_Mo_lacksN mN od hR ?_
    refine j_if_eq (tgt := 12) d_Mo_steps_4 rfl (fun bq1 => ?_) (fun bq1 => False.elim (bq1 rfl))
    refine j_aload_n d_Mo_steps_12 rfl rfl ?_
    refine q_i (s_Mo_steps_13 rfl (by decide)) rfl (Nat.le_of_ble_eq_true rfl) (Nat.le_of_ble_eq_true rfl) ?_
    refine c_Mo_stepsOf mS os mN.2.1 od2 ?_
    refine j_iret d_Mo_steps_16 rfl ?_
    exact q_i1 (hF _ r_ey.rf) rfl
