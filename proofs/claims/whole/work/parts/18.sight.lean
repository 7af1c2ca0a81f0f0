set_option maxRecDepth 100000 in
set_option maxHeartbeats 4000000 in
theorem c_Si_append {G : r_X} {d : Nat} {h : r_HI} {p q : Nat} {z : r_HL} {F : Int32 → r_HI → r_HR → r_HL → Prop} {S : a_S} (hS : p_S h 15 S) (hs : a_sok S) {r w : Nat} {a1 a2 : Int32} (h6 : S.1 < 6) (e1 : a1 = nI r) (e2 : a2 = nI w) (hF : ∀ h', r_ex [15, 16, 17] h h' → p_S h' 15 (S.1 + 1, va_up S.2.1 S.1 r, va_up S.2.2 S.1 w) → F (nI (S.1 + 1)) h' (r_gp p q) z) : r_Ci G m_Si_append (d + 1) 61 [.ref (G.2.1 + 15), .int a1, .int a2] 61 h (r_gp p q) z F := by
  subst e1
  subst e2
  refine r_C_of (by decide +kernel) (Nat.le_of_ble_eq_true rfl) ?_
  refine j_ls (ls' := [(0, _), (1, _), (2, _)]) rfl ?_
  refine j_aload_n d_Si_append_0 rfl rfl ?_
  refine j_geti d_Si_append_1 f_Si_18 rfl rfl (by decide) ?_
  refine j_bipush (v := 6) d_Si_append_4 (by decide) ?_
  refine j_icmp_ge (tgt := 43) d_Si_append_6 rfl (fun bq1 => False.elim (nI_ge (b := 6) (by omega) (by omega) (hS.1 ▸ bq1))) (fun bq1 => ?_)
  refine j_aload_n d_Si_append_9 rfl rfl ?_
  refine j_getr d_Si_append_10 f_Si_9 rfl rfl (by decide) rfl ?_
  refine j_aload_n d_Si_append_13 rfl rfl ?_
  refine j_geti d_Si_append_14 f_Si_18 rfl rfl (by decide) ?_
  refine j_iload_n d_Si_append_17 rfl rfl ?_
  refine q_v s_Si_append_18 rfl (Nat.le_of_ble_eq_true rfl) (Nat.le_of_ble_eq_true rfl) ?_
  refine c_Ra_put (j := S.1) rfl (by decide) hS.1 (by omega) ?_
  refine j_aload_n d_Si_append_21 rfl rfl ?_
  refine j_getr d_Si_append_22 f_Si_15 rfl rfl (by decide) rfl ?_
  refine j_aload_n d_Si_append_25 rfl rfl ?_
  refine j_geti d_Si_append_26 f_Si_18 rfl rfl (by decide) ?_
  refine j_iload_n d_Si_append_29 rfl rfl ?_
  refine q_v s_Si_append_30 rfl (Nat.le_of_ble_eq_true rfl) (Nat.le_of_ble_eq_true rfl) ?_
  refine c_Ra_put (j := S.1) rfl (by decide) hS.1 (by omega) ?_
  refine j_aload_n d_Si_append_33 rfl rfl ?_
  refine j_dup d_Si_append_34 rfl ?_
  refine j_geti d_Si_append_35 f_Si_18 rfl rfl (by decide) ?_
  refine j_iconst (v := 1) d_Si_append_38 rfl ?_
  refine j_iadd d_Si_append_39 ?_
  refine j_puti d_Si_append_40 f_Si_18 (by decide) rfl rfl (by decide) ?_
  refine j_aload_n d_Si_append_43 rfl rfl ?_
  refine j_geti d_Si_append_44 f_Si_18 rfl rfl (by decide) ?_
  refine j_iret d_Si_append_47 rfl ?_
  refine q_h1 (h' := r_up (r_up (r_up h 16 S.1 (nI r)) 17 S.1 (nI w)) 15 2 (nI (S.1 + 1))) (hF _ ?_ ?_) ?_ ?_
  · exact ((r_ex.rf.up (by decide)).up (by decide)).up (by decide)
  · refine ⟨rfl, fun i hi => ?_⟩
    by_cases e9 : i = S.1
    · subst e9
      exact ⟨by simp [r_up, upd, va_up], by simp [r_up, upd, va_up]⟩
    · have hi : i < S.1 + 1 := hi
      obtain ⟨g1, g2⟩ := hS.2 i (by omega)
      refine ⟨?_, ?_⟩
      · simp [r_up, upd, va_up, e9]; exact g1
      · simp [r_up, upd, va_up, e9]; exact g2
  · show h 15 2 + 1 = _
    rw [hS.1, nI_1]
  · show r_up (r_up (r_up h 16 S.1 (nI r)) 17 S.1 (nI w)) 15 2 (h 15 2 + 1) = _
    rw [hS.1, nI_1]
set_option maxRecDepth 100000 in
set_option maxHeartbeats 4000000 in
theorem c_Si_clear {G : r_X} {d : Nat} {h : r_HI} {p q : Nat} {z : r_HL} {F : Int32 → r_HI → r_HR → r_HL → Prop} {S : a_S} (hS : p_S h 15 S) (hs : a_sok S) (hF : ∀ h', r_ex [15] h h' → p_S h' 15 (0, S.2.1, S.2.2) → F (nI S.1) h' (r_gp p q) z) : r_Ci G m_Si_clear (d) 61 [.ref (G.2.1 + 15)] 61 h (r_gp p q) z F := by
  refine r_C_of (by decide +kernel) (Nat.le_of_ble_eq_true rfl) ?_
  refine j_ls (ls' := [(0, _)]) rfl ?_
  refine j_aload_n d_Si_clear_0 rfl rfl ?_
  refine j_geti d_Si_clear_1 f_Si_18 rfl rfl (by decide) ?_
  refine j_istore_n (ls' := [(1, _), (0, _)]) d_Si_clear_4 rfl (by decide) rfl ?_
  refine j_aload_n d_Si_clear_5 rfl rfl ?_
  refine j_iconst (v := 0) d_Si_clear_6 rfl ?_
  refine j_puti d_Si_clear_7 f_Si_18 (by decide) rfl rfl (by decide) ?_
  refine j_iload_n d_Si_clear_10 rfl rfl ?_
  refine j_iret d_Si_clear_11 rfl ?_
  exact q_i1 (hF _ (r_ex.rf.up (by decide)) ⟨rfl, fun i hi => absurd hi (Nat.not_lt_zero i)⟩) hS.1
theorem a_soI {a b : Nat} (ha : a < 1000) (hb : b < 1000) : (if 0 ≤ nI a - nI b then nI a - nI b else -(nI a - nI b)) ≤ 1 ↔ ¬ 1 < a_ds a b := by
  rw [a_dsI ha hb]
  have h1 : a_ds a b < 1000 := by unfold a_ds; split <;> omega
  rw [show (1 : Int32) = nI 1 from rfl, nI_leI (by omega) (by omega)]
  omega
set_option maxRecDepth 100000 in
set_option maxHeartbeats 4000000 in
theorem l_Si_isSo {G : r_X} {d : Nat} {h : r_HI} {p q : Nat} {z : r_HL} {F : Int32 → r_HI → r_HR → r_HL → Prop} {S : a_S} (hS : p_S h 15 S) (hs : a_sok S) {st step : Nat} (hst : st ≤ 9) (hsp : step ≤ 9) : ∀ (e i : Nat) (v : Int32), e + i = S.1 → v = nI i → F (if a_so st step S e i then 1 else 0) h (r_gp p q) z → r_TM G m_Si_isSo (d + 1) 61 61 (fun v h' g' z' => ∃ r, v = some (.int r) ∧ F r h' g' z') 2 [(0, .ref (G.2.1 + 15)), (1, .int (nI st)), (2, .int (nI step)), (3, .int v)] [] 61 h (r_gp p q) z := by
  have h6 := hs.1
  intro e
  induction e with
  | zero =>
    intro i v he hv hF
    subst hv
    refine j_iload_n d_Si_isSo_2 rfl rfl ?_
    refine j_aload_n d_Si_isSo_3 rfl rfl ?_
    refine j_geti d_Si_isSo_4 f_Si_18 rfl rfl (by decide) ?_
    refine j_icmp_ge (tgt := 52) d_Si_isSo_7 rfl (fun bq1 => ?_) (fun bq1 => False.elim (bq1 (by rw [hS.1]; exact nI_le (by omega) (by omega))))
    refine j_iconst (v := 1) d_Si_isSo_52 rfl ?_
    refine j_zret d_Si_isSo_53 rfl (by decide) ?_
    exact q_i1 hF rfl
  | succ e ih =>
    intro i v he hv hF
    subst hv
    have hi : i < S.1 := by omega
    have hSr : h 16 i = nI (S.2.1 i) := (hS.2 i hi).1
    have hSt : h 17 i = nI (S.2.2 i) := (hS.2 i hi).2
    obtain ⟨hb1, hb2⟩ := hs.2 i hi
    have hm : step * S.2.1 i ≤ 9 * 9 := Nat.mul_le_mul hsp hb1
    refine j_iload_n d_Si_isSo_2 rfl rfl ?_
    refine j_aload_n d_Si_isSo_3 rfl rfl ?_
    refine j_geti d_Si_isSo_4 f_Si_18 rfl rfl (by decide) ?_
    refine j_icmp_ge (tgt := 52) d_Si_isSo_7 rfl (fun bq1 => False.elim (nI_ge (by omega) (by omega) (hS.1 ▸ bq1))) (fun bq1 => ?_)
    refine j_iload_n d_Si_isSo_10 rfl rfl ?_
    refine j_bipush (v := 6) d_Si_isSo_11 (by decide) ?_
    refine j_icmp_ge (tgt := 52) d_Si_isSo_13 rfl (fun bq2 => False.elim (nI_ge (b := 6) (by omega) (by omega) bq2)) (fun bq2 => ?_)
    refine j_iload_n d_Si_isSo_16 rfl rfl ?_
    refine j_iload_n d_Si_isSo_17 rfl rfl ?_
    refine j_aload_n d_Si_isSo_18 rfl rfl ?_
    refine j_getr d_Si_isSo_19 f_Si_9 rfl rfl (by decide) rfl ?_
    refine j_iload_n d_Si_isSo_22 rfl rfl ?_
    refine q_i s_Si_isSo_23 rfl (Nat.le_of_ble_eq_true rfl) (Nat.le_of_ble_eq_true rfl) ?_
    refine c_Ra_av (j := i) rfl (by decide) rfl (by omega) hSr ?_
    refine j_imul d_Si_isSo_26 ?_
    rw [pk_mul]
    refine j_iadd d_Si_isSo_27 ?_
    rw [nI_add]
    refine j_aload_n d_Si_isSo_28 rfl rfl ?_
    refine j_getr d_Si_isSo_29 f_Si_15 rfl rfl (by decide) rfl ?_
    refine j_iload_n d_Si_isSo_32 rfl rfl ?_
    refine q_i s_Si_isSo_33 rfl (Nat.le_of_ble_eq_true rfl) (Nat.le_of_ble_eq_true rfl) ?_
    refine c_Ra_av (j := i) rfl (by decide) rfl (by omega) hSt ?_
    refine j_isub d_Si_isSo_36 ?_
    refine q_i s_Si_isSo_37 rfl (Nat.le_of_ble_eq_true rfl) (Nat.le_of_ble_eq_true rfl) ?_
    refine c_Jm_abs ?_
    refine j_iconst (v := 1) d_Si_isSo_40 rfl ?_
    refine j_icmp_le (tgt := 46) d_Si_isSo_41 rfl (fun bq3 => ?_) (fun bq3 => ?_)
    · refine j_iinc (ls' := [(3, _), (0, _), (1, _), (2, _)]) d_Si_isSo_46 rfl (by decide) rfl ?_
      refine j_goto (tgt := 2) d_Si_isSo_49 rfl ?_
      refine j_pick [1, 2, 3, 0] (ls' := [(0, _), (1, _), (2, _), (3, _)]) rfl ?_
      refine ih (i + 1) _ (by omega) (nI_inc i) ?_
      rw [a_so, if_neg ((a_soI (by omega) (by omega)).mp bq3)] at hF
      exact hF
    · refine j_iconst (v := 0) d_Si_isSo_44 rfl ?_
      refine j_zret d_Si_isSo_45 rfl (by decide) ?_
      refine q_i1 hF ?_
      rw [a_so, if_pos (Decidable.byContradiction (fun e8 => bq3 ((a_soI (by omega) (by omega)).mpr e8)))]
      rfl
set_option maxRecDepth 100000 in
set_option maxHeartbeats 4000000 in
theorem c_Si_isSo {G : r_X} {d : Nat} {h : r_HI} {p q : Nat} {z : r_HL} {F : Int32 → r_HI → r_HR → r_HL → Prop} {S : a_S} (hS : p_S h 15 S) (hs : a_sok S) {st step : Nat} {a1 a2 : Int32} (hst : st ≤ 9) (hsp : step ≤ 9) (e1 : a1 = nI st) (e2 : a2 = nI step) (hF : F (if a_so st step S S.1 0 then 1 else 0) h (r_gp p q) z) : r_Ci G m_Si_isSo (d + 1) 61 [.ref (G.2.1 + 15), .int a1, .int a2] 61 h (r_gp p q) z F := by
  subst e1
  subst e2
  refine r_C_of (by decide +kernel) (Nat.le_of_ble_eq_true rfl) ?_
  refine j_ls (ls' := [(0, _), (1, _), (2, _)]) rfl ?_
  refine j_iconst (v := 0) d_Si_isSo_0 rfl ?_
  refine j_istore_n (ls' := [(3, _), (0, _), (1, _), (2, _)]) d_Si_isSo_1 rfl (by decide) rfl ?_
  refine j_pick [1, 2, 3, 0] (ls' := [(0, _), (1, _), (2, _), (3, _)]) rfl ?_
  exact l_Si_isSo hS hs hst hsp S.1 0 _ (by omega) rfl hF
set_option maxRecDepth 100000 in
set_option maxHeartbeats 4000000 in
theorem l_Si_fitting {G : r_X} {d : Nat} {h : r_HI} {p q : Nat} {z : r_HL} {F : Int32 → r_HI → r_HR → r_HL → Prop} {S : a_S} (hS : p_S h 15 S) (hs : a_sok S) {st : Nat} (hst : st ≤ 9) (hF : F (nI (a_ft st S 9)) h (r_gp p q) z) : ∀ (e s : Nat) (v b : Int32), e + s = 9 → v = nI (s + 1) → b = nI (a_ft st S s) → r_TM G m_Si_fitting (d + 2) 61 61 (fun v h' g' z' => ∃ r, v = some (.int r) ∧ F r h' g' z') 4 [(0, .ref (G.2.1 + 15)), (1, .int (nI st)), (2, .int b), (3, .int v)] [] 61 h (r_gp p q) z := by
  intro e
  induction e with
  | zero =>
    intro s v b he hv hb
    subst hv
    refine j_iload_n d_Si_fitting_4 rfl rfl ?_
    refine j_bipush (v := 9) d_Si_fitting_5 (by decide) ?_
    refine j_icmp_gt (tgt := 33) d_Si_fitting_7 rfl (fun bq1 => ?_) (fun bq1 => False.elim (bq1 (nI_lt (a := 9) (by omega) (by omega))))
    refine j_iload_n d_Si_fitting_33 rfl rfl ?_
    refine j_iret d_Si_fitting_34 rfl ?_
    exact q_i1 hF (by rw [hb, show s = 9 by omega])
  | succ e ih =>
    intro s v b he hv hb
    subst hv
    refine j_iload_n d_Si_fitting_4 rfl rfl ?_
    refine j_bipush (v := 9) d_Si_fitting_5 (by decide) ?_
    refine j_icmp_gt (tgt := 33) d_Si_fitting_7 rfl (fun bq1 => False.elim (nI_nlt (a := 9) (by omega) (by omega) bq1)) (fun bq1 => ?_)
    refine j_aload_n d_Si_fitting_10 rfl rfl ?_
    refine j_iload_n d_Si_fitting_11 rfl rfl ?_
    refine j_iload_n d_Si_fitting_12 rfl rfl ?_
    refine q_i (s_Si_fitting_13 rfl (by decide)) rfl (Nat.le_of_ble_eq_true rfl) (Nat.le_of_ble_eq_true rfl) ?_
    refine c_Si_isSo hS hs hst (by omega) rfl rfl ?_
    refine j_if_eq (tgt := 27) d_Si_fitting_16 rfl (fun bq2 => ?_) (fun bq2 => ?_)
    · refine j_iinc (ls' := [(3, _), (0, _), (1, _), (2, _)]) d_Si_fitting_27 rfl (by decide) rfl ?_
      refine j_goto (tgt := 4) d_Si_fitting_30 rfl ?_
      refine j_pick [1, 2, 3, 0] (ls' := [(0, _), (1, _), (2, _), (3, _)]) rfl ?_
      refine ih (s + 1) _ _ (by omega) (nI_inc (s + 1)) ?_
      rw [a_ft]
      first
        | (have e9 := t10.mp bq2
           rw [if_neg e9]
           exact hb)
        | (have e9 : a_so st (s + 1) S S.1 0 = true := Decidable.byContradiction (fun e8 => bq2 (t10.mpr e8))
           rw [if_pos e9, hb, nI_pred, nI_bit (by omega), nI_or (a_ft_lt st S s) (by omega)])
    · refine j_iload_n d_Si_fitting_19 rfl rfl ?_
      refine j_iconst (v := 1) d_Si_fitting_20 rfl ?_
      refine j_iload_n d_Si_fitting_21 rfl rfl ?_
      refine j_iconst (v := 1) d_Si_fitting_22 rfl ?_
      refine j_isub d_Si_fitting_23 ?_
      refine j_ishl d_Si_fitting_24 ?_
      refine j_ior d_Si_fitting_25 ?_
      refine j_istore_n (ls' := [(2, _), (0, _), (1, _), (3, _)]) d_Si_fitting_26 rfl (by decide) rfl ?_
      refine j_iinc (ls' := [(3, _), (2, _), (0, _), (1, _)]) d_Si_fitting_27 rfl (by decide) rfl ?_
      refine j_goto (tgt := 4) d_Si_fitting_30 rfl ?_
      refine j_pick [2, 3, 1, 0] (ls' := [(0, _), (1, _), (2, _), (3, _)]) rfl ?_
      refine ih (s + 1) _ _ (by omega) (nI_inc (s + 1)) ?_
      rw [a_ft]
      first
        | (have e9 := t10.mp bq2
           rw [if_neg e9]
           exact hb)
        | (have e9 : a_so st (s + 1) S S.1 0 = true := Decidable.byContradiction (fun e8 => bq2 (t10.mpr e8))
           rw [if_pos e9, hb, nI_pred, nI_bit (by omega), nI_or (a_ft_lt st S s) (by omega)])
set_option maxRecDepth 100000 in
set_option maxHeartbeats 4000000 in
theorem c_Si_fitting {G : r_X} {d : Nat} {h : r_HI} {p q : Nat} {z : r_HL} {F : Int32 → r_HI → r_HR → r_HL → Prop} {S : a_S} (hS : p_S h 15 S) (hs : a_sok S) {st : Nat} {a1 : Int32} (hst : st ≤ 9) (e1 : a1 = nI st) (hF : F (nI (a_ft st S 9)) h (r_gp p q) z) : r_Ci G m_Si_fitting (d + 2) 61 [.ref (G.2.1 + 15), .int a1] 61 h (r_gp p q) z F := by
  subst e1
  refine r_C_of (by decide +kernel) (Nat.le_of_ble_eq_true rfl) ?_
  refine j_ls (ls' := [(0, _), (1, _)]) rfl ?_
  refine j_iconst (v := 0) d_Si_fitting_0 rfl ?_
  refine j_istore_n (ls' := [(2, _), (0, _), (1, _)]) d_Si_fitting_1 rfl (by decide) rfl ?_
  refine j_iconst (v := 1) d_Si_fitting_2 rfl ?_
  refine j_istore_n (ls' := [(3, _), (2, _), (0, _), (1, _)]) d_Si_fitting_3 rfl (by decide) rfl ?_
  refine j_pick [2, 3, 1, 0] (ls' := [(0, _), (1, _), (2, _), (3, _)]) rfl ?_
  exact l_Si_fitting hS hs hst hF 9 0 _ _ rfl rfl rfl
set_option maxRecDepth 100000 in
set_option maxHeartbeats 4000000 in
theorem c_Ra_hasBit {G : r_X} {d : Nat} {h : r_HI} {p q : Nat} {z : r_HL} {F : Int32 → r_HI → r_HR → r_HL → Prop} {b j : Nat} {a1 a2 : Int32} (hb : b < 2 ^ 31) (hj : j < 31) (e1 : a1 = nI b) (e2 : a2 = nI j) (hF : F (if a_hb b j then 1 else 0) h (r_gp p q) z) : r_Ci G m_Ra_hasBit (d) 61 [.int a1, .int a2] 61 h (r_gp p q) z F := by
  subst e1
  subst e2
  refine r_C_of (by decide +kernel) (Nat.le_of_ble_eq_true rfl) ?_
  refine j_ls (ls' := [(0, _), (1, _)]) rfl ?_
  refine j_iload_n d_Ra_hasBit_0 rfl rfl ?_
  refine j_iload_n d_Ra_hasBit_1 rfl rfl ?_
  refine j_ishr d_Ra_hasBit_2 ?_
  refine j_iconst (v := 1) d_Ra_hasBit_3 rfl ?_
  refine j_iand d_Ra_hasBit_4 ?_
  refine j_if_eq (tgt := 12) d_Ra_hasBit_5 rfl (fun bq1 => ?_) (fun bq1 => ?_)
  · refine j_iconst (v := 0) d_Ra_hasBit_12 rfl ?_
    refine j_zret d_Ra_hasBit_13 rfl (by decide) ?_
    rw [nI_hb hb hj] at bq1
    first
      | exact q_i1 hF (by rw [if_neg (fun e8 => by have e9 := (nI_eq (b := 0) (by omega) (by omega)).mp bq1; simp [a_hb, e9] at e8)])
      | exact q_i1 hF (by rw [if_pos (show a_hb b j = true from by have e9 : ¬ b / 2 ^ j % 2 = 0 := fun e8 => bq1 (by rw [e8]; rfl); simp only [a_hb, decide_eq_true_eq]; omega)])
  · refine j_iconst (v := 1) d_Ra_hasBit_8 rfl ?_
    refine j_goto (tgt := 13) d_Ra_hasBit_9 rfl ?_
    refine j_zret d_Ra_hasBit_13 rfl (by decide) ?_
    rw [nI_hb hb hj] at bq1
    first
      | exact q_i1 hF (by rw [if_neg (fun e8 => by have e9 := (nI_eq (b := 0) (by omega) (by omega)).mp bq1; simp [a_hb, e9] at e8)])
      | exact q_i1 hF (by rw [if_pos (show a_hb b j = true from by have e9 : ¬ b / 2 ^ j % 2 = 0 := fun e8 => bq1 (by rw [e8]; rfl); simp only [a_hb, decide_eq_true_eq]; omega)])
/-- how many of the steps in the bits, from the s-th on, can't be told from the right one -/
def a_wi (b far right : Nat) : Nat → Nat → Nat → Nat
  | 0, _, l => l
  | m + 1, s, l => a_wi b far right m (s + 1) (if a_hb b (s - 1) && decide (a_ds s right * far ≤ 1) then l + 1 else l)
def a_wo (b far : Nat) : Nat → Nat → Nat → Nat
  | 0, _, w => w
  | m + 1, r, w => a_wo b far m (r + 1) (if a_hb b (r - 1) then max w (a_wi b far r 9 1 0) else w)
def a_bt (b : Nat) : Nat → Nat → Nat × Nat → Nat × Nat
  | 0, _, s => s
  | m + 1, r, s => a_bt b m (r + 1) (if a_wo b r 9 1 0 < s.1 then (a_wo b r 9 1 0, r) else s)
theorem a_wi_le (b far right : Nat) : ∀ m s l, a_wi b far right m s l ≤ l + m
  | 0, _, l => Nat.le_refl l
  | m + 1, s, l => by
    unfold a_wi
    refine Nat.le_trans (a_wi_le b far right m (s + 1) _) ?_
    split <;> omega
theorem a_wo_le (b far : Nat) : ∀ m r w, w ≤ 9 → a_wo b far m r w ≤ 9
  | 0, _, w, h => h
  | m + 1, r, w, h => by
    unfold a_wo
    apply a_wo_le
    have := a_wi_le b far r 9 1 0
    split
    · exact Nat.max_le.mpr ⟨h, by omega⟩
    · exact h
set_option maxRecDepth 100000 in
set_option maxHeartbeats 4000000 in
theorem l_Ra_worstLeft1 {G : r_X} {d : Nat} {h : r_HI} {p q : Nat} {z : r_HL} {F : Int32 → r_HI → r_HR → r_HL → Prop} {b far right w0 : Nat} {wv : Int32} (hb : b < 2 ^ 31) (hfar : far ≤ 9) (hr : right ≤ 9)
    (hE : ∀ lv : Int32, ∀ v : Int32, lv = nI w0 → r_TM G m_Ra_worstLeft (d + 1) 61 61 (fun v h' g' z' => ∃ r, v = some (.int r) ∧ F r h' g' z') 69 [(0, .int (nI b)), (1, .int (nI far)), (2, .int wv), (3, .int (nI right)), (4, .int lv), (5, .int v)] [] 61 h (r_gp p q) z) : ∀ (e s : Nat) (v lv : Int32) (l : Nat), e + s = 10 → 1 ≤ s → v = nI s → lv = nI l → a_wi b far right e s l = w0 → r_TM G m_Ra_worstLeft (d + 1) 61 61 (fun v h' g' z' => ∃ r, v = some (.int r) ∧ F r h' g' z') 29 [(0, .int (nI b)), (1, .int (nI far)), (2, .int wv), (3, .int (nI right)), (4, .int lv), (5, .int v)] [] 61 h (r_gp p q) z := by
  intro e
  induction e with
  | zero =>
    intro s v lv l he h1 hv hlv hl
    subst hv
    refine j_iload d_Ra_worstLeft_29 rfl ?_
    refine j_bipush (v := 9) d_Ra_worstLeft_31 (by decide) ?_
    refine j_icmp_gt (tgt := 69) d_Ra_worstLeft_33 rfl (fun bq1 => ?_) (fun bq1 => False.elim (bq1 (nI_lt (a := 9) (by omega) (by omega))))
    exact hE _ _ (by rw [hlv, ← hl, a_wi])
  | succ e ih =>
    intro s v lv l he h1 hv hlv hl
    subst hv
    have hdm : a_ds s right * far ≤ 9 * 9 := Nat.mul_le_mul (by unfold a_ds; split <;> omega) hfar
    refine j_iload d_Ra_worstLeft_29 rfl ?_
    refine j_bipush (v := 9) d_Ra_worstLeft_31 (by decide) ?_
    refine j_icmp_gt (tgt := 69) d_Ra_worstLeft_33 rfl (fun bq1 => False.elim (nI_nlt (a := 9) (by omega) (by omega) bq1)) (fun bq1 => ?_)
    refine j_iload_n d_Ra_worstLeft_36 rfl rfl ?_
    refine j_iload d_Ra_worstLeft_37 rfl ?_
    refine j_iconst (v := 1) d_Ra_worstLeft_39 rfl ?_
    refine j_isub d_Ra_worstLeft_40 ?_
    refine q_i s_Ra_worstLeft_41 rfl (Nat.le_of_ble_eq_true rfl) (Nat.le_of_ble_eq_true rfl) ?_
    refine c_Ra_hasBit (j := s - 1) hb (by omega) rfl (by rw [show (1 : Int32) = nI 1 from rfl, pk_sub (by omega)]) ?_
    refine j_if_eq (tgt := 63) d_Ra_worstLeft_44 rfl (fun bq2 => ?_) (fun bq2 => ?_)
    · refine j_iinc (ls' := [(5, _), (0, _), (1, _), (2, _), (3, _), (4, _)]) d_Ra_worstLeft_63 rfl (by decide) rfl ?_
      refine j_goto (tgt := 29) d_Ra_worstLeft_66 rfl ?_
      refine j_pick [1, 2, 3, 4, 5, 0] (ls' := [(0, _), (1, _), (2, _), (3, _), (4, _), (5, _)]) rfl ?_
      first
        | (have e9 := t10.mp bq2
           refine ih (s + 1) _ _ l (by omega) (by omega) (nI_inc s) hlv (by rw [a_wi, if_neg (by simp [e9])] at hl; exact hl))
        | (have e9 : a_hb b (s - 1) = true := Decidable.byContradiction (fun e8 => bq2 (t10.mpr e8))
           rw [pk_mul] at bq3
           have e7 := (nI_ltI (a := 1) (by omega) (by omega)).mp bq3
           refine ih (s + 1) _ _ l (by omega) (by omega) (nI_inc s) hlv (by rw [a_wi, if_neg (by simp [e9]; omega)] at hl; exact hl))
        | (have e9 : a_hb b (s - 1) = true := Decidable.byContradiction (fun e8 => bq2 (t10.mpr e8))
           rw [pk_mul] at bq3
           have e7 : ¬ 1 < a_ds s right * far := fun e8 => bq3 ((nI_ltI (a := 1) (by omega) (by omega)).mpr e8)
           refine ih (s + 1) _ _ (l + 1) (by omega) (by omega) (nI_inc s) (by rw [hlv]; exact nI_inc l) (by rw [a_wi, if_pos (by simp [e9]; omega)] at hl; exact hl))
    · refine j_iload d_Ra_worstLeft_47 rfl ?_
      refine j_iload_n d_Ra_worstLeft_49 rfl rfl ?_
      refine j_isub d_Ra_worstLeft_50 ?_
      refine q_i s_Ra_worstLeft_51 rfl (Nat.le_of_ble_eq_true rfl) (Nat.le_of_ble_eq_true rfl) ?_
      refine c_Jm_abs ?_
      rw [a_dsI (by omega) (by omega)]
      refine j_iload_n d_Ra_worstLeft_54 rfl rfl ?_
      refine j_imul d_Ra_worstLeft_55 ?_
      refine j_iconst (v := 1) d_Ra_worstLeft_56 rfl ?_
      refine j_icmp_gt (tgt := 63) d_Ra_worstLeft_57 rfl (fun bq3 => ?_) (fun bq3 => ?_)
      · refine j_iinc (ls' := [(5, _), (0, _), (1, _), (2, _), (3, _), (4, _)]) d_Ra_worstLeft_63 rfl (by decide) rfl ?_
        refine j_goto (tgt := 29) d_Ra_worstLeft_66 rfl ?_
        refine j_pick [1, 2, 3, 4, 5, 0] (ls' := [(0, _), (1, _), (2, _), (3, _), (4, _), (5, _)]) rfl ?_
        first
          | (have e9 := t10.mp bq2
             refine ih (s + 1) _ _ l (by omega) (by omega) (nI_inc s) hlv (by rw [a_wi, if_neg (by simp [e9])] at hl; exact hl))
          | (have e9 : a_hb b (s - 1) = true := Decidable.byContradiction (fun e8 => bq2 (t10.mpr e8))
             rw [pk_mul] at bq3
             have e7 := (nI_ltI (a := 1) (by omega) (by omega)).mp bq3
             refine ih (s + 1) _ _ l (by omega) (by omega) (nI_inc s) hlv (by rw [a_wi, if_neg (by simp [e9]; omega)] at hl; exact hl))
          | (have e9 : a_hb b (s - 1) = true := Decidable.byContradiction (fun e8 => bq2 (t10.mpr e8))
             rw [pk_mul] at bq3
             have e7 : ¬ 1 < a_ds s right * far := fun e8 => bq3 ((nI_ltI (a := 1) (by omega) (by omega)).mpr e8)
             refine ih (s + 1) _ _ (l + 1) (by omega) (by omega) (nI_inc s) (by rw [hlv]; exact nI_inc l) (by rw [a_wi, if_pos (by simp [e9]; omega)] at hl; exact hl))
      · refine j_iinc (ls' := [(4, _), (0, _), (1, _), (2, _), (3, _), (5, _)]) d_Ra_worstLeft_60 rfl (by decide) rfl ?_
        refine j_iinc (ls' := [(5, _), (4, _), (0, _), (1, _), (2, _), (3, _)]) d_Ra_worstLeft_63 rfl (by decide) rfl ?_
        refine j_goto (tgt := 29) d_Ra_worstLeft_66 rfl ?_
        refine j_pick [2, 3, 4, 5, 1, 0] (ls' := [(0, _), (1, _), (2, _), (3, _), (4, _), (5, _)]) rfl ?_
        first
          | (have e9 := t10.mp bq2
             refine ih (s + 1) _ _ l (by omega) (by omega) (nI_inc s) hlv (by rw [a_wi, if_neg (by simp [e9])] at hl; exact hl))
          | (have e9 : a_hb b (s - 1) = true := Decidable.byContradiction (fun e8 => bq2 (t10.mpr e8))
             rw [pk_mul] at bq3
             have e7 := (nI_ltI (a := 1) (by omega) (by omega)).mp bq3
             refine ih (s + 1) _ _ l (by omega) (by omega) (nI_inc s) hlv (by rw [a_wi, if_neg (by simp [e9]; omega)] at hl; exact hl))
          | (have e9 : a_hb b (s - 1) = true := Decidable.byContradiction (fun e8 => bq2 (t10.mpr e8))
             rw [pk_mul] at bq3
             have e7 : ¬ 1 < a_ds s right * far := fun e8 => bq3 ((nI_ltI (a := 1) (by omega) (by omega)).mpr e8)
             refine ih (s + 1) _ _ (l + 1) (by omega) (by omega) (nI_inc s) (by rw [hlv]; exact nI_inc l) (by rw [a_wi, if_pos (by simp [e9]; omega)] at hl; exact hl))
set_option maxRecDepth 100000 in
set_option maxHeartbeats 4000000 in
theorem l_Ra_worstLeft {G : r_X} {d : Nat} {h : r_HI} {p q : Nat} {z : r_HL} {F : Int32 → r_HI → r_HR → r_HL → Prop} {b far w0 : Nat} (hb : b < 2 ^ 31) (hfar : far ≤ 9) (hF : F (nI w0) h (r_gp p q) z) : ∀ (e r : Nat) (v wv : Int32) (w : Nat), e + r = 10 → 1 ≤ r → v = nI r → wv = nI w → w ≤ 9 → a_wo b far e r w = w0 → r_TM G m_Ra_worstLeft (d + 1) 61 61 (fun v h' g' z' => ∃ r, v = some (.int r) ∧ F r h' g' z') 4 [(0, .int (nI b)), (1, .int (nI far)), (2, .int wv), (3, .int v)] [] 61 h (r_gp p q) z := by
  intro e
  induction e with
  | zero =>
    intro r v wv w he h1 hv hwv hw9 hw
    subst hv
    refine j_iload_n d_Ra_worstLeft_4 rfl rfl ?_
    refine j_bipush (v := 9) d_Ra_worstLeft_5 (by decide) ?_
    refine j_icmp_gt (tgt := 82) d_Ra_worstLeft_7 rfl (fun bq1 => ?_) (fun bq1 => False.elim (bq1 (nI_lt (a := 9) (by omega) (by omega))))
    refine j_iload_n d_Ra_worstLeft_82 rfl rfl ?_
    refine j_iret d_Ra_worstLeft_83 rfl ?_
    exact q_i1 hF (by rw [hwv, ← hw, a_wo])
  | succ e ih =>
    intro r v wv w he h1 hv hwv hw9 hw
    subst hv
    refine j_iload_n d_Ra_worstLeft_4 rfl rfl ?_
    refine j_bipush (v := 9) d_Ra_worstLeft_5 (by decide) ?_
    refine j_icmp_gt (tgt := 82) d_Ra_worstLeft_7 rfl (fun bq1 => False.elim (nI_nlt (a := 9) (by omega) (by omega) bq1)) (fun bq1 => ?_)
    refine j_iload_n d_Ra_worstLeft_10 rfl rfl ?_
    refine j_iload_n d_Ra_worstLeft_11 rfl rfl ?_
    refine j_iconst (v := 1) d_Ra_worstLeft_12 rfl ?_
    refine j_isub d_Ra_worstLeft_13 ?_
    refine q_i s_Ra_worstLeft_14 rfl (Nat.le_of_ble_eq_true rfl) (Nat.le_of_ble_eq_true rfl) ?_
    refine c_Ra_hasBit (j := r - 1) hb (by omega) rfl (by rw [show (1 : Int32) = nI 1 from rfl, pk_sub (by omega)]) ?_
    refine j_if_ne (tgt := 23) d_Ra_worstLeft_17 rfl (fun bq2 => ?_) (fun bq2 => ?_)
    · refine j_iconst (v := 0) d_Ra_worstLeft_23 rfl ?_
      refine j_istore (ls' := [(4, _), (0, _), (1, _), (2, _), (3, _)]) d_Ra_worstLeft_24 (by decide) rfl ?_
      refine j_iconst (v := 1) d_Ra_worstLeft_26 rfl ?_
      refine j_istore (ls' := [(5, _), (4, _), (0, _), (1, _), (2, _), (3, _)]) d_Ra_worstLeft_27 (by decide) rfl ?_
      refine j_pick [2, 3, 4, 5, 1, 0] (ls' := [(0, _), (1, _), (2, _), (3, _), (4, _), (5, _)]) rfl ?_
      have e9 : a_hb b (r - 1) = true := Decidable.byContradiction (fun e8 => bq2 (t10.mpr e8))
      refine l_Ra_worstLeft1 hb hfar (by omega) (fun lv v hl2 => ?_) 9 1 _ _ 0 rfl (by omega) rfl rfl rfl
      refine j_iload_n d_Ra_worstLeft_69 rfl rfl ?_
      refine j_iload d_Ra_worstLeft_70 rfl ?_
      refine q_i s_Ra_worstLeft_72 rfl (Nat.le_of_ble_eq_true rfl) (Nat.le_of_ble_eq_true rfl) ?_
      refine c_Jm_max ?_
      refine j_istore_n (ls' := [(2, _), (0, _), (1, _), (3, _), (4, _), (5, _)]) d_Ra_worstLeft_75 rfl (by decide) rfl ?_
      refine j_iinc (ls' := [(3, _), (2, _), (0, _), (1, _), (4, _), (5, _)]) d_Ra_worstLeft_76 rfl (by decide) rfl ?_
      refine j_goto (tgt := 4) d_Ra_worstLeft_79 rfl ?_
      refine j_pick [2, 3, 1, 0] (ls' := [(0, _), (1, _), (2, _), (3, _)]) rfl ?_
      have hwl := a_wi_le b far r 9 1 0
      refine ih (r + 1) _ _ (max w (a_wi b far r 9 1 0)) (by omega) (by omega) (nI_inc r) ?_ (Nat.max_le.mpr ⟨hw9, by omega⟩) (by rw [a_wo, if_pos e9] at hw; exact hw)
      rw [hwv, hl2]
      by_cases e7 : w < a_wi b far r 9 1 0
      · rw [if_pos (nI_lt e7 (by omega)), Nat.max_eq_right (by omega)]
      · rw [if_neg (nI_nlt (by omega) (by omega)), Nat.max_eq_left (by omega)]
    · refine j_goto (tgt := 76) d_Ra_worstLeft_20 rfl ?_
      refine j_iinc (ls' := [(3, _), (0, _), (1, _), (2, _)]) d_Ra_worstLeft_76 rfl (by decide) rfl ?_
      refine j_goto (tgt := 4) d_Ra_worstLeft_79 rfl ?_
      refine j_pick [1, 2, 3, 0] (ls' := [(0, _), (1, _), (2, _), (3, _)]) rfl ?_
      have e9 := t10.mp bq2
      refine ih (r + 1) _ _ w (by omega) (by omega) (nI_inc r) hwv hw9 (by rw [a_wo, if_neg e9] at hw; exact hw)
set_option maxRecDepth 100000 in
set_option maxHeartbeats 4000000 in
theorem c_Ra_worstLeft {G : r_X} {d : Nat} {h : r_HI} {p q : Nat} {z : r_HL} {F : Int32 → r_HI → r_HR → r_HL → Prop} {b far : Nat} {a1 a2 : Int32} (hb : b < 2 ^ 31) (hfar : far ≤ 9) (e1 : a1 = nI b) (e2 : a2 = nI far) (hF : F (nI (a_wo b far 9 1 0)) h (r_gp p q) z) : r_Ci G m_Ra_worstLeft (d + 1) 61 [.int a1, .int a2] 61 h (r_gp p q) z F := by
  subst e1
  subst e2
  refine r_C_of (by decide +kernel) (Nat.le_of_ble_eq_true rfl) ?_
  refine j_ls (ls' := [(0, _), (1, _)]) rfl ?_
  refine j_iconst (v := 0) d_Ra_worstLeft_0 rfl ?_
  refine j_istore_n (ls' := [(2, _), (0, _), (1, _)]) d_Ra_worstLeft_1 rfl (by decide) rfl ?_
  refine j_iconst (v := 1) d_Ra_worstLeft_2 rfl ?_
  refine j_istore_n (ls' := [(3, _), (2, _), (0, _), (1, _)]) d_Ra_worstLeft_3 rfl (by decide) rfl ?_
  refine j_pick [2, 3, 1, 0] (ls' := [(0, _), (1, _), (2, _), (3, _)]) rfl ?_
  exact l_Ra_worstLeft hb hfar hF 9 1 _ _ 0 rfl (by omega) rfl rfl (by omega) rfl
def a_mi (r : Nat) : Int32 := if r = 0 then -1 else nI r
set_option maxRecDepth 100000 in
set_option maxHeartbeats 4000000 in
theorem l_Ra_bestTry {G : r_X} {d : Nat} {h : r_HI} {p q : Nat} {z : r_HL} {F : Int32 → r_HI → r_HR → r_HL → Prop} {b : Nat} {s0 : Nat × Nat} (hb : b < 2 ^ 31) (hb0 : 0 < b) (hF : F (a_mi s0.2) h (r_gp p q) z) : ∀ (e r : Nat) (v bv fv : Int32) (s : Nat × Nat), e + r = 10 → 1 ≤ r → v = nI r → fv = nI s.1 → bv = a_mi s.2 → s.1 ≤ 10 → a_bt b e r s = s0 → r_TM G m_Ra_bestTry (d + 2) 61 61 (fun v h' g' z' => ∃ r, v = some (.int r) ∧ F r h' g' z') 7 [(0, .int (nI b)), (1, .int bv), (2, .int fv), (3, .int v)] [] 61 h (r_gp p q) z := by
  intro e
  induction e with
  | zero =>
    intro r v bv fv s he h1 hv hfv hbv hs10 hs
    subst hv
    refine j_iload_n d_Ra_bestTry_7 rfl rfl ?_
    refine j_bipush (v := 9) d_Ra_bestTry_8 (by decide) ?_
    refine j_icmp_gt (tgt := 41) d_Ra_bestTry_10 rfl (fun bq1 => ?_) (fun bq1 => False.elim (bq1 (nI_lt (a := 9) (by omega) (by omega))))
    refine j_iload_n d_Ra_bestTry_41 rfl rfl ?_
    refine j_iret d_Ra_bestTry_42 rfl ?_
    exact q_i1 hF (by rw [hbv, ← hs, a_bt])
  | succ e ih =>
    intro r v bv fv s he h1 hv hfv hbv hs10 hs
    subst hv
    refine j_iload_n d_Ra_bestTry_7 rfl rfl ?_
    refine j_bipush (v := 9) d_Ra_bestTry_8 (by decide) ?_
    refine j_icmp_gt (tgt := 41) d_Ra_bestTry_10 rfl (fun bq1 => False.elim (nI_nlt (a := 9) (by omega) (by omega) bq1)) (fun bq1 => ?_)
    refine j_iload_n d_Ra_bestTry_13 rfl rfl ?_
    refine j_if_eq (tgt := 41) d_Ra_bestTry_14 rfl (fun bq2 => False.elim (nI_ne0 (n := b) (by omega) (by omega) bq2)) (fun bq2 => ?_)
    refine j_iload_n d_Ra_bestTry_17 rfl rfl ?_
    refine j_iload_n d_Ra_bestTry_18 rfl rfl ?_
    refine q_i s_Ra_bestTry_19 rfl (Nat.le_of_ble_eq_true rfl) (Nat.le_of_ble_eq_true rfl) ?_
    refine c_Ra_worstLeft hb (by omega) rfl rfl ?_
    refine j_istore (ls' := [(4, _), (0, _), (1, _), (2, _), (3, _)]) d_Ra_bestTry_22 (by decide) rfl ?_
    refine j_iload d_Ra_bestTry_24 rfl ?_
    refine j_iload_n d_Ra_bestTry_26 rfl rfl ?_
    refine j_icmp_ge (tgt := 35) d_Ra_bestTry_27 rfl (fun bq3 => ?_) (fun bq3 => ?_)
    · refine j_iinc (ls' := [(3, _), (4, _), (0, _), (1, _), (2, _)]) d_Ra_bestTry_35 rfl (by decide) rfl ?_
      refine j_goto (tgt := 7) d_Ra_bestTry_38 rfl ?_
      refine j_pick [2, 3, 4, 0] (ls' := [(0, _), (1, _), (2, _), (3, _)]) rfl ?_
      have hwo := a_wo_le b r 9 1 0 (by omega)
      rw [hfv] at bq3
      first
        | (have e7 : ¬ a_wo b r 9 1 0 < s.1 := fun e8 => nI_ge e8 (by omega) bq3
           refine ih (r + 1) _ _ _ s (by omega) (by omega) (nI_inc r) hfv hbv hs10 (by rw [a_bt, if_neg e7] at hs; exact hs))
        | (have e7 : a_wo b r 9 1 0 < s.1 := Decidable.byContradiction (fun e8 => bq3 (nI_le (by omega) (by omega)))
           refine ih (r + 1) _ _ _ (a_wo b r 9 1 0, r) (by omega) (by omega) (nI_inc r) rfl (by rw [a_mi, if_neg (by omega)]) (by omega) (by rw [a_bt, if_pos e7] at hs; exact hs))
    · refine j_iload d_Ra_bestTry_30 rfl ?_
      refine j_istore_n (ls' := [(2, _), (4, _), (0, _), (1, _), (3, _)]) d_Ra_bestTry_32 rfl (by decide) rfl ?_
      refine j_iload_n d_Ra_bestTry_33 rfl rfl ?_
      refine j_istore_n (ls' := [(1, _), (2, _), (4, _), (0, _), (3, _)]) d_Ra_bestTry_34 rfl (by decide) rfl ?_
      refine j_iinc (ls' := [(3, _), (1, _), (2, _), (4, _), (0, _)]) d_Ra_bestTry_35 rfl (by decide) rfl ?_
      refine j_goto (tgt := 7) d_Ra_bestTry_38 rfl ?_
      refine j_pick [4, 1, 2, 0] (ls' := [(0, _), (1, _), (2, _), (3, _)]) rfl ?_
      have hwo := a_wo_le b r 9 1 0 (by omega)
      rw [hfv] at bq3
      first
        | (have e7 : ¬ a_wo b r 9 1 0 < s.1 := fun e8 => nI_ge e8 (by omega) bq3
           refine ih (r + 1) _ _ _ s (by omega) (by omega) (nI_inc r) hfv hbv hs10 (by rw [a_bt, if_neg e7] at hs; exact hs))
        | (have e7 : a_wo b r 9 1 0 < s.1 := Decidable.byContradiction (fun e8 => bq3 (nI_le (by omega) (by omega)))
           refine ih (r + 1) _ _ _ (a_wo b r 9 1 0, r) (by omega) (by omega) (nI_inc r) rfl (by rw [a_mi, if_neg (by omega)]) (by omega) (by rw [a_bt, if_pos e7] at hs; exact hs))
set_option maxRecDepth 100000 in
set_option maxHeartbeats 4000000 in
theorem c_Ra_bestTry {G : r_X} {d : Nat} {h : r_HI} {p q : Nat} {z : r_HL} {F : Int32 → r_HI → r_HR → r_HL → Prop} {b : Nat} {a1 : Int32} (hb : b < 2 ^ 31) (e1 : a1 = nI b) (hF : F (if b = 0 then -1 else a_mi (a_bt b 9 1 (10, 0)).2) h (r_gp p q) z) : r_Ci G m_Ra_bestTry (d + 2) 61 [.int a1] 61 h (r_gp p q) z F := by
  subst e1
  refine r_C_of (by decide +kernel) (Nat.le_of_ble_eq_true rfl) ?_
  refine j_ls (ls' := [(0, _)]) rfl ?_
  refine j_iconst (v := (-1)) d_Ra_bestTry_0 rfl ?_
  refine j_istore_n (ls' := [(1, _), (0, _)]) d_Ra_bestTry_1 rfl (by decide) rfl ?_
  refine j_bipush (v := 10) d_Ra_bestTry_2 (by decide) ?_
  refine j_istore_n (ls' := [(2, _), (1, _), (0, _)]) d_Ra_bestTry_4 rfl (by decide) rfl ?_
  refine j_iconst (v := 1) d_Ra_bestTry_5 rfl ?_
  refine j_istore_n (ls' := [(3, _), (2, _), (1, _), (0, _)]) d_Ra_bestTry_6 rfl (by decide) rfl ?_
  refine j_pick [3, 2, 1, 0] (ls' := [(0, _), (1, _), (2, _), (3, _)]) rfl ?_
  by_cases e9 : b = 0
  · subst e9
    rw [if_pos rfl] at hF
    refine j_iload_n d_Ra_bestTry_7 rfl rfl ?_
    refine j_bipush (v := 9) d_Ra_bestTry_8 (by decide) ?_
    refine j_icmp_gt (tgt := 41) d_Ra_bestTry_10 rfl (fun c9 => absurd c9 (by decide)) (fun c9 => ?_)
    refine j_iload_n d_Ra_bestTry_13 rfl rfl ?_
    refine j_if_eq (tgt := 41) d_Ra_bestTry_14 rfl (fun c8 => ?_) (fun c8 => absurd rfl c8)
    refine j_iload_n d_Ra_bestTry_41 rfl rfl ?_
    refine j_iret d_Ra_bestTry_42 rfl ?_
    exact q_i1 hF rfl
  · rw [if_neg e9] at hF
    exact l_Ra_bestTry hb (by omega) hF 9 1 _ _ _ (10, 0) rfl (by omega) rfl rfl rfl (by omega) rfl
