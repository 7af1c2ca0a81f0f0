set_option maxRecDepth 100000 in
set_option maxHeartbeats 4000000 in
theorem c_Di_has {G : r_X} {d : Nat} {h : r_HI} {p q : Nat} {z : r_HL} {F : Int32 → r_HI → r_HR → r_HL → Prop} {x : Int32} (hF : F (if 0 ≤ x ∧ x < h 3 3 then 1 else 0) h (r_gp p q) z) : r_Ci G m_Di_has (d) 61 [.ref (G.2.1 + 3), .int x] 61 h (r_gp p q) z F := by
  refine r_C_of (by decide +kernel) (Nat.le_of_ble_eq_true rfl) ?_
  refine j_ls (ls' := [(0, _), (1, _)]) rfl ?_
  refine j_iload_n d_Di_has_0 rfl rfl ?_
  refine j_if_lt (tgt := 16) d_Di_has_1 rfl (fun bq1 => ?_) (fun bq1 => ?_)
  · refine j_iconst (v := 0) d_Di_has_16 rfl ?_
    refine j_zret d_Di_has_17 rfl (by decide) ?_
    exact q_i1 hF (by first | rw [if_pos ‹_›] | rw [if_neg ‹_›] | (simp only [Int32.lt_iff_toInt_lt, Int32.le_iff_toInt_le] at *; first | rw [if_pos (by omega)] | rw [if_neg (by omega)]))
  · refine j_iload_n d_Di_has_4 rfl rfl ?_
    refine j_aload_n d_Di_has_5 rfl rfl ?_
    refine j_geti d_Di_has_6 f_Di_21 rfl rfl (by decide) ?_
    refine j_icmp_ge (tgt := 16) d_Di_has_9 rfl (fun bq2 => ?_) (fun bq2 => ?_)
    · refine j_iconst (v := 0) d_Di_has_16 rfl ?_
      refine j_zret d_Di_has_17 rfl (by decide) ?_
      exact q_i1 hF (by first | rw [if_pos ‹_›] | rw [if_neg ‹_›] | (simp only [Int32.lt_iff_toInt_lt, Int32.le_iff_toInt_le] at *; first | rw [if_pos (by omega)] | rw [if_neg (by omega)]))
    · refine j_iconst (v := 1) d_Di_has_12 rfl ?_
      refine j_goto (tgt := 17) d_Di_has_13 rfl ?_
      refine j_zret d_Di_has_17 rfl (by decide) ?_
      exact q_i1 hF (by first | rw [if_pos ‹_›] | rw [if_neg ‹_›] | (simp only [Int32.lt_iff_toInt_lt, Int32.le_iff_toInt_le] at *; first | rw [if_pos (by omega)] | rw [if_neg (by omega)]))
set_option maxRecDepth 100000 in
set_option maxHeartbeats 4000000 in
theorem c_Di_travel {G : r_X} {d : Nat} {h : r_HI} {p q : Nat} {z : r_HL} {F : Int32 → r_HI → r_HR → r_HL → Prop} {D : a_D} (hD : p_D h 3 D) (ho : a_dok D) {x y : Nat} {a b : Int32} (hx : x < 10) (hy : y < 10) (ha : a = nI x) (hb : b = nI y) (hF : F (nI (a_tr D x y)) h (r_gp p q) z) : r_Ci G m_Di_travel (d) 61 [.ref (G.2.1 + 3), .int a, .int b] 61 h (r_gp p q) z F := by
  subst ha
  subst hb
  refine r_C_of (by decide +kernel) (Nat.le_of_ble_eq_true rfl) ?_
  refine j_ls (ls' := [(0, _), (1, _), (2, _)]) rfl ?_
  refine j_iload_n d_Di_travel_0 rfl rfl ?_
  refine j_iload_n d_Di_travel_1 rfl rfl ?_
  refine j_icmp_ne (tgt := 7) d_Di_travel_2 rfl (fun bq1 => ?_) (fun bq1 => ?_)
  · refine j_aload_n d_Di_travel_7 rfl rfl ?_
    refine j_geti d_Di_travel_8 f_Di_25 rfl rfl (by decide) ?_
    refine j_aload_n d_Di_travel_11 rfl rfl ?_
    refine j_geti d_Di_travel_12 f_Di_28 rfl rfl (by decide) ?_
    refine j_iload_n d_Di_travel_15 rfl rfl ?_
    refine j_iload_n d_Di_travel_16 rfl rfl ?_
    refine j_icmp_ge (tgt := 26) d_Di_travel_17 rfl (fun bq2 => ?_) (fun bq2 => ?_)
    · refine j_iload_n d_Di_travel_26 rfl rfl ?_
      refine j_iload_n d_Di_travel_27 rfl rfl ?_
      refine j_isub d_Di_travel_28 ?_
      refine j_imul d_Di_travel_29 ?_
      refine j_iadd d_Di_travel_30 ?_
      refine j_iret d_Di_travel_31 rfl ?_
      first
        | (have c3 := (nI_leI (by omega) (by omega)).mp bq2; have c4 : ¬ x = y := fun e => bq1 (by rw [e]); exact q_i1 hF (by rw [hD.2.1, hD.2.2.1, pk_sub c3, pk_mul, nI_add, a_tr, if_neg c4, if_neg (by omega)]))
        | (have c3 : ¬ y ≤ x := fun e => bq2 ((nI_leI (by omega) (by omega)).mpr e); have c4 : ¬ x = y := fun e => bq1 (by rw [e]); exact q_i1 hF (by rw [hD.2.1, hD.2.2.1, pk_sub (by omega), pk_mul, nI_add, a_tr, if_neg c4, if_pos (by omega)]))
    · refine j_iload_n d_Di_travel_20 rfl rfl ?_
      refine j_iload_n d_Di_travel_21 rfl rfl ?_
      refine j_isub d_Di_travel_22 ?_
      refine j_goto (tgt := 29) d_Di_travel_23 rfl ?_
      refine j_imul d_Di_travel_29 ?_
      refine j_iadd d_Di_travel_30 ?_
      refine j_iret d_Di_travel_31 rfl ?_
      first
        | (have c3 := (nI_leI (by omega) (by omega)).mp bq2; have c4 : ¬ x = y := fun e => bq1 (by rw [e]); exact q_i1 hF (by rw [hD.2.1, hD.2.2.1, pk_sub c3, pk_mul, nI_add, a_tr, if_neg c4, if_neg (by omega)]))
        | (have c3 : ¬ y ≤ x := fun e => bq2 ((nI_leI (by omega) (by omega)).mpr e); have c4 : ¬ x = y := fun e => bq1 (by rw [e]); exact q_i1 hF (by rw [hD.2.1, hD.2.2.1, pk_sub (by omega), pk_mul, nI_add, a_tr, if_neg c4, if_pos (by omega)]))
  · refine j_iconst (v := 0) d_Di_travel_5 rfl ?_
    refine j_iret d_Di_travel_6 rfl ?_
    exact q_i1 hF (by rw [a_tr, if_pos ((nI_eq (by omega) (by omega)).mp bq1)]; rfl)
set_option maxRecDepth 100000 in
set_option maxHeartbeats 4000000 in
theorem c_Di_doneAt {G : r_X} {d : Nat} {h : r_HI} {p q : Nat} {z : r_HL} {F : Int32 → r_HI → r_HR → r_HL → Prop} {D : a_D} (hD : p_D h 3 D) (ho : a_dok D) {t x r w : Nat} {a1 a2 a3 a4 : Int32} (ht : t < 2 ^ 27) (hx : x < 10) (hr : r < D.1) (hw : w < D.2.2.2.1 r) (e1 : a1 = nI t) (e2 : a2 = nI x) (e3 : a3 = nI r) (e4 : a4 = nI w) (hF : F (nI (a_dn D t x r w)) h (r_gp p q) z) : r_Ci G m_Di_doneAt (d + 1) 61 [.ref (G.2.1 + 3), .int a1, .int a2, .int a3, .int a4] 61 h (r_gp p q) z F := by
  subst e1
  subst e2
  subst e3
  subst e4
  have h10 := ho.1
  have hl : h 6 r = nI (24 / D.2.2.2.1 r) := (hD.2.2.2 r hr).2.2
  have hf : h 5 r = nI (D.2.2.2.2 r) := (hD.2.2.2 r hr).2.1
  have hf2 := (ho.2.2.2 r hr).2
  have hm := a_pls_mul (ho.2.2.2 r hr).1 hw
  have htr := a_tr_le ho hx (show r < 10 by omega)
  refine r_C_of (by decide +kernel) (Nat.le_of_ble_eq_true rfl) ?_
  refine j_ls (ls' := [(0, _), (1, _), (2, _), (3, _), (4, _)]) rfl ?_
  refine j_aload_n d_Di_doneAt_0 rfl rfl ?_
  refine j_getr d_Di_doneAt_1 f_Di_18 rfl rfl (by decide) rfl ?_
  refine j_iload_n d_Di_doneAt_4 rfl rfl ?_
  refine q_i s_Di_doneAt_5 rfl (Nat.le_of_ble_eq_true rfl) (Nat.le_of_ble_eq_true rfl) ?_
  refine c_Ra_av (j := r) rfl (by decide) rfl (by omega) hl ?_
  refine j_istore (ls' := [(5, _), (0, _), (1, _), (2, _), (3, _), (4, _)]) d_Di_doneAt_8 (by decide) rfl ?_
  refine j_iload_n d_Di_doneAt_10 rfl rfl ?_
  refine j_aload_n d_Di_doneAt_11 rfl rfl ?_
  refine j_iload_n d_Di_doneAt_12 rfl rfl ?_
  refine j_iload_n d_Di_doneAt_13 rfl rfl ?_
  refine q_i (s_Di_doneAt_14 rfl (by decide)) rfl (Nat.le_of_ble_eq_true rfl) (Nat.le_of_ble_eq_true rfl) ?_
  refine c_Di_travel hD ho hx (by omega) rfl rfl ?_
  refine j_iadd d_Di_doneAt_17 ?_
  refine j_istore (ls' := [(6, _), (5, _), (0, _), (1, _), (2, _), (3, _), (4, _)]) d_Di_doneAt_18 (by decide) rfl ?_
  refine j_aload_n d_Di_doneAt_20 rfl rfl ?_
  refine j_getr d_Di_doneAt_21 f_Di_15 rfl rfl (by decide) rfl ?_
  refine j_iload_n d_Di_doneAt_24 rfl rfl ?_
  refine q_i s_Di_doneAt_25 rfl (Nat.le_of_ble_eq_true rfl) (Nat.le_of_ble_eq_true rfl) ?_
  refine c_Ra_av (j := r) rfl (by decide) rfl (by omega) hf ?_
  refine j_iload d_Di_doneAt_28 rfl ?_
  refine j_iload d_Di_doneAt_30 rfl ?_
  refine j_imul d_Di_doneAt_32 ?_
  refine j_iadd d_Di_doneAt_33 ?_
  refine j_istore (ls' := [(7, _), (6, _), (5, _), (0, _), (1, _), (2, _), (3, _), (4, _)]) d_Di_doneAt_34 (by decide) rfl ?_
  refine j_iload d_Di_doneAt_36 rfl ?_
  refine j_iload d_Di_doneAt_38 rfl ?_
  refine j_iload d_Di_doneAt_40 rfl ?_
  refine j_isub d_Di_doneAt_42 ?_
  refine j_bipush (v := 24) d_Di_doneAt_43 (by decide) ?_
  refine q_i s_Di_doneAt_45 rfl (Nat.le_of_ble_eq_true rfl) (Nat.le_of_ble_eq_true rfl) ?_
  refine c_Jm_floorMod ?_
  refine j_iadd d_Di_doneAt_48 ?_
  refine j_iload d_Di_doneAt_49 rfl ?_
  refine j_iadd d_Di_doneAt_51 ?_
  refine j_iret d_Di_doneAt_52 rfl ?_
  exact q_i1 hF (by rw [pk_mul]; exact a_dnI (by omega) (by omega))
theorem a_gtI {n th gap : Nat} (h2 : 2 ≤ n) (h12 : 24 / n ≤ 12) (hth : th < 24) (hg : gap < 12) : (nI n - 1) * (nI (24 / n) + nI th + iI ((nI gap * nI (24 / n) - (nI (24 / n) + nI th)).toInt % 24)) + nI (24 / n) = nI (a_gt n th gap) := by
  have h3 : gap * (24 / n) ≤ 12 * 12 := Nat.mul_le_mul (by omega) h12
  unfold a_gt
  generalize 24 / n = l at *
  rw [show (1 : Int32) = nI 1 from rfl, pk_sub (by omega), pk_mul]
  generalize gap * l = gl at *
  rw [show nI l + nI th + iI ((nI gl - (nI l + nI th)).toInt % 24) = nI (l + th + (gl + 23 * (l + th)) % 24) from by
    simp only [iI_n, iI_add, iI_sub]
    rw [iI_to (by omega) (by omega)]
    congr 1
    omega]
  rw [pk_mul, nI_add]
set_option maxRecDepth 100000 in
set_option maxHeartbeats 4000000 in
theorem c_Di_gapTicks {G : r_X} {d : Nat} {h : r_HI} {p q : Nat} {z : r_HL} {F : Int32 → r_HI → r_HR → r_HL → Prop} {D : a_D} (hD : p_D h 3 D) (ho : a_dok D) {r th gap : Nat} {a1 a2 a3 : Int32} (hr : r < D.1) (hth : th < 24) (hgp : gap < 12) (e1 : a1 = nI r) (e2 : a2 = nI th) (e3 : a3 = nI gap) (hF : F (nI (a_gt (D.2.2.2.1 r) th gap)) h (r_gp p q) z) : r_Ci G m_Di_gapTicks (d + 1) 61 [.ref (G.2.1 + 3), .int a1, .int a2, .int a3] 61 h (r_gp p q) z F := by
  subst e1
  subst e2
  subst e3
  have h10 := ho.1
  have hl : h 6 r = nI (24 / D.2.2.2.1 r) := (hD.2.2.2 r hr).2.2
  have hp1 : h 4 r = nI (D.2.2.2.1 r) := (hD.2.2.2 r hr).1
  obtain ⟨h2, -, -, -, h12⟩ := a_pl (ho.2.2.2 r hr).1
  refine r_C_of (by decide +kernel) (Nat.le_of_ble_eq_true rfl) ?_
  refine j_ls (ls' := [(0, _), (1, _), (2, _), (3, _)]) rfl ?_
  refine j_aload_n d_Di_gapTicks_0 rfl rfl ?_
  refine j_getr d_Di_gapTicks_1 f_Di_18 rfl rfl (by decide) rfl ?_
  refine j_iload_n d_Di_gapTicks_4 rfl rfl ?_
  refine q_i s_Di_gapTicks_5 rfl (Nat.le_of_ble_eq_true rfl) (Nat.le_of_ble_eq_true rfl) ?_
  refine c_Ra_av (j := r) rfl (by decide) rfl (by omega) hl ?_
  refine j_istore (ls' := [(4, _), (0, _), (1, _), (2, _), (3, _)]) d_Di_gapTicks_8 (by decide) rfl ?_
  refine j_iload d_Di_gapTicks_10 rfl ?_
  refine j_iload_n d_Di_gapTicks_12 rfl rfl ?_
  refine j_iadd d_Di_gapTicks_13 ?_
  refine j_istore (ls' := [(5, _), (4, _), (0, _), (1, _), (2, _), (3, _)]) d_Di_gapTicks_14 (by decide) rfl ?_
  refine j_iload d_Di_gapTicks_16 rfl ?_
  refine j_iload_n d_Di_gapTicks_18 rfl rfl ?_
  refine j_iload d_Di_gapTicks_19 rfl ?_
  refine j_imul d_Di_gapTicks_21 ?_
  refine j_iload d_Di_gapTicks_22 rfl ?_
  refine j_isub d_Di_gapTicks_24 ?_
  refine j_bipush (v := 24) d_Di_gapTicks_25 (by decide) ?_
  refine q_i s_Di_gapTicks_27 rfl (Nat.le_of_ble_eq_true rfl) (Nat.le_of_ble_eq_true rfl) ?_
  refine c_Jm_floorMod ?_
  refine j_iadd d_Di_gapTicks_30 ?_
  refine j_istore (ls' := [(6, _), (5, _), (4, _), (0, _), (1, _), (2, _), (3, _)]) d_Di_gapTicks_31 (by decide) rfl ?_
  refine j_aload_n d_Di_gapTicks_33 rfl rfl ?_
  refine j_getr d_Di_gapTicks_34 f_Di_9 rfl rfl (by decide) rfl ?_
  refine j_iload_n d_Di_gapTicks_37 rfl rfl ?_
  refine q_i s_Di_gapTicks_38 rfl (Nat.le_of_ble_eq_true rfl) (Nat.le_of_ble_eq_true rfl) ?_
  refine c_Ra_av (j := r) rfl (by decide) rfl (by omega) hp1 ?_
  refine j_iconst (v := 1) d_Di_gapTicks_41 rfl ?_
  refine j_isub d_Di_gapTicks_42 ?_
  refine j_iload d_Di_gapTicks_43 rfl ?_
  refine j_imul d_Di_gapTicks_45 ?_
  refine j_iload d_Di_gapTicks_46 rfl ?_
  refine j_iadd d_Di_gapTicks_48 ?_
  refine j_iret d_Di_gapTicks_49 rfl ?_
  exact q_i1 hF (a_gtI h2 h12 hth hgp)
set_option maxRecDepth 100000 in
set_option maxHeartbeats 4000000 in
theorem l_Di_haveNoDivisor {G : r_X} {d : Nat} {h : r_HI} {p q : Nat} {z : r_HL} {F : Int32 → r_HI → r_HR → r_HL → Prop} {x y : Nat} (hx : x < 1000) (hy : y < 1000) : ∀ (e dv : Nat) (v : Int32), e + dv = x + 1 → 2 ≤ dv → v = nI dv → F (if a_nd e dv x y then 1 else 0) h (r_gp p q) z → r_TM G m_Di_haveNoDivisor (d) 61 61 (fun v h' g' z' => ∃ r, v = some (.int r) ∧ F r h' g' z') 2 [(0, .int (nI x)), (1, .int (nI y)), (2, .int v)] [] 61 h (r_gp p q) z := by
  intro e
  induction e with
  | zero =>
    intro dv v he h2 hv hF
    subst hv
    refine j_iload_n d_Di_haveNoDivisor_2 rfl rfl ?_
    refine j_iload_n d_Di_haveNoDivisor_3 rfl rfl ?_
    refine j_icmp_gt (tgt := 27) d_Di_haveNoDivisor_4 rfl (fun bq1 => ?_) (fun bq1 => False.elim (bq1 (nI_lt (by omega) (by omega))))
    refine j_iconst (v := 1) d_Di_haveNoDivisor_27 rfl ?_
    refine j_zret d_Di_haveNoDivisor_28 rfl (by decide) ?_
    exact q_i1 hF rfl
  | succ e ih =>
    intro dv v he h2 hv hF
    subst hv
    refine j_iload_n d_Di_haveNoDivisor_2 rfl rfl ?_
    refine j_iload_n d_Di_haveNoDivisor_3 rfl rfl ?_
    refine j_icmp_gt (tgt := 27) d_Di_haveNoDivisor_4 rfl (fun bq1 => False.elim (nI_nlt (by omega) (by omega) bq1)) (fun bq1 => ?_)
    refine j_iload_n d_Di_haveNoDivisor_7 rfl rfl ?_
    refine j_iload_n d_Di_haveNoDivisor_8 rfl rfl ?_
    refine j_irem d_Di_haveNoDivisor_9 (fun e9 => absurd ((nI_eq (b := 0) (by omega) (by omega)).mp e9) (by omega)) ?_
    refine j_if_ne (tgt := 21) d_Di_haveNoDivisor_10 rfl (fun bq2 => ?_) (fun bq2 => ?_)
    · refine j_iinc (ls' := [(2, _), (0, _), (1, _)]) d_Di_haveNoDivisor_21 rfl (by decide) rfl ?_
      refine j_goto (tgt := 2) d_Di_haveNoDivisor_24 rfl ?_
      refine j_pick [1, 2, 0] (ls' := [(0, _), (1, _), (2, _)]) rfl ?_
      have key : ¬ (x % dv = 0 ∧ y % dv = 0) := by
        intro e9
        first
          | exact bq2 (by rw [pk_rem (by omega) (by omega) (by omega), e9.1]; rfl)
          | exact bq3 (by rw [pk_rem (by omega) (by omega) (by omega), e9.2]; rfl)
      refine ih (dv + 1) _ (by omega) (by omega) (nI_inc dv) ?_
      rw [show a_nd (e + 1) dv x y = a_nd e (dv + 1) x y from by rw [a_nd, if_neg key]] at hF
      exact hF
    · refine j_iload_n d_Di_haveNoDivisor_13 rfl rfl ?_
      refine j_iload_n d_Di_haveNoDivisor_14 rfl rfl ?_
      refine j_irem d_Di_haveNoDivisor_15 (fun e9 => absurd ((nI_eq (b := 0) (by omega) (by omega)).mp e9) (by omega)) ?_
      refine j_if_ne (tgt := 21) d_Di_haveNoDivisor_16 rfl (fun bq3 => ?_) (fun bq3 => ?_)
      · refine j_iinc (ls' := [(2, _), (0, _), (1, _)]) d_Di_haveNoDivisor_21 rfl (by decide) rfl ?_
        refine j_goto (tgt := 2) d_Di_haveNoDivisor_24 rfl ?_
        refine j_pick [1, 2, 0] (ls' := [(0, _), (1, _), (2, _)]) rfl ?_
        have key : ¬ (x % dv = 0 ∧ y % dv = 0) := by
          intro e9
          first
            | exact bq2 (by rw [pk_rem (by omega) (by omega) (by omega), e9.1]; rfl)
            | exact bq3 (by rw [pk_rem (by omega) (by omega) (by omega), e9.2]; rfl)
        refine ih (dv + 1) _ (by omega) (by omega) (nI_inc dv) ?_
        rw [show a_nd (e + 1) dv x y = a_nd e (dv + 1) x y from by rw [a_nd, if_neg key]] at hF
        exact hF
      · refine j_iconst (v := 0) d_Di_haveNoDivisor_19 rfl ?_
        refine j_zret d_Di_haveNoDivisor_20 rfl (by decide) ?_
        exact q_i1 hF (by rw [pk_rem (by omega) (by omega) (by omega)] at bq2 bq3; rw [show a_nd (e + 1) dv x y = false from by rw [a_nd, if_pos ⟨(nI_eq (b := 0) (by have := Nat.mod_le x dv; omega) (by omega)).mp bq2, (nI_eq (b := 0) (by have := Nat.mod_le y dv; omega) (by omega)).mp bq3⟩]]; rfl)
set_option maxRecDepth 100000 in
set_option maxHeartbeats 4000000 in
theorem c_Di_haveNoDivisor {G : r_X} {d : Nat} {h : r_HI} {p q : Nat} {z : r_HL} {F : Int32 → r_HI → r_HR → r_HL → Prop} {x y : Nat} {a1 a2 : Int32} (hx : x < 1000) (hy : y < 1000) (h1 : 1 ≤ x) (e1 : a1 = nI x) (e2 : a2 = nI y) (hF : F (if a_nd (x - 1) 2 x y then 1 else 0) h (r_gp p q) z) : r_Ci G m_Di_haveNoDivisor (d) 61 [.int a1, .int a2] 61 h (r_gp p q) z F := by
  subst e1
  subst e2
  refine r_C_of (by decide +kernel) (Nat.le_of_ble_eq_true rfl) ?_
  refine j_ls (ls' := [(0, _), (1, _)]) rfl ?_
  refine j_iconst (v := 2) d_Di_haveNoDivisor_0 rfl ?_
  refine j_istore_n (ls' := [(2, _), (0, _), (1, _)]) d_Di_haveNoDivisor_1 rfl (by decide) rfl ?_
  refine j_pick [1, 2, 0] (ls' := [(0, _), (1, _), (2, _)]) rfl ?_
  exact l_Di_haveNoDivisor hx hy (x - 1) 2 _ (by omega) (by omega) rfl hF
theorem t10 {c : Prop} [Decidable c] : (if c then (1 : Int32) else 0) = 0 ↔ ¬ c := by
  by_cases h : c
  · simp [h]
  · simp [h]
theorem a_gt_lt {n th gap : Nat} (h1 : n ≤ 12) (h2 : 24 / n ≤ 12) (h3 : th < 24) : a_gt n th gap < 1000 := by
  unfold a_gt
  have h4 := Nat.mod_lt (gap * (24 / n) + 23 * (24 / n + th)) (show 0 < 24 by decide)
  have h5 : (n - 1) * ((24 / n + th) + (gap * (24 / n) + 23 * (24 / n + th)) % 24) ≤ 11 * 60 := Nat.mul_le_mul (by omega) (by omega)
  omega
set_option maxRecDepth 100000 in
set_option maxHeartbeats 4000000 in
theorem l_Di_bestGap {G : r_X} {d : Nat} {h : r_HI} {p q : Nat} {z : r_HL} {F : Int32 → r_HI → r_HR → r_HL → Prop} {D : a_D} (hD : p_D h 3 D) (ho : a_dok D) {r th : Nat} (hr : r < D.1) (hth : th < 24) : ∀ (e gap : Nat) (v : Int32) (b : Nat) (bv : Int32), e + gap = D.2.2.2.1 r → 2 ≤ gap → v = nI gap → bv = nI b → 1 ≤ b → b < D.2.2.2.1 r → F (nI (a_bg (D.2.2.2.1 r) th e gap b)) h (r_gp p q) z → r_TM G m_Di_bestGap (d + 2) 61 61 (fun v h' g' z' => ∃ r, v = some (.int r) ∧ F r h' g' z') 15 [(0, .ref (G.2.1 + 3)), (1, .int (nI r)), (2, .int (nI th)), (3, .int (nI (D.2.2.2.1 r))), (4, .int bv), (5, .int v)] [] 61 h (r_gp p q) z := by
  obtain ⟨h2, hn, -, -, h12⟩ := a_pl (ho.2.2.2 r hr).1
  intro e
  induction e with
  | zero =>
    intro gap v b bv he hg hv hbv hb1 hb hF
    subst hv
    subst hbv
    refine j_iload d_Di_bestGap_15 rfl ?_
    refine j_iload_n d_Di_bestGap_17 rfl rfl ?_
    refine j_icmp_ge (tgt := 59) d_Di_bestGap_18 rfl (fun bq1 => ?_) (fun bq1 => False.elim (bq1 (nI_le (by omega) (by omega))))
    refine j_iload d_Di_bestGap_59 rfl ?_
    refine j_iret d_Di_bestGap_61 rfl ?_
    exact q_i1 hF rfl
  | succ e ih =>
    intro gap v b bv he hg hv hbv hb1 hb hF
    subst hv
    subst hbv
    refine j_iload d_Di_bestGap_15 rfl ?_
    refine j_iload_n d_Di_bestGap_17 rfl rfl ?_
    refine j_icmp_ge (tgt := 59) d_Di_bestGap_18 rfl (fun bq1 => False.elim (nI_ge (by omega) (by omega) bq1)) (fun bq1 => ?_)
    refine j_iload d_Di_bestGap_21 rfl ?_
    refine j_iload_n d_Di_bestGap_23 rfl rfl ?_
    refine q_i s_Di_bestGap_24 rfl (Nat.le_of_ble_eq_true rfl) (Nat.le_of_ble_eq_true rfl) ?_
    refine c_Di_haveNoDivisor (by omega) (by omega) (by omega) rfl rfl ?_
    refine j_if_eq (tgt := 53) d_Di_bestGap_27 rfl (fun bq2 => ?_) (fun bq2 => ?_)
    · refine j_iinc (ls' := [(5, _), (0, _), (1, _), (2, _), (3, _), (4, _)]) d_Di_bestGap_53 rfl (by decide) rfl ?_
      refine j_goto (tgt := 15) d_Di_bestGap_56 rfl ?_
      refine j_pick [1, 2, 3, 4, 5, 0] (ls' := [(0, _), (1, _), (2, _), (3, _), (4, _), (5, _)]) rfl ?_
      first
        | (have c4 := t10.mp bq2
           refine ih (gap + 1) _ b _ (by omega) (by omega) (nI_inc gap) rfl hb1 (by omega) ?_
           rw [a_bg, if_neg (by simp [c4])] at hF
           exact hF)
        | (have c4 : a_nd (gap - 1) 2 gap (D.2.2.2.1 r) = true := Decidable.byContradiction (fun e9 => bq2 (t10.mpr e9))
           have c5 : ¬ a_gt (D.2.2.2.1 r) th gap < a_gt (D.2.2.2.1 r) th b := fun e9 => nI_ge e9 (by omega) bq3
           refine ih (gap + 1) _ b _ (by omega) (by omega) (nI_inc gap) rfl hb1 (by omega) ?_
           rw [a_bg, if_neg (by simp [c5])] at hF
           exact hF)
        | (have c4 : a_nd (gap - 1) 2 gap (D.2.2.2.1 r) = true := Decidable.byContradiction (fun e9 => bq2 (t10.mpr e9))
           have c5 : a_gt (D.2.2.2.1 r) th gap < a_gt (D.2.2.2.1 r) th b := Decidable.byContradiction (fun e9 => bq3 (nI_le (by omega) (by omega)))
           refine ih (gap + 1) _ gap _ (by omega) (by omega) (nI_inc gap) rfl (by omega) (by omega) ?_
           rw [a_bg, if_pos (by simp [c4, c5])] at hF
           exact hF)
    · refine j_aload_n d_Di_bestGap_30 rfl rfl ?_
      refine j_iload_n d_Di_bestGap_31 rfl rfl ?_
      refine j_iload_n d_Di_bestGap_32 rfl rfl ?_
      refine j_iload d_Di_bestGap_33 rfl ?_
      refine q_i (s_Di_bestGap_35 rfl (by decide)) rfl (Nat.le_of_ble_eq_true rfl) (Nat.le_of_ble_eq_true rfl) ?_
      refine c_Di_gapTicks hD ho hr hth (by omega) rfl rfl rfl ?_
      refine j_aload_n d_Di_bestGap_38 rfl rfl ?_
      refine j_iload_n d_Di_bestGap_39 rfl rfl ?_
      refine j_iload_n d_Di_bestGap_40 rfl rfl ?_
      refine j_iload d_Di_bestGap_41 rfl ?_
      refine q_i (s_Di_bestGap_43 rfl (by decide)) rfl (Nat.le_of_ble_eq_true rfl) (Nat.le_of_ble_eq_true rfl) ?_
      refine c_Di_gapTicks hD ho hr hth (by omega) rfl rfl rfl ?_
      have g1 := a_gt_lt (gap := gap) hn h12 hth
      have g2 := a_gt_lt (gap := b) hn h12 hth
      refine j_icmp_ge (tgt := 53) d_Di_bestGap_46 rfl (fun bq3 => ?_) (fun bq3 => ?_)
      · refine j_iinc (ls' := [(5, _), (0, _), (1, _), (2, _), (3, _), (4, _)]) d_Di_bestGap_53 rfl (by decide) rfl ?_
        refine j_goto (tgt := 15) d_Di_bestGap_56 rfl ?_
        refine j_pick [1, 2, 3, 4, 5, 0] (ls' := [(0, _), (1, _), (2, _), (3, _), (4, _), (5, _)]) rfl ?_
        first
          | (have c4 := t10.mp bq2
             refine ih (gap + 1) _ b _ (by omega) (by omega) (nI_inc gap) rfl hb1 (by omega) ?_
             rw [a_bg, if_neg (by simp [c4])] at hF
             exact hF)
          | (have c4 : a_nd (gap - 1) 2 gap (D.2.2.2.1 r) = true := Decidable.byContradiction (fun e9 => bq2 (t10.mpr e9))
             have c5 : ¬ a_gt (D.2.2.2.1 r) th gap < a_gt (D.2.2.2.1 r) th b := fun e9 => nI_ge e9 (by omega) bq3
             refine ih (gap + 1) _ b _ (by omega) (by omega) (nI_inc gap) rfl hb1 (by omega) ?_
             rw [a_bg, if_neg (by simp [c5])] at hF
             exact hF)
          | (have c4 : a_nd (gap - 1) 2 gap (D.2.2.2.1 r) = true := Decidable.byContradiction (fun e9 => bq2 (t10.mpr e9))
             have c5 : a_gt (D.2.2.2.1 r) th gap < a_gt (D.2.2.2.1 r) th b := Decidable.byContradiction (fun e9 => bq3 (nI_le (by omega) (by omega)))
             refine ih (gap + 1) _ gap _ (by omega) (by omega) (nI_inc gap) rfl (by omega) (by omega) ?_
             rw [a_bg, if_pos (by simp [c4, c5])] at hF
             exact hF)
      · refine j_iload d_Di_bestGap_49 rfl ?_
        refine j_istore (ls' := [(4, _), (0, _), (1, _), (2, _), (3, _), (5, _)]) d_Di_bestGap_51 (by decide) rfl ?_
        refine j_iinc (ls' := [(5, _), (4, _), (0, _), (1, _), (2, _), (3, _)]) d_Di_bestGap_53 rfl (by decide) rfl ?_
        refine j_goto (tgt := 15) d_Di_bestGap_56 rfl ?_
        refine j_pick [2, 3, 4, 5, 1, 0] (ls' := [(0, _), (1, _), (2, _), (3, _), (4, _), (5, _)]) rfl ?_
        first
          | (have c4 := t10.mp bq2
             refine ih (gap + 1) _ b _ (by omega) (by omega) (nI_inc gap) rfl hb1 (by omega) ?_
             rw [a_bg, if_neg (by simp [c4])] at hF
             exact hF)
          | (have c4 : a_nd (gap - 1) 2 gap (D.2.2.2.1 r) = true := Decidable.byContradiction (fun e9 => bq2 (t10.mpr e9))
             have c5 : ¬ a_gt (D.2.2.2.1 r) th gap < a_gt (D.2.2.2.1 r) th b := fun e9 => nI_ge e9 (by omega) bq3
             refine ih (gap + 1) _ b _ (by omega) (by omega) (nI_inc gap) rfl hb1 (by omega) ?_
             rw [a_bg, if_neg (by simp [c5])] at hF
             exact hF)
          | (have c4 : a_nd (gap - 1) 2 gap (D.2.2.2.1 r) = true := Decidable.byContradiction (fun e9 => bq2 (t10.mpr e9))
             have c5 : a_gt (D.2.2.2.1 r) th gap < a_gt (D.2.2.2.1 r) th b := Decidable.byContradiction (fun e9 => bq3 (nI_le (by omega) (by omega)))
             refine ih (gap + 1) _ gap _ (by omega) (by omega) (nI_inc gap) rfl (by omega) (by omega) ?_
             rw [a_bg, if_pos (by simp [c4, c5])] at hF
             exact hF)
set_option maxRecDepth 100000 in
set_option maxHeartbeats 4000000 in
theorem c_Di_bestGap {G : r_X} {d : Nat} {h : r_HI} {p q : Nat} {z : r_HL} {F : Int32 → r_HI → r_HR → r_HL → Prop} {D : a_D} (hD : p_D h 3 D) (ho : a_dok D) {r th : Nat} {a1 a2 : Int32} (hr : r < D.1) (hth : th < 24) (e1 : a1 = nI r) (e2 : a2 = nI th) (hF : F (nI (a_bg (D.2.2.2.1 r) th (D.2.2.2.1 r - 2) 2 1)) h (r_gp p q) z) : r_Ci G m_Di_bestGap (d + 2) 61 [.ref (G.2.1 + 3), .int a1, .int a2] 61 h (r_gp p q) z F := by
  subst e1
  subst e2
  have h10 := ho.1
  obtain ⟨h2, hn, -, -, h12⟩ := a_pl (ho.2.2.2 r hr).1
  have hp1 : h 4 r = nI (D.2.2.2.1 r) := (hD.2.2.2 r hr).1
  refine r_C_of (by decide +kernel) (Nat.le_of_ble_eq_true rfl) ?_
  refine j_ls (ls' := [(0, _), (1, _), (2, _)]) rfl ?_
  refine j_aload_n d_Di_bestGap_0 rfl rfl ?_
  refine j_getr d_Di_bestGap_1 f_Di_9 rfl rfl (by decide) rfl ?_
  refine j_iload_n d_Di_bestGap_4 rfl rfl ?_
  refine q_i s_Di_bestGap_5 rfl (Nat.le_of_ble_eq_true rfl) (Nat.le_of_ble_eq_true rfl) ?_
  refine c_Ra_av (j := r) rfl (by decide) rfl (by omega) hp1 ?_
  refine j_istore_n (ls' := [(3, _), (0, _), (1, _), (2, _)]) d_Di_bestGap_8 rfl (by decide) rfl ?_
  refine j_iconst (v := 1) d_Di_bestGap_9 rfl ?_
  refine j_istore (ls' := [(4, _), (3, _), (0, _), (1, _), (2, _)]) d_Di_bestGap_10 (by decide) rfl ?_
  refine j_iconst (v := 2) d_Di_bestGap_12 rfl ?_
  refine j_istore (ls' := [(5, _), (4, _), (3, _), (0, _), (1, _), (2, _)]) d_Di_bestGap_13 (by decide) rfl ?_
  refine j_pick [3, 4, 5, 2, 1, 0] (ls' := [(0, _), (1, _), (2, _), (3, _), (4, _), (5, _)]) rfl ?_
  exact l_Di_bestGap hD ho hr hth (D.2.2.2.1 r - 2) 2 _ 1 _ (by omega) (by omega) rfl rfl (by omega) (by omega) hF
set_option maxRecDepth 100000 in
set_option maxHeartbeats 4000000 in
theorem l_Di_allPlaces {G : r_X} {d : Nat} {h : r_HI} {p q : Nat} {z : r_HL} {F : Int32 → r_HI → r_HR → r_HL → Prop} {D : a_D} (hD : p_D h 3 D) (ho : a_dok D) (hF : F (nI (a_sum D.2.2.2.1 D.1)) h (r_gp p q) z) : ∀ (e i : Nat) (v s : Int32), e + i = D.1 → v = nI i → s = nI (a_sum D.2.2.2.1 i) → r_TM G m_Di_allPlaces (d + 1) 61 61 (fun v h' g' z' => ∃ r, v = some (.int r) ∧ F r h' g' z') 4 [(0, .ref (G.2.1 + 3)), (1, .int s), (2, .int v)] [] 61 h (r_gp p q) z := by
  have h10 := ho.1
  intro e
  induction e with
  | zero =>
    intro i v s he hv hs
    subst hv
    subst hs
    refine j_iload_n d_Di_allPlaces_4 rfl rfl ?_
    refine j_aload_n d_Di_allPlaces_5 rfl rfl ?_
    refine j_geti d_Di_allPlaces_6 f_Di_21 rfl rfl (by decide) ?_
    refine j_icmp_ge (tgt := 35) d_Di_allPlaces_9 rfl (fun bq1 => ?_) (fun bq1 => False.elim (bq1 (by rw [hD.1]; exact nI_le (by omega) (by omega))))
    refine j_iload_n d_Di_allPlaces_35 rfl rfl ?_
    refine j_iret d_Di_allPlaces_36 rfl ?_
    exact q_i1 hF (by rw [show i = D.1 by omega])
  | succ e ih =>
    intro i v s he hv hs
    subst hv
    have hpi : h 4 i = nI (D.2.2.2.1 i) := (hD.2.2.2 i (by omega)).1
    refine j_iload_n d_Di_allPlaces_4 rfl rfl ?_
    refine j_aload_n d_Di_allPlaces_5 rfl rfl ?_
    refine j_geti d_Di_allPlaces_6 f_Di_21 rfl rfl (by decide) ?_
    refine j_icmp_ge (tgt := 35) d_Di_allPlaces_9 rfl (fun bq1 => False.elim (nI_ge (by omega) (by omega) (hD.1 ▸ bq1))) (fun bq1 => ?_)
    refine j_iload_n d_Di_allPlaces_12 rfl rfl ?_
    refine j_bipush (v := 10) d_Di_allPlaces_13 (by decide) ?_
    refine j_icmp_ge (tgt := 35) d_Di_allPlaces_15 rfl (fun bq2 => False.elim (nI_ge (b := 10) (by omega) (by omega) bq2)) (fun bq2 => ?_)
    refine j_iload_n d_Di_allPlaces_18 rfl rfl ?_
    refine j_aload_n d_Di_allPlaces_19 rfl rfl ?_
    refine j_getr d_Di_allPlaces_20 f_Di_9 rfl rfl (by decide) rfl ?_
    refine j_iload_n d_Di_allPlaces_23 rfl rfl ?_
    refine q_i s_Di_allPlaces_24 rfl (Nat.le_of_ble_eq_true rfl) (Nat.le_of_ble_eq_true rfl) ?_
    refine c_Ra_av (j := i) rfl (by decide) rfl (by omega) hpi ?_
    refine j_iadd d_Di_allPlaces_27 ?_
    refine j_istore_n (ls' := [(1, _), (0, _), (2, _)]) d_Di_allPlaces_28 rfl (by decide) rfl ?_
    refine j_iinc (ls' := [(2, _), (1, _), (0, _)]) d_Di_allPlaces_29 rfl (by decide) rfl ?_
    refine j_goto (tgt := 4) d_Di_allPlaces_32 rfl ?_
    refine j_pick [2, 1, 0] (ls' := [(0, _), (1, _), (2, _)]) rfl ?_
    refine ih (i + 1) _ _ (by omega) (nI_inc i) ?_
    rw [hs, nI_add]
    rfl
set_option maxRecDepth 100000 in
set_option maxHeartbeats 4000000 in
theorem c_Di_allPlaces {G : r_X} {d : Nat} {h : r_HI} {p q : Nat} {z : r_HL} {F : Int32 → r_HI → r_HR → r_HL → Prop} {D : a_D} (hD : p_D h 3 D) (ho : a_dok D) (hF : F (nI (a_sum D.2.2.2.1 D.1)) h (r_gp p q) z) : r_Ci G m_Di_allPlaces (d + 1) 61 [.ref (G.2.1 + 3)] 61 h (r_gp p q) z F := by
  refine r_C_of (by decide +kernel) (Nat.le_of_ble_eq_true rfl) ?_
  refine j_ls (ls' := [(0, _)]) rfl ?_
  refine j_iconst (v := 0) d_Di_allPlaces_0 rfl ?_
  refine j_istore_n (ls' := [(1, _), (0, _)]) d_Di_allPlaces_1 rfl (by decide) rfl ?_
  refine j_iconst (v := 0) d_Di_allPlaces_2 rfl ?_
  refine j_istore_n (ls' := [(2, _), (1, _), (0, _)]) d_Di_allPlaces_3 rfl (by decide) rfl ?_
  refine j_pick [2, 1, 0] (ls' := [(0, _), (1, _), (2, _)]) rfl ?_
  exact l_Di_allPlaces hD ho hF D.1 0 _ _ (by omega) rfl rfl
