theorem q_y1 {F : Int32 → r_HI → r_HR → r_HL → Prop} {A J : List Nat} {h h' : r_HI} {g : r_HR} {z : r_HL} {r r' : Int32} (y : r_ey A J h h') (hF : r_ey A J h h' → F r' h' g z) (e : r = r') : ∃ q, some (Value.int r) = some (Value.int q) ∧ F q h' g z := ⟨r, rfl, e ▸ hF y⟩
set_option maxRecDepth 100000 in
set_option maxHeartbeats 4000000 in
theorem l_Mo_things {G : r_X} {d : Nat} {h : r_HI} {p q : Nat} {z : r_HL} {F : Int32 → r_HI → r_HR → r_HL → Prop} {wt : Nat → Nat} (hW : p_Wm h 55 wt) (hw : a_wok wt) (hF : F (nI (a_hm wt 6)) h (r_gp p q) z) : ∀ (e i : Nat) (v : Int32), e + i = 6 → v = nI i → r_TM G m_Mo_things (d) 61 61 (fun v h' g' z' => ∃ r, v = some (.int r) ∧ F r h' g' z') 4 [(0, .ref (G.2.1 + 47)), (1, .int (nI (a_hm wt i))), (2, .int v)] [] 61 h (r_gp p q) z := by
  intro e
  induction e with
  | zero =>
    intro i v he hv
    subst hv
    refine j_iload_n d_Mo_things_4 rfl rfl ?_
    refine j_bipush (v := 6) d_Mo_things_5 (by decide) ?_
    refine j_icmp_ge (tgt := 33) d_Mo_things_7 rfl (fun bq1 => ?_) (fun bq1 => False.elim (bq1 (nI_le (a := 6) (by omega) (by omega))))
    refine j_iload_n d_Mo_things_33 rfl rfl ?_
    refine j_iret d_Mo_things_34 rfl ?_
    have e0 : i = 6 := by omega
    subst e0
    exact q_i1 hF rfl
  | succ e ih =>
    intro i v he hv
    subst hv
    by_cases c : 0 < wt i
    · refine j_iload_n d_Mo_things_4 rfl rfl ?_
      refine j_bipush (v := 6) d_Mo_things_5 (by decide) ?_
      refine j_icmp_ge (tgt := 33) d_Mo_things_7 rfl (fun bq1 => False.elim (nI_ge (b := 6) (by omega) (by omega) bq1)) (fun bq1 => ?_)
      refine j_aload_n d_Mo_things_10 rfl rfl ?_
      refine j_getr d_Mo_things_11 f_Mo_31 rfl rfl (by decide) rfl ?_
      refine j_iload_n d_Mo_things_14 rfl rfl ?_
      refine j_iav d_Mo_things_15 rfl (by decide) (j := i) (rfl) (by omega) (by decide) (hW i (by omega)) ?_
      refine j_if_le (tgt := 25) d_Mo_things_16 rfl (fun bq2 => False.elim (nI_nle c (by have := hw i (by omega); omega) bq2)) (fun bq2 => ?_)
      refine j_iload_n d_Mo_things_19 rfl rfl ?_
      refine j_iconst (v := 1) d_Mo_things_20 rfl ?_
      refine j_iadd d_Mo_things_21 ?_
      refine j_goto (tgt := 26) d_Mo_things_22 rfl ?_
      rw [nI_1]
      refine j_istore_n (ls' := [(1, _), (0, _), (2, _)]) d_Mo_things_26 rfl (by decide) rfl ?_
      refine j_iinc (ls' := [(2, _), (1, _), (0, _)]) d_Mo_things_27 rfl (by decide) rfl ?_
      refine j_goto (tgt := 4) d_Mo_things_30 rfl ?_
      refine j_pick [2, 1, 0] (ls' := [(0, _), (1, _), (2, _)]) rfl ?_
      have e9 : a_hm wt (i + 1) = i + 1 := by show (if 0 < wt i then i + 1 else a_hm wt i) = _; rw [if_pos c]
      have ih1 := ih (i + 1) _ (by omega) (nI_inc i)
      rw [e9] at ih1
      exact ih1
    · refine j_iload_n d_Mo_things_4 rfl rfl ?_
      refine j_bipush (v := 6) d_Mo_things_5 (by decide) ?_
      refine j_icmp_ge (tgt := 33) d_Mo_things_7 rfl (fun bq1 => False.elim (nI_ge (b := 6) (by omega) (by omega) bq1)) (fun bq1 => ?_)
      refine j_aload_n d_Mo_things_10 rfl rfl ?_
      refine j_getr d_Mo_things_11 f_Mo_31 rfl rfl (by decide) rfl ?_
      refine j_iload_n d_Mo_things_14 rfl rfl ?_
      refine j_iav d_Mo_things_15 rfl (by decide) (j := i) (rfl) (by omega) (by decide) (hW i (by omega)) ?_
      refine j_if_le (tgt := 25) d_Mo_things_16 rfl (fun bq2 => ?_) (fun bq2 => False.elim (bq2 (by rw [show wt i = 0 by omega]; decide)))
      refine j_iload_n d_Mo_things_25 rfl rfl ?_
      refine j_istore_n (ls' := [(1, _), (0, _), (2, _)]) d_Mo_things_26 rfl (by decide) rfl ?_
      refine j_iinc (ls' := [(2, _), (1, _), (0, _)]) d_Mo_things_27 rfl (by decide) rfl ?_
      refine j_goto (tgt := 4) d_Mo_things_30 rfl ?_
      refine j_pick [2, 1, 0] (ls' := [(0, _), (1, _), (2, _)]) rfl ?_
      have e9 : a_hm wt (i + 1) = a_hm wt i := by show (if 0 < wt i then i + 1 else a_hm wt i) = _; rw [if_neg c]
      have ih1 := ih (i + 1) _ (by omega) (nI_inc i)
      rw [e9] at ih1
      exact ih1
set_option maxRecDepth 100000 in
set_option maxHeartbeats 4000000 in
theorem c_Mo_things {G : r_X} {d : Nat} {h : r_HI} {p q : Nat} {z : r_HL} {F : Int32 → r_HI → r_HR → r_HL → Prop} {wt : Nat → Nat} (hW : p_Wm h 55 wt) (hw : a_wok wt) (hF : F (nI (a_hm wt 6)) h (r_gp p q) z) : r_Ci G m_Mo_things (d) 61 [.ref (G.2.1 + 47)] 61 h (r_gp p q) z F := by
  refine r_C_of (by decide +kernel) (Nat.le_of_ble_eq_true rfl) ?_
  refine j_ls (ls' := [(0, _)]) rfl ?_
  refine j_iconst (v := 0) d_Mo_things_0 rfl ?_
  refine j_istore_n (ls' := [(1, _), (0, _)]) d_Mo_things_1 rfl (by decide) rfl ?_
  refine j_iconst (v := 0) d_Mo_things_2 rfl ?_
  refine j_istore_n (ls' := [(2, _), (1, _), (0, _)]) d_Mo_things_3 rfl (by decide) rfl ?_
  refine j_pick [2, 1, 0] (ls' := [(0, _), (1, _), (2, _)]) rfl ?_
  exact l_Mo_things hW hw hF 6 0 _ (by omega) rfl
set_option maxRecDepth 100000 in
set_option maxHeartbeats 4000000 in
theorem c_Mo_weigh {G : r_X} {d : Nat} {h : r_HI} {p q : Nat} {z : r_HL} {F : Int32 → r_HI → r_HR → r_HL → Prop} {Z : a_Z} {x y : Int32} (hM : p_M h Z) (ho : a_zok Z) (hF : ∀ h', r_ml h h' → p_M h' (s_weigh Z x y).2 → F (s_weigh Z x y).1 h' (r_gp p q) z) : r_Ci G m_Mo_weigh (d + 20) 61 [.ref (G.2.1 + 47), .int x, .int y] 61 h (r_gp p q) z F := by
  obtain ⟨mG, mN, mJ0, m6, mW, mS, m11, m20, mkk, mkp⟩ := id hM
  obtain ⟨op, ⟨od, ok, otk, ow, os, okd⟩, o3, o4, o5, o6, o7⟩ := id ho
  obtain ⟨od1, od2, od3, od4⟩ := id od
  obtain ⟨ok1, ok2, ok3, ok4⟩ := id ok
  have os1 := os.1
  have op1 := op.1
  rcases ixc x 6 with ⟨ix1, hr1⟩ | ⟨r, hj1, e1, ix1, t1⟩
  · have hs : s_weigh Z x y = (-101, Z) := by simp [s_weigh, ix1]
    rw [hs] at hF
    refine r_C_of (by decide +kernel) (Nat.le_of_ble_eq_true rfl) ?_
    refine j_ls (ls' := [(0, _), (1, _), (2, _)]) rfl ?_
    refine j_iload_n d_Mo_weigh_0 rfl rfl ?_
    refine j_i2l d_Mo_weigh_1 ?_
    refine j_lconst (v := 0) d_Mo_weigh_2 rfl ?_
    refine j_ldc2 d_Mo_weigh_3 k_Mo_240 ?_
    refine q_i s_Mo_weigh_6 rfl (Nat.le_of_ble_eq_true rfl) (Nat.le_of_ble_eq_true rfl) ?_
    refine c_inN 0 5 rfl rfl (by omega) ?_
    refine j_if_eq (tgt := 20) d_Mo_weigh_9 rfl (fun bq1 => ?_) (fun bq1 => False.elim (bq1 rfl))
    refine j_bipush (v := (-101)) d_Mo_weigh_20 (by decide) ?_
    refine j_iret d_Mo_weigh_22 rfl ?_
    exact q_i1 (hF _ r_ml.rf hM) rfl
  · by_cases hw : Z.2.1.1.1 ≤ r
    · have hs : s_weigh Z x y = (-101, Z) := by simp [s_weigh, ix1, hw]
      rw [hs] at hF
      refine r_C_of (by decide +kernel) (Nat.le_of_ble_eq_true rfl) ?_
      refine j_ls (ls' := [(0, _), (1, _), (2, _)]) rfl ?_
      refine j_iload_n d_Mo_weigh_0 rfl rfl ?_
      refine j_i2l d_Mo_weigh_1 ?_
      refine j_lconst (v := 0) d_Mo_weigh_2 rfl ?_
      refine j_ldc2 d_Mo_weigh_3 k_Mo_240 ?_
      refine q_i s_Mo_weigh_6 rfl (Nat.le_of_ble_eq_true rfl) (Nat.le_of_ble_eq_true rfl) ?_
      refine c_inY 0 5 rfl rfl (by omega) ?_
      refine j_if_eq (tgt := 20) d_Mo_weigh_9 rfl (fun bq1 => False.elim (absurd bq1 (by decide))) (fun bq1 => ?_)
      refine j_aload_n d_Mo_weigh_12 rfl rfl ?_
      refine j_iload_n d_Mo_weigh_13 rfl rfl ?_
      refine q_i (s_Mo_weigh_14 rfl (by decide)) rfl (Nat.le_of_ble_eq_true rfl) (Nat.le_of_ble_eq_true rfl) ?_
      refine c_Mo_isRingN mN od (by omega) ?_
      refine j_if_ne (tgt := 23) d_Mo_weigh_17 rfl (fun bq2 => False.elim (bq2 rfl)) (fun bq2 => ?_)
      refine j_bipush (v := (-101)) d_Mo_weigh_20 (by decide) ?_
      refine j_iret d_Mo_weigh_22 rfl ?_
      exact q_i1 (hF _ r_ml.rf hM) rfl
    · rcases ixc y 10 with ⟨ix2, hr2⟩ | ⟨v, hj2, e2, ix2, t2⟩
      · have hs : s_weigh Z x y = (-102, Z) := by simp [s_weigh, ix1, ix2, hw]
        rw [hs] at hF
        refine r_C_of (by decide +kernel) (Nat.le_of_ble_eq_true rfl) ?_
        refine j_ls (ls' := [(0, _), (1, _), (2, _)]) rfl ?_
        refine j_iload_n d_Mo_weigh_0 rfl rfl ?_
        refine j_i2l d_Mo_weigh_1 ?_
        refine j_lconst (v := 0) d_Mo_weigh_2 rfl ?_
        refine j_ldc2 d_Mo_weigh_3 k_Mo_240 ?_
        refine q_i s_Mo_weigh_6 rfl (Nat.le_of_ble_eq_true rfl) (Nat.le_of_ble_eq_true rfl) ?_
        refine c_inY 0 5 rfl rfl (by omega) ?_
        refine j_if_eq (tgt := 20) d_Mo_weigh_9 rfl (fun bq1 => False.elim (absurd bq1 (by decide))) (fun bq1 => ?_)
        refine j_aload_n d_Mo_weigh_12 rfl rfl ?_
        refine j_iload_n d_Mo_weigh_13 rfl rfl ?_
        refine q_i (s_Mo_weigh_14 rfl (by decide)) rfl (Nat.le_of_ble_eq_true rfl) (Nat.le_of_ble_eq_true rfl) ?_
        refine c_Mo_isRingY mN od (r := r) (by omega) e1 ?_
        refine j_if_ne (tgt := 23) d_Mo_weigh_17 rfl (fun bq2 => ?_) (fun bq2 => False.elim (absurd bq2 (by decide)))
        refine j_iload_n d_Mo_weigh_23 rfl rfl ?_
        refine j_i2l d_Mo_weigh_24 ?_
        refine j_lconst (v := 0) d_Mo_weigh_25 rfl ?_
        refine j_ldc2 d_Mo_weigh_26 k_Mo_211 ?_
        refine q_i s_Mo_weigh_29 rfl (Nat.le_of_ble_eq_true rfl) (Nat.le_of_ble_eq_true rfl) ?_
        refine c_inN 0 9 rfl rfl (by omega) ?_
        refine j_if_ne (tgt := 38) d_Mo_weigh_32 rfl (fun bq3 => False.elim (bq3 rfl)) (fun bq3 => ?_)
        refine j_bipush (v := (-102)) d_Mo_weigh_35 (by decide) ?_
        refine j_iret d_Mo_weigh_37 rfl ?_
        exact q_i1 (hF _ r_ml.rf hM) rfl
      · have hs : s_weigh Z x y = (nI (Z.2.1.2.2.1 r), z_W Z (va_up Z.2.1.2.2.1 r v)) := by simp [s_weigh, ix1, ix2, hw]
        rw [hs] at hF
        refine r_C_of (by decide +kernel) (Nat.le_of_ble_eq_true rfl) ?_
        refine j_ls (ls' := [(0, _), (1, _), (2, _)]) rfl ?_
        refine j_iload_n d_Mo_weigh_0 rfl rfl ?_
        refine j_i2l d_Mo_weigh_1 ?_
        refine j_lconst (v := 0) d_Mo_weigh_2 rfl ?_
        refine j_ldc2 d_Mo_weigh_3 k_Mo_240 ?_
        refine q_i s_Mo_weigh_6 rfl (Nat.le_of_ble_eq_true rfl) (Nat.le_of_ble_eq_true rfl) ?_
        refine c_inY 0 5 rfl rfl (by omega) ?_
        refine j_if_eq (tgt := 20) d_Mo_weigh_9 rfl (fun bq1 => False.elim (absurd bq1 (by decide))) (fun bq1 => ?_)
        refine j_aload_n d_Mo_weigh_12 rfl rfl ?_
        refine j_iload_n d_Mo_weigh_13 rfl rfl ?_
        refine q_i (s_Mo_weigh_14 rfl (by decide)) rfl (Nat.le_of_ble_eq_true rfl) (Nat.le_of_ble_eq_true rfl) ?_
        refine c_Mo_isRingY mN od (r := r) (by omega) e1 ?_
        refine j_if_ne (tgt := 23) d_Mo_weigh_17 rfl (fun bq2 => ?_) (fun bq2 => False.elim (absurd bq2 (by decide)))
        refine j_iload_n d_Mo_weigh_23 rfl rfl ?_
        refine j_i2l d_Mo_weigh_24 ?_
        refine j_lconst (v := 0) d_Mo_weigh_25 rfl ?_
        refine j_ldc2 d_Mo_weigh_26 k_Mo_211 ?_
        refine q_i s_Mo_weigh_29 rfl (Nat.le_of_ble_eq_true rfl) (Nat.le_of_ble_eq_true rfl) ?_
        refine c_inY 0 9 rfl rfl (by omega) ?_
        refine j_if_ne (tgt := 38) d_Mo_weigh_32 rfl (fun bq3 => ?_) (fun bq3 => False.elim (absurd bq3 (by decide)))
        refine j_aload_n d_Mo_weigh_38 rfl rfl ?_
        refine j_getr d_Mo_weigh_39 f_Mo_31 rfl rfl (by decide) rfl ?_
        refine j_iload_n d_Mo_weigh_42 rfl rfl ?_
        refine j_iav d_Mo_weigh_43 rfl (by decide) (j := r) (e1) (by omega) (by decide) (mW r hj1) ?_
        refine j_istore_n (ls' := [(3, _), (0, _), (1, _), (2, _)]) d_Mo_weigh_44 rfl (by decide) rfl ?_
        refine j_aload_n d_Mo_weigh_45 rfl rfl ?_
        refine j_getr d_Mo_weigh_46 f_Mo_31 rfl rfl (by decide) rfl ?_
        refine j_iload_n d_Mo_weigh_49 rfl rfl ?_
        refine j_iload_n d_Mo_weigh_50 rfl rfl ?_
        refine j_iap d_Mo_weigh_51 rfl (by decide) (j := r) (e1) (by omega) (by decide) ?_
        refine j_iload_n d_Mo_weigh_52 rfl rfl ?_
        refine j_iret d_Mo_weigh_53 rfl ?_
        have yy : r_ey [55] [] h (r_up h 55 r y) := r_ey.rf.up (by decide) (by decide)
        refine q_i1 (hF _ (yy.ml (by decide)) (hM.W yy (fun i hi => ?_))) rfl
        show r_up h 55 r y 55 i = nI (va_up Z.2.1.2.2.1 r v i)
        rw [r_up_k]
        by_cases e9 : i = r
        · rw [e9, pk_us, e2]
          simp [va_up]
        · rw [pk_un e9]
          simp only [va_up, if_neg e9]
          exact mW i hi
theorem a_beM {a b u : Nat} : 48 + u + (b + 24 - (a + u) % 24) % 24 = 48 + u + (b + 23 * (a + 24 + u)) % 24 := by omega
set_option maxRecDepth 100000 in
set_option maxHeartbeats 4000000 in
theorem c_Mo_behindOf {G : r_X} {d : Nat} {h : r_HI} {p q : Nat} {z : r_HL} {F : Int32 → r_HI → r_HR → r_HL → Prop} {D : a_D} (hN : p_N h D) (ho : a_dok D) {r s v : Nat} {a1 a2 a3 : Int32} (hr : r < D.1) (hs : s < D.1) (hv : v < 3) (e1 : a1 = nI r) (e2 : a2 = nI s) (e3 : a3 = nI v) (hF : F (nI (a_be D r s v)) h (r_gp p q) z) : r_Ci G m_Mo_behindOf (d + 1) 61 [.ref (G.2.1 + 47), .int a1, .int a2, .int a3] 61 h (r_gp p q) z F := by
  subst e3
  have h10 := ho.1
  have hu := a_tr_le ho (x := r) (y := s) (by omega) (by omega)
  have ho1 := (ho.2.2.2 r hr).2
  have ho2 := (ho.2.2.2 s hs).2
  rcases (show v = 0 ∨ v = 1 ∨ v = 2 by omega) with e | e | e
  · subst e
    refine r_C_of (by decide +kernel) (Nat.le_of_ble_eq_true rfl) ?_
    refine j_ls (ls' := [(0, _), (1, _), (2, _), (3, _)]) rfl ?_
    refine j_aload_n d_Mo_behindOf_0 rfl rfl ?_
    refine j_iload_n d_Mo_behindOf_1 rfl rfl ?_
    refine j_iload_n d_Mo_behindOf_2 rfl rfl ?_
    refine q_i (s_Mo_behindOf_3 rfl (by decide)) rfl (Nat.le_of_ble_eq_true rfl) (Nat.le_of_ble_eq_true rfl) ?_
    refine c_Mo_travel hN ho (x := r) (y := s) (by omega) (by omega) e1 e2 ?_
    refine j_istore (ls' := [(4, _), (0, _), (1, _), (2, _), (3, _)]) d_Mo_behindOf_6 (by decide) rfl ?_
    refine j_aload_n d_Mo_behindOf_8 rfl rfl ?_
    refine j_getr d_Mo_behindOf_9 f_Mo_16 rfl rfl (by decide) rfl ?_
    refine j_iload_n d_Mo_behindOf_12 rfl rfl ?_
    refine j_iav d_Mo_behindOf_13 rfl (by decide) (j := r) (e1) (by omega) (by decide) ((hN.2.2.2 r hr).2) ?_
    refine j_iload d_Mo_behindOf_14 rfl ?_
    refine j_iadd d_Mo_behindOf_16 ?_
    refine j_bipush (v := 24) d_Mo_behindOf_17 (by decide) ?_
    refine j_irem d_Mo_behindOf_19 (by decide) ?_
    rw [nI_add, show (24 : Int32) = nI 24 from rfl, pk_rem (by omega) (by decide) (by decide)]
    refine j_istore (ls' := [(5, _), (4, _), (0, _), (1, _), (2, _), (3, _)]) d_Mo_behindOf_20 (by decide) rfl ?_
    refine j_aload_n d_Mo_behindOf_22 rfl rfl ?_
    refine j_getr d_Mo_behindOf_23 f_Mo_16 rfl rfl (by decide) rfl ?_
    refine j_iload_n d_Mo_behindOf_26 rfl rfl ?_
    refine j_iav d_Mo_behindOf_27 rfl (by decide) (j := s) (e2) (by omega) (by decide) ((hN.2.2.2 s hs).2) ?_
    refine j_bipush (v := 24) d_Mo_behindOf_28 (by decide) ?_
    refine j_iadd d_Mo_behindOf_30 ?_
    refine j_iload d_Mo_behindOf_31 rfl ?_
    refine j_isub d_Mo_behindOf_33 ?_
    refine j_bipush (v := 24) d_Mo_behindOf_34 (by decide) ?_
    refine j_irem d_Mo_behindOf_36 (by decide) ?_
    rw [show (24 : Int32) = nI 24 from rfl, nI_add, pk_sub (by omega), pk_rem (by omega) (by decide) (by decide)]
    refine j_istore (ls' := [(6, _), (5, _), (4, _), (0, _), (1, _), (2, _), (3, _)]) d_Mo_behindOf_37 (by decide) rfl ?_
    refine j_iload_n d_Mo_behindOf_39 rfl rfl ?_
    refine j_if_ne (tgt := 54) d_Mo_behindOf_40 rfl (fun bq1 => False.elim (bq1 rfl)) (fun bq1 => ?_)
    refine j_bipush (v := 48) d_Mo_behindOf_43 (by decide) ?_
    refine j_iload d_Mo_behindOf_45 rfl ?_
    refine j_iadd d_Mo_behindOf_47 ?_
    refine j_iload d_Mo_behindOf_48 rfl ?_
    refine j_iadd d_Mo_behindOf_50 ?_
    refine j_goto (tgt := 69) d_Mo_behindOf_51 rfl ?_
    refine j_iret d_Mo_behindOf_69 rfl ?_
    refine q_i1 hF ?_
    show _ = nI (48 + a_tr D r s + (D.2.2.2.2 s + 23 * (D.2.2.2.2 r + 24 + a_tr D r s)) % 24)
    rw [← a_beM, show (48 : Int32) = nI 48 from rfl, nI_add, nI_add]
  · subst e
    refine r_C_of (by decide +kernel) (Nat.le_of_ble_eq_true rfl) ?_
    refine j_ls (ls' := [(0, _), (1, _), (2, _), (3, _)]) rfl ?_
    refine j_aload_n d_Mo_behindOf_0 rfl rfl ?_
    refine j_iload_n d_Mo_behindOf_1 rfl rfl ?_
    refine j_iload_n d_Mo_behindOf_2 rfl rfl ?_
    refine q_i (s_Mo_behindOf_3 rfl (by decide)) rfl (Nat.le_of_ble_eq_true rfl) (Nat.le_of_ble_eq_true rfl) ?_
    refine c_Mo_travel hN ho (x := r) (y := s) (by omega) (by omega) e1 e2 ?_
    refine j_istore (ls' := [(4, _), (0, _), (1, _), (2, _), (3, _)]) d_Mo_behindOf_6 (by decide) rfl ?_
    refine j_aload_n d_Mo_behindOf_8 rfl rfl ?_
    refine j_getr d_Mo_behindOf_9 f_Mo_16 rfl rfl (by decide) rfl ?_
    refine j_iload_n d_Mo_behindOf_12 rfl rfl ?_
    refine j_iav d_Mo_behindOf_13 rfl (by decide) (j := r) (e1) (by omega) (by decide) ((hN.2.2.2 r hr).2) ?_
    refine j_iload d_Mo_behindOf_14 rfl ?_
    refine j_iadd d_Mo_behindOf_16 ?_
    refine j_bipush (v := 24) d_Mo_behindOf_17 (by decide) ?_
    refine j_irem d_Mo_behindOf_19 (by decide) ?_
    rw [nI_add, show (24 : Int32) = nI 24 from rfl, pk_rem (by omega) (by decide) (by decide)]
    refine j_istore (ls' := [(5, _), (4, _), (0, _), (1, _), (2, _), (3, _)]) d_Mo_behindOf_20 (by decide) rfl ?_
    refine j_aload_n d_Mo_behindOf_22 rfl rfl ?_
    refine j_getr d_Mo_behindOf_23 f_Mo_16 rfl rfl (by decide) rfl ?_
    refine j_iload_n d_Mo_behindOf_26 rfl rfl ?_
    refine j_iav d_Mo_behindOf_27 rfl (by decide) (j := s) (e2) (by omega) (by decide) ((hN.2.2.2 s hs).2) ?_
    refine j_bipush (v := 24) d_Mo_behindOf_28 (by decide) ?_
    refine j_iadd d_Mo_behindOf_30 ?_
    refine j_iload d_Mo_behindOf_31 rfl ?_
    refine j_isub d_Mo_behindOf_33 ?_
    refine j_bipush (v := 24) d_Mo_behindOf_34 (by decide) ?_
    refine j_irem d_Mo_behindOf_36 (by decide) ?_
    rw [show (24 : Int32) = nI 24 from rfl, nI_add, pk_sub (by omega), pk_rem (by omega) (by decide) (by decide)]
    refine j_istore (ls' := [(6, _), (5, _), (4, _), (0, _), (1, _), (2, _), (3, _)]) d_Mo_behindOf_37 (by decide) rfl ?_
    refine j_iload_n d_Mo_behindOf_39 rfl rfl ?_
    refine j_if_ne (tgt := 54) d_Mo_behindOf_40 rfl (fun bq1 => ?_) (fun bq1 => False.elim (absurd bq1 (by decide)))
    refine j_iload_n d_Mo_behindOf_54 rfl rfl ?_
    refine j_iconst (v := 1) d_Mo_behindOf_55 rfl ?_
    refine j_icmp_ne (tgt := 64) d_Mo_behindOf_56 rfl (fun bq2 => False.elim (bq2 rfl)) (fun bq2 => ?_)
    refine j_iload d_Mo_behindOf_59 rfl ?_
    refine j_goto (tgt := 69) d_Mo_behindOf_61 rfl ?_
    refine j_iret d_Mo_behindOf_69 rfl ?_
    exact q_i1 hF rfl
  · subst e
    refine r_C_of (by decide +kernel) (Nat.le_of_ble_eq_true rfl) ?_
    refine j_ls (ls' := [(0, _), (1, _), (2, _), (3, _)]) rfl ?_
    refine j_aload_n d_Mo_behindOf_0 rfl rfl ?_
    refine j_iload_n d_Mo_behindOf_1 rfl rfl ?_
    refine j_iload_n d_Mo_behindOf_2 rfl rfl ?_
    refine q_i (s_Mo_behindOf_3 rfl (by decide)) rfl (Nat.le_of_ble_eq_true rfl) (Nat.le_of_ble_eq_true rfl) ?_
    refine c_Mo_travel hN ho (x := r) (y := s) (by omega) (by omega) e1 e2 ?_
    refine j_istore (ls' := [(4, _), (0, _), (1, _), (2, _), (3, _)]) d_Mo_behindOf_6 (by decide) rfl ?_
    refine j_aload_n d_Mo_behindOf_8 rfl rfl ?_
    refine j_getr d_Mo_behindOf_9 f_Mo_16 rfl rfl (by decide) rfl ?_
    refine j_iload_n d_Mo_behindOf_12 rfl rfl ?_
    refine j_iav d_Mo_behindOf_13 rfl (by decide) (j := r) (e1) (by omega) (by decide) ((hN.2.2.2 r hr).2) ?_
    refine j_iload d_Mo_behindOf_14 rfl ?_
    refine j_iadd d_Mo_behindOf_16 ?_
    refine j_bipush (v := 24) d_Mo_behindOf_17 (by decide) ?_
    refine j_irem d_Mo_behindOf_19 (by decide) ?_
    rw [nI_add, show (24 : Int32) = nI 24 from rfl, pk_rem (by omega) (by decide) (by decide)]
    refine j_istore (ls' := [(5, _), (4, _), (0, _), (1, _), (2, _), (3, _)]) d_Mo_behindOf_20 (by decide) rfl ?_
    refine j_aload_n d_Mo_behindOf_22 rfl rfl ?_
    refine j_getr d_Mo_behindOf_23 f_Mo_16 rfl rfl (by decide) rfl ?_
    refine j_iload_n d_Mo_behindOf_26 rfl rfl ?_
    refine j_iav d_Mo_behindOf_27 rfl (by decide) (j := s) (e2) (by omega) (by decide) ((hN.2.2.2 s hs).2) ?_
    refine j_bipush (v := 24) d_Mo_behindOf_28 (by decide) ?_
    refine j_iadd d_Mo_behindOf_30 ?_
    refine j_iload d_Mo_behindOf_31 rfl ?_
    refine j_isub d_Mo_behindOf_33 ?_
    refine j_bipush (v := 24) d_Mo_behindOf_34 (by decide) ?_
    refine j_irem d_Mo_behindOf_36 (by decide) ?_
    rw [show (24 : Int32) = nI 24 from rfl, nI_add, pk_sub (by omega), pk_rem (by omega) (by decide) (by decide)]
    refine j_istore (ls' := [(6, _), (5, _), (4, _), (0, _), (1, _), (2, _), (3, _)]) d_Mo_behindOf_37 (by decide) rfl ?_
    refine j_iload_n d_Mo_behindOf_39 rfl rfl ?_
    refine j_if_ne (tgt := 54) d_Mo_behindOf_40 rfl (fun bq1 => ?_) (fun bq1 => False.elim (absurd bq1 (by decide)))
    refine j_iload_n d_Mo_behindOf_54 rfl rfl ?_
    refine j_iconst (v := 1) d_Mo_behindOf_55 rfl ?_
    refine j_icmp_ne (tgt := 64) d_Mo_behindOf_56 rfl (fun bq2 => ?_) (fun bq2 => False.elim (absurd bq2 (by decide)))
    refine j_bipush (v := 48) d_Mo_behindOf_64 (by decide) ?_
    refine j_iload d_Mo_behindOf_66 rfl ?_
    refine j_iadd d_Mo_behindOf_68 ?_
    refine j_iret d_Mo_behindOf_69 rfl ?_
    exact q_i1 hF a_beI2
set_option maxRecDepth 100000 in
set_option maxHeartbeats 4000000 in
theorem c_Mo_behind {G : r_X} {d : Nat} {h : r_HI} {p q : Nat} {z : r_HL} {F : Int32 → r_HI → r_HR → r_HL → Prop} {Z : a_Z} {x y w : Int32} (hM : p_M h Z) (ho : a_zok Z) (hF : ∀ h', r_ey r_As r_Js h h' → F (s_behind Z x y w) h' (r_gp p q) z) : r_Ci G m_Mo_behind (d + 20) 61 [.ref (G.2.1 + 47), .int x, .int y, .int w] 61 h (r_gp p q) z F := by
  obtain ⟨mG, mN, mJ0, m6, mW, mS, m11, m20, mkk, mkp⟩ := id hM
  obtain ⟨op, ⟨od, ok, otk, ow, os, okd⟩, o3, o4, o5, o6, o7⟩ := id ho
  obtain ⟨od1, od2, od3, od4⟩ := id od
  obtain ⟨ok1, ok2, ok3, ok4⟩ := id ok
  have os1 := os.1
  have op1 := op.1
  rcases ixc x Z.2.1.1.1 with ⟨ix1, hr1⟩ | ⟨r, hj1, e1, ix1, t1⟩
  · have hs : s_behind Z x y w = -101 := by simp [s_behind, ix1]
    rw [hs] at hF
    refine r_C_of (by decide +kernel) (Nat.le_of_ble_eq_true rfl) ?_
    refine j_ls (ls' := [(0, _), (1, _), (2, _), (3, _)]) rfl ?_
    refine j_aload_n d_Mo_behind_0 rfl rfl ?_
    refine j_iload_n d_Mo_behind_1 rfl rfl ?_
    refine q_i (s_Mo_behind_2 rfl (by decide)) rfl (Nat.le_of_ble_eq_true rfl) (Nat.le_of_ble_eq_true rfl) ?_
    refine c_Mo_isRingN mN od hr1 ?_
    refine j_if_eq (tgt := 21) d_Mo_behind_5 rfl (fun bq1 => ?_) (fun bq1 => False.elim (bq1 rfl))
    refine j_bipush (v := (-101)) d_Mo_behind_21 (by decide) ?_
    refine j_iret d_Mo_behind_23 rfl ?_
    exact q_i1 (hF _ r_ey.rf) rfl
  · rcases ixc y Z.2.1.1.1 with ⟨ix2, hr2⟩ | ⟨s, hj2, e2, ix2, t2⟩
    · have hs : s_behind Z x y w = -101 := by simp [s_behind, ix1, ix2]
      rw [hs] at hF
      refine r_C_of (by decide +kernel) (Nat.le_of_ble_eq_true rfl) ?_
      refine j_ls (ls' := [(0, _), (1, _), (2, _), (3, _)]) rfl ?_
      refine j_aload_n d_Mo_behind_0 rfl rfl ?_
      refine j_iload_n d_Mo_behind_1 rfl rfl ?_
      refine q_i (s_Mo_behind_2 rfl (by decide)) rfl (Nat.le_of_ble_eq_true rfl) (Nat.le_of_ble_eq_true rfl) ?_
      refine c_Mo_isRingY mN od hj1 e1 ?_
      refine j_if_eq (tgt := 21) d_Mo_behind_5 rfl (fun bq1 => False.elim (absurd bq1 (by decide))) (fun bq1 => ?_)
      refine j_aload_n d_Mo_behind_8 rfl rfl ?_
      refine j_iload_n d_Mo_behind_9 rfl rfl ?_
      refine q_i (s_Mo_behind_10 rfl (by decide)) rfl (Nat.le_of_ble_eq_true rfl) (Nat.le_of_ble_eq_true rfl) ?_
      refine c_Mo_isRingN mN od hr2 ?_
      refine j_if_eq (tgt := 21) d_Mo_behind_13 rfl (fun bq2 => ?_) (fun bq2 => False.elim (bq2 rfl))
      refine j_bipush (v := (-101)) d_Mo_behind_21 (by decide) ?_
      refine j_iret d_Mo_behind_23 rfl ?_
      exact q_i1 (hF _ r_ey.rf) rfl
    · by_cases rs : r = s
      · have hs : s_behind Z x y w = -101 := by simp [s_behind, ix1, ix2, rs]
        rw [hs] at hF
        refine r_C_of (by decide +kernel) (Nat.le_of_ble_eq_true rfl) ?_
        refine j_ls (ls' := [(0, _), (1, _), (2, _), (3, _)]) rfl ?_
        refine j_aload_n d_Mo_behind_0 rfl rfl ?_
        refine j_iload_n d_Mo_behind_1 rfl rfl ?_
        refine q_i (s_Mo_behind_2 rfl (by decide)) rfl (Nat.le_of_ble_eq_true rfl) (Nat.le_of_ble_eq_true rfl) ?_
        refine c_Mo_isRingY mN od hj1 e1 ?_
        refine j_if_eq (tgt := 21) d_Mo_behind_5 rfl (fun bq1 => False.elim (absurd bq1 (by decide))) (fun bq1 => ?_)
        refine j_aload_n d_Mo_behind_8 rfl rfl ?_
        refine j_iload_n d_Mo_behind_9 rfl rfl ?_
        refine q_i (s_Mo_behind_10 rfl (by decide)) rfl (Nat.le_of_ble_eq_true rfl) (Nat.le_of_ble_eq_true rfl) ?_
        refine c_Mo_isRingY mN od hj2 e2 ?_
        refine j_if_eq (tgt := 21) d_Mo_behind_13 rfl (fun bq2 => False.elim (absurd bq2 (by decide))) (fun bq2 => ?_)
        refine j_iload_n d_Mo_behind_16 rfl rfl ?_
        refine j_iload_n d_Mo_behind_17 rfl rfl ?_
        refine j_icmp_ne (tgt := 24) d_Mo_behind_18 rfl (fun bq3 => False.elim (bq3 (by rw [e1, e2, rs]))) (fun bq3 => ?_)
        refine j_bipush (v := (-101)) d_Mo_behind_21 (by decide) ?_
        refine j_iret d_Mo_behind_23 rfl ?_
        exact q_i1 (hF _ r_ey.rf) rfl
      · rcases ixc w 3 with ⟨ix3, hr3⟩ | ⟨v, hj3, e3, ix3, t3⟩
        · have hs : s_behind Z x y w = -102 := by simp [s_behind, ix1, ix2, ix3, rs]
          rw [hs] at hF
          refine r_C_of (by decide +kernel) (Nat.le_of_ble_eq_true rfl) ?_
          refine j_ls (ls' := [(0, _), (1, _), (2, _), (3, _)]) rfl ?_
          refine j_aload_n d_Mo_behind_0 rfl rfl ?_
          refine j_iload_n d_Mo_behind_1 rfl rfl ?_
          refine q_i (s_Mo_behind_2 rfl (by decide)) rfl (Nat.le_of_ble_eq_true rfl) (Nat.le_of_ble_eq_true rfl) ?_
          refine c_Mo_isRingY mN od hj1 e1 ?_
          refine j_if_eq (tgt := 21) d_Mo_behind_5 rfl (fun bq1 => False.elim (absurd bq1 (by decide))) (fun bq1 => ?_)
          refine j_aload_n d_Mo_behind_8 rfl rfl ?_
          refine j_iload_n d_Mo_behind_9 rfl rfl ?_
          refine q_i (s_Mo_behind_10 rfl (by decide)) rfl (Nat.le_of_ble_eq_true rfl) (Nat.le_of_ble_eq_true rfl) ?_
          refine c_Mo_isRingY mN od hj2 e2 ?_
          refine j_if_eq (tgt := 21) d_Mo_behind_13 rfl (fun bq2 => False.elim (absurd bq2 (by decide))) (fun bq2 => ?_)
          refine j_iload_n d_Mo_behind_16 rfl rfl ?_
          refine j_iload_n d_Mo_behind_17 rfl rfl ?_
          refine j_icmp_ne (tgt := 24) d_Mo_behind_18 rfl (fun bq3 => ?_) (fun bq3 => False.elim (rs ((nI_eq (by omega) (by omega)).mp (e1.symm.trans (bq3.trans e2)))))
          refine j_iload_n d_Mo_behind_24 rfl rfl ?_
          refine j_i2l d_Mo_behind_25 ?_
          refine j_lconst (v := 0) d_Mo_behind_26 rfl ?_
          refine j_ldc2 d_Mo_behind_27 k_Mo_253 ?_
          refine q_i s_Mo_behind_30 rfl (Nat.le_of_ble_eq_true rfl) (Nat.le_of_ble_eq_true rfl) ?_
          refine c_inN 0 2 rfl rfl (by omega) ?_
          refine j_if_eq (tgt := 46) d_Mo_behind_33 rfl (fun bq4 => ?_) (fun bq4 => False.elim (bq4 rfl))
          refine j_bipush (v := (-102)) d_Mo_behind_46 (by decide) ?_
          refine j_iret d_Mo_behind_48 rfl ?_
          exact q_i1 (hF _ r_ey.rf) rfl
        · have hs : s_behind Z x y w = nI (a_be Z.2.1.1 r s v) := by simp [s_behind, ix1, ix2, ix3, rs]
          rw [hs] at hF
          refine r_C_of (by decide +kernel) (Nat.le_of_ble_eq_true rfl) ?_
          refine j_ls (ls' := [(0, _), (1, _), (2, _), (3, _)]) rfl ?_
          refine j_aload_n d_Mo_behind_0 rfl rfl ?_
          refine j_iload_n d_Mo_behind_1 rfl rfl ?_
          refine q_i (s_Mo_behind_2 rfl (by decide)) rfl (Nat.le_of_ble_eq_true rfl) (Nat.le_of_ble_eq_true rfl) ?_
          refine c_Mo_isRingY mN od hj1 e1 ?_
          refine j_if_eq (tgt := 21) d_Mo_behind_5 rfl (fun bq1 => False.elim (absurd bq1 (by decide))) (fun bq1 => ?_)
          refine j_aload_n d_Mo_behind_8 rfl rfl ?_
          refine j_iload_n d_Mo_behind_9 rfl rfl ?_
          refine q_i (s_Mo_behind_10 rfl (by decide)) rfl (Nat.le_of_ble_eq_true rfl) (Nat.le_of_ble_eq_true rfl) ?_
          refine c_Mo_isRingY mN od hj2 e2 ?_
          refine j_if_eq (tgt := 21) d_Mo_behind_13 rfl (fun bq2 => False.elim (absurd bq2 (by decide))) (fun bq2 => ?_)
          refine j_iload_n d_Mo_behind_16 rfl rfl ?_
          refine j_iload_n d_Mo_behind_17 rfl rfl ?_
          refine j_icmp_ne (tgt := 24) d_Mo_behind_18 rfl (fun bq3 => ?_) (fun bq3 => False.elim (rs ((nI_eq (by omega) (by omega)).mp (e1.symm.trans (bq3.trans e2)))))
          refine j_iload_n d_Mo_behind_24 rfl rfl ?_
          refine j_i2l d_Mo_behind_25 ?_
          refine j_lconst (v := 0) d_Mo_behind_26 rfl ?_
          refine j_ldc2 d_Mo_behind_27 k_Mo_253 ?_
          refine q_i s_Mo_behind_30 rfl (Nat.le_of_ble_eq_true rfl) (Nat.le_of_ble_eq_true rfl) ?_
          refine c_inY 0 2 rfl rfl (by omega) ?_
          refine j_if_eq (tgt := 46) d_Mo_behind_33 rfl (fun bq4 => False.elim (absurd bq4 (by decide))) (fun bq4 => ?_)
          refine j_aload_n d_Mo_behind_36 rfl rfl ?_
          refine j_iload_n d_Mo_behind_37 rfl rfl ?_
          refine j_iload_n d_Mo_behind_38 rfl rfl ?_
          refine j_iload_n d_Mo_behind_39 rfl rfl ?_
          refine q_i (s_Mo_behind_40 rfl (by decide)) rfl (Nat.le_of_ble_eq_true rfl) (Nat.le_of_ble_eq_true rfl) ?_
          refine c_Mo_behindOf mN od hj1 hj2 hj3 e1 e2 e3 ?_
          refine j_goto (tgt := 48) d_Mo_behind_43 rfl ?_
          refine j_iret d_Mo_behind_48 rfl ?_
          exact q_i1 (hF _ r_ey.rf) rfl
set_option maxRecDepth 100000 in
set_option maxHeartbeats 4000000 in
theorem c_Mo_see {G : r_X} {d : Nat} {h : r_HI} {p q : Nat} {z : r_HL} {F : Int32 → r_HI → r_HR → r_HL → Prop} {Z : a_Z} {x y : Int32} (hM : p_M h Z) (ho : a_zok Z) (hF : ∀ h', r_ml h h' → p_M h' (s_see Z x y).2 → F (s_see Z x y).1 h' (r_gp p q) z) : r_Ci G m_Mo_see (d + 20) 61 [.ref (G.2.1 + 47), .int x, .int y] 61 h (r_gp p q) z F := by
  obtain ⟨mG, mN, mJ0, m6, mW, mS, m11, m20, mkk, mkp⟩ := id hM
  obtain ⟨op, ⟨od, ok, otk, ow, os, okd⟩, o3, o4, o5, o6, o7⟩ := id ho
  obtain ⟨od1, od2, od3, od4⟩ := id od
  obtain ⟨ok1, ok2, ok3, ok4⟩ := id ok
  have os1 := os.1
  have op1 := op.1
  rcases ixc x 10 with ⟨ix1, hr1⟩ | ⟨r, hj1, e1, ix1, t1⟩
  · have hs : s_see Z x y = (-102, Z) := by simp [s_see, ix1]
    rw [hs] at hF
    refine r_C_of (by decide +kernel) (Nat.le_of_ble_eq_true rfl) ?_
    refine j_ls (ls' := [(0, _), (1, _), (2, _)]) rfl ?_
    refine j_iload_n d_Mo_see_0 rfl rfl ?_
    refine j_i2l d_Mo_see_1 ?_
    refine j_lconst (v := 1) d_Mo_see_2 rfl ?_
    refine j_ldc2 d_Mo_see_3 k_Mo_211 ?_
    refine q_i s_Mo_see_6 rfl (Nat.le_of_ble_eq_true rfl) (Nat.le_of_ble_eq_true rfl) ?_
    refine c_inN 1 9 rfl rfl (by omega) ?_
    refine j_if_eq (tgt := 24) d_Mo_see_9 rfl (fun bq1 => ?_) (fun bq1 => False.elim (bq1 rfl))
    refine j_bipush (v := (-102)) d_Mo_see_24 (by decide) ?_
    refine j_iret d_Mo_see_26 rfl ?_
    exact q_i1 (hF _ r_ml.rf hM) rfl
  · by_cases c0 : r = 0
    · have hs : s_see Z x y = (-102, Z) := by simp [s_see, ix1, c0]
      rw [hs] at hF
      refine r_C_of (by decide +kernel) (Nat.le_of_ble_eq_true rfl) ?_
      refine j_ls (ls' := [(0, _), (1, _), (2, _)]) rfl ?_
      refine j_iload_n d_Mo_see_0 rfl rfl ?_
      refine j_i2l d_Mo_see_1 ?_
      refine j_lconst (v := 1) d_Mo_see_2 rfl ?_
      refine j_ldc2 d_Mo_see_3 k_Mo_211 ?_
      refine q_i s_Mo_see_6 rfl (Nat.le_of_ble_eq_true rfl) (Nat.le_of_ble_eq_true rfl) ?_
      refine c_inN 1 9 rfl rfl (by omega) ?_
      refine j_if_eq (tgt := 24) d_Mo_see_9 rfl (fun bq1 => ?_) (fun bq1 => False.elim (bq1 rfl))
      refine j_bipush (v := (-102)) d_Mo_see_24 (by decide) ?_
      refine j_iret d_Mo_see_26 rfl ?_
      exact q_i1 (hF _ r_ml.rf hM) rfl
    · rcases ixc y 100 with ⟨ix2, hr2⟩ | ⟨t, hj2, e2, ix2, t2⟩
      · have hs : s_see Z x y = (-102, Z) := by simp [s_see, ix1, ix2, c0]
        rw [hs] at hF
        refine r_C_of (by decide +kernel) (Nat.le_of_ble_eq_true rfl) ?_
        refine j_ls (ls' := [(0, _), (1, _), (2, _)]) rfl ?_
        refine j_iload_n d_Mo_see_0 rfl rfl ?_
        refine j_i2l d_Mo_see_1 ?_
        refine j_lconst (v := 1) d_Mo_see_2 rfl ?_
        refine j_ldc2 d_Mo_see_3 k_Mo_211 ?_
        refine q_i s_Mo_see_6 rfl (Nat.le_of_ble_eq_true rfl) (Nat.le_of_ble_eq_true rfl) ?_
        refine c_inY 1 9 rfl rfl (by omega) ?_
        refine j_if_eq (tgt := 24) d_Mo_see_9 rfl (fun bq1 => False.elim (absurd bq1 (by decide))) (fun bq1 => ?_)
        refine j_iload_n d_Mo_see_12 rfl rfl ?_
        refine j_i2l d_Mo_see_13 ?_
        refine j_lconst (v := 0) d_Mo_see_14 rfl ?_
        refine j_ldc2 d_Mo_see_15 k_Mo_207 ?_
        refine q_i s_Mo_see_18 rfl (Nat.le_of_ble_eq_true rfl) (Nat.le_of_ble_eq_true rfl) ?_
        refine c_inN 0 99 rfl rfl (by omega) ?_
        refine j_if_ne (tgt := 27) d_Mo_see_21 rfl (fun bq2 => False.elim (bq2 rfl)) (fun bq2 => ?_)
        refine j_bipush (v := (-102)) d_Mo_see_24 (by decide) ?_
        refine j_iret d_Mo_see_26 rfl ?_
        exact q_i1 (hF _ r_ml.rf hM) rfl
      · by_cases hR : Z.2.1.1.1 = 0
        · have hs : s_see Z x y = (-103, Z) := by simp [s_see, ix1, ix2, c0, hR]
          rw [hs] at hF
          refine r_C_of (by decide +kernel) (Nat.le_of_ble_eq_true rfl) ?_
          refine j_ls (ls' := [(0, _), (1, _), (2, _)]) rfl ?_
          refine j_iload_n d_Mo_see_0 rfl rfl ?_
          refine j_i2l d_Mo_see_1 ?_
          refine j_lconst (v := 1) d_Mo_see_2 rfl ?_
          refine j_ldc2 d_Mo_see_3 k_Mo_211 ?_
          refine q_i s_Mo_see_6 rfl (Nat.le_of_ble_eq_true rfl) (Nat.le_of_ble_eq_true rfl) ?_
          refine c_inY 1 9 rfl rfl (by omega) ?_
          refine j_if_eq (tgt := 24) d_Mo_see_9 rfl (fun bq1 => False.elim (absurd bq1 (by decide))) (fun bq1 => ?_)
          refine j_iload_n d_Mo_see_12 rfl rfl ?_
          refine j_i2l d_Mo_see_13 ?_
          refine j_lconst (v := 0) d_Mo_see_14 rfl ?_
          refine j_ldc2 d_Mo_see_15 k_Mo_207 ?_
          refine q_i s_Mo_see_18 rfl (Nat.le_of_ble_eq_true rfl) (Nat.le_of_ble_eq_true rfl) ?_
          refine c_inY 0 99 rfl rfl (by omega) ?_
          refine j_if_ne (tgt := 27) d_Mo_see_21 rfl (fun bq2 => ?_) (fun bq2 => False.elim (absurd bq2 (by decide)))
          refine j_aload_n d_Mo_see_27 rfl rfl ?_
          refine q_i (s_Mo_see_28 rfl (by decide)) rfl (Nat.le_of_ble_eq_true rfl) (Nat.le_of_ble_eq_true rfl) ?_
          refine c_Mo_lacksY mN od hR ?_
          refine j_if_eq (tgt := 37) d_Mo_see_31 rfl (fun bq3 => False.elim (absurd bq3 (by decide))) (fun bq3 => ?_)
          refine j_bipush (v := (-103)) d_Mo_see_34 (by decide) ?_
          refine j_iret d_Mo_see_36 rfl ?_
          exact q_i1 (hF _ r_ml.rf hM) rfl
        · by_cases h6 : 6 ≤ Z.2.1.2.2.2.1.1
          · have hs : s_see Z x y = (-104, Z) := by simp [s_see, ix1, ix2, c0, hR, h6]
            rw [hs] at hF
            refine r_C_of (by decide +kernel) (Nat.le_of_ble_eq_true rfl) ?_
            refine j_ls (ls' := [(0, _), (1, _), (2, _)]) rfl ?_
            refine j_iload_n d_Mo_see_0 rfl rfl ?_
            refine j_i2l d_Mo_see_1 ?_
            refine j_lconst (v := 1) d_Mo_see_2 rfl ?_
            refine j_ldc2 d_Mo_see_3 k_Mo_211 ?_
            refine q_i s_Mo_see_6 rfl (Nat.le_of_ble_eq_true rfl) (Nat.le_of_ble_eq_true rfl) ?_
            refine c_inY 1 9 rfl rfl (by omega) ?_
            refine j_if_eq (tgt := 24) d_Mo_see_9 rfl (fun bq1 => False.elim (absurd bq1 (by decide))) (fun bq1 => ?_)
            refine j_iload_n d_Mo_see_12 rfl rfl ?_
            refine j_i2l d_Mo_see_13 ?_
            refine j_lconst (v := 0) d_Mo_see_14 rfl ?_
            refine j_ldc2 d_Mo_see_15 k_Mo_207 ?_
            refine q_i s_Mo_see_18 rfl (Nat.le_of_ble_eq_true rfl) (Nat.le_of_ble_eq_true rfl) ?_
            refine c_inY 0 99 rfl rfl (by omega) ?_
            refine j_if_ne (tgt := 27) d_Mo_see_21 rfl (fun bq2 => ?_) (fun bq2 => False.elim (absurd bq2 (by decide)))
            refine j_aload_n d_Mo_see_27 rfl rfl ?_
            refine q_i (s_Mo_see_28 rfl (by decide)) rfl (Nat.le_of_ble_eq_true rfl) (Nat.le_of_ble_eq_true rfl) ?_
            refine c_Mo_lacksN mN od hR ?_
            refine j_if_eq (tgt := 37) d_Mo_see_31 rfl (fun bq3 => ?_) (fun bq3 => False.elim (bq3 rfl))
            refine j_aload_n d_Mo_see_37 rfl rfl ?_
            refine j_geti d_Mo_see_38 f_Mo_117 rfl rfl (by decide) ?_
            refine j_bipush (v := 6) d_Mo_see_41 (by decide) ?_
            refine j_icmp_ne (tgt := 49) d_Mo_see_43 rfl (fun bq4 => False.elim (bq4 (by rw [mS.1, show Z.2.1.2.2.2.1.1 = 6 by omega]; rfl))) (fun bq4 => ?_)
            refine j_bipush (v := (-104)) d_Mo_see_46 (by decide) ?_
            refine j_iret d_Mo_see_48 rfl ?_
            exact q_i1 (hF _ r_ml.rf hM) rfl
          · have hs : s_see Z x y = (nI (Z.2.1.2.2.2.1.1 + 1), z_S Z (Z.2.1.2.2.2.1.1 + 1, va_up Z.2.1.2.2.2.1.2.1 Z.2.1.2.2.2.1.1 r, va_up Z.2.1.2.2.2.1.2.2 Z.2.1.2.2.2.1.1 t)) := by simp [s_see, ix1, ix2, c0, hR, h6]
            rw [hs] at hF
            refine r_C_of (by decide +kernel) (Nat.le_of_ble_eq_true rfl) ?_
            refine j_ls (ls' := [(0, _), (1, _), (2, _)]) rfl ?_
            refine j_iload_n d_Mo_see_0 rfl rfl ?_
            refine j_i2l d_Mo_see_1 ?_
            refine j_lconst (v := 1) d_Mo_see_2 rfl ?_
            refine j_ldc2 d_Mo_see_3 k_Mo_211 ?_
            refine q_i s_Mo_see_6 rfl (Nat.le_of_ble_eq_true rfl) (Nat.le_of_ble_eq_true rfl) ?_
            refine c_inY 1 9 rfl rfl (by omega) ?_
            refine j_if_eq (tgt := 24) d_Mo_see_9 rfl (fun bq1 => False.elim (absurd bq1 (by decide))) (fun bq1 => ?_)
            refine j_iload_n d_Mo_see_12 rfl rfl ?_
            refine j_i2l d_Mo_see_13 ?_
            refine j_lconst (v := 0) d_Mo_see_14 rfl ?_
            refine j_ldc2 d_Mo_see_15 k_Mo_207 ?_
            refine q_i s_Mo_see_18 rfl (Nat.le_of_ble_eq_true rfl) (Nat.le_of_ble_eq_true rfl) ?_
            refine c_inY 0 99 rfl rfl (by omega) ?_
            refine j_if_ne (tgt := 27) d_Mo_see_21 rfl (fun bq2 => ?_) (fun bq2 => False.elim (absurd bq2 (by decide)))
            refine j_aload_n d_Mo_see_27 rfl rfl ?_
            refine q_i (s_Mo_see_28 rfl (by decide)) rfl (Nat.le_of_ble_eq_true rfl) (Nat.le_of_ble_eq_true rfl) ?_
            refine c_Mo_lacksN mN od hR ?_
            refine j_if_eq (tgt := 37) d_Mo_see_31 rfl (fun bq3 => ?_) (fun bq3 => False.elim (bq3 rfl))
            refine j_aload_n d_Mo_see_37 rfl rfl ?_
            refine j_geti d_Mo_see_38 f_Mo_117 rfl rfl (by decide) ?_
            refine j_bipush (v := 6) d_Mo_see_41 (by decide) ?_
            refine j_icmp_ne (tgt := 49) d_Mo_see_43 rfl (fun bq4 => ?_) (fun bq4 => False.elim (absurd ((nI_eq (b := 6) (by omega) (by omega)).mp (mS.1.symm.trans bq4)) (by omega)))
            refine j_aload_n d_Mo_see_49 rfl rfl ?_
            refine j_getr d_Mo_see_50 f_Mo_34 rfl rfl (by decide) rfl ?_
            refine j_iconst (v := 2) d_Mo_see_53 rfl ?_
            refine j_aload_n d_Mo_see_54 rfl rfl ?_
            refine j_geti d_Mo_see_55 f_Mo_117 rfl rfl (by decide) ?_
            refine j_imul d_Mo_see_58 ?_
            refine j_iload_n d_Mo_see_59 rfl rfl ?_
            refine j_iap d_Mo_see_60 rfl (by decide) (j := 2 * Z.2.1.2.2.2.1.1) (by rw [mS.1]; exact m2_0 _) (by omega) (by decide) ?_
            refine j_aload_n d_Mo_see_61 rfl rfl ?_
            refine j_getr d_Mo_see_62 f_Mo_34 rfl rfl (by decide) rfl ?_
            refine j_iconst (v := 2) d_Mo_see_65 rfl ?_
            refine j_aload_n d_Mo_see_66 rfl rfl ?_
            refine j_geti d_Mo_see_67 f_Mo_117 rfl rfl (by decide) ?_
            refine j_imul d_Mo_see_70 ?_
            refine j_iconst (v := 1) d_Mo_see_71 rfl ?_
            refine j_iadd d_Mo_see_72 ?_
            refine j_iload_n d_Mo_see_73 rfl rfl ?_
            refine j_iap d_Mo_see_74 rfl (by decide) (j := 2 * Z.2.1.2.2.2.1.1 + 1) (by show 2 * h 47 24 + 1 = _; rw [mS.1]; exact m2_1 _) (by omega) (by decide) ?_
            refine j_aload_n d_Mo_see_75 rfl rfl ?_
            refine j_dup d_Mo_see_76 rfl ?_
            refine j_geti d_Mo_see_77 f_Mo_117 rfl rfl (by decide) ?_
            refine j_iconst (v := 1) d_Mo_see_80 rfl ?_
            refine j_iadd d_Mo_see_81 ?_
            refine j_st (st' := [.int (h 47 24 + 1), .ref (G.2.1 + 47)]) rfl ?_
            rw [mS.1, nI_1]
            refine j_puti d_Mo_see_82 f_Mo_117 (by decide) rfl rfl (by decide) ?_
            refine j_aload_n d_Mo_see_85 rfl rfl ?_
            refine j_geti d_Mo_see_86 f_Mo_117 rfl rfl (by decide) ?_
            refine j_iret d_Mo_see_89 rfl ?_
            have yy : r_ey [56] [24] h (r_up (r_up (r_up h 56 (2 * Z.2.1.2.2.2.1.1) x) 56 (2 * Z.2.1.2.2.2.1.1 + 1) y) 47 24 (nI (Z.2.1.2.2.2.1.1 + 1))) := ((r_ey.rf.up (by decide) (by decide)).up (by decide) (by decide)).fl (by decide)
            refine q_i1 (hF _ (yy.ml (by decide)) (hM.S yy ⟨rfl, fun i hi => ?_⟩)) rfl
            have hi : i < Z.2.1.2.2.2.1.1 + 1 := hi
            show r_up (r_up h 56 (2 * Z.2.1.2.2.2.1.1) x) 56 (2 * Z.2.1.2.2.2.1.1 + 1) y 56 (2 * i) = nI (va_up Z.2.1.2.2.2.1.2.1 Z.2.1.2.2.2.1.1 r i) ∧ r_up (r_up h 56 (2 * Z.2.1.2.2.2.1.1) x) 56 (2 * Z.2.1.2.2.2.1.1 + 1) y 56 (2 * i + 1) = nI (va_up Z.2.1.2.2.2.1.2.2 Z.2.1.2.2.2.1.1 t i)
            rw [r_up_k, r_up_k]
            by_cases e9 : i = Z.2.1.2.2.2.1.1
            · rw [e9]
              refine ⟨?_, ?_⟩
              · rw [pk_un (by omega), pk_us, e1]; simp [va_up]
              · rw [pk_us, e2]; simp [va_up]
            · obtain ⟨g1, g2⟩ := mS.2 i (by omega)
              refine ⟨?_, ?_⟩
              · rw [pk_un (by omega), pk_un (by omega)]; simp only [va_up, if_neg e9]; exact g1
              · rw [pk_un (by omega), pk_un (by omega)]; simp only [va_up, if_neg e9]; exact g2
set_option maxRecDepth 100000 in
set_option maxHeartbeats 4000000 in
theorem c_Mo_forget {G : r_X} {d : Nat} {h : r_HI} {p q : Nat} {z : r_HL} {F : Int32 → r_HI → r_HR → r_HL → Prop} {Z : a_Z} (hM : p_M h Z) (ho : a_zok Z) (hF : ∀ h', r_ml h h' → p_M h' (s_forget Z).2 → F (s_forget Z).1 h' (r_gp p q) z) : r_Ci G m_Mo_forget (d + 20) 61 [.ref (G.2.1 + 47)] 61 h (r_gp p q) z F := by
  obtain ⟨mG, mN, mJ0, m6, mW, mS, m11, m20, mkk, mkp⟩ := id hM
  obtain ⟨op, ⟨od, ok, otk, ow, os, okd⟩, o3, o4, o5, o6, o7⟩ := id ho
  obtain ⟨od1, od2, od3, od4⟩ := id od
  obtain ⟨ok1, ok2, ok3, ok4⟩ := id ok
  have os1 := os.1
  have op1 := op.1
  have hs : s_forget Z = (nI Z.2.1.2.2.2.1.1, z_S Z (0, Z.2.1.2.2.2.1.2)) := by simp [s_forget, s_forget]
  rw [hs] at hF
  refine r_C_of (by decide +kernel) (Nat.le_of_ble_eq_true rfl) ?_
  refine j_ls (ls' := [(0, _)]) rfl ?_
  refine j_aload_n d_Mo_forget_0 rfl rfl ?_
  refine j_geti d_Mo_forget_1 f_Mo_117 rfl rfl (by decide) ?_
  refine j_istore_n (ls' := [(1, _), (0, _)]) d_Mo_forget_4 rfl (by decide) rfl ?_
  refine j_aload_n d_Mo_forget_5 rfl rfl ?_
  refine j_iconst (v := 0) d_Mo_forget_6 rfl ?_
  refine j_puti d_Mo_forget_7 f_Mo_117 (by decide) rfl rfl (by decide) ?_
  refine j_iload_n d_Mo_forget_10 rfl rfl ?_
  refine j_iret d_Mo_forget_11 rfl ?_
  have yy : r_ey [56] [24] h (r_up h 47 24 0) := r_ey.rf.fl (by decide)
  exact q_i1 (hF _ (yy.ml (by decide)) (hM.S yy ⟨rfl, fun i hi => absurd hi (Nat.not_lt_zero i)⟩)) mS.1
set_option maxRecDepth 100000 in
set_option maxHeartbeats 4000000 in
theorem c_Mo_image {G : r_X} {d : Nat} {h : r_HI} {p q : Nat} {z : r_HL} {F : Int32 → r_HI → r_HR → r_HL → Prop} {Z : a_Z} (hM : p_M h Z) (ho : a_zok Z) (hF : ∀ h', r_ml h h' → p_M h' (s_image Z).2 → F (s_image Z).1 h' (r_gp p q) z) : r_Ci G m_Mo_image (d + 20) 61 [.ref (G.2.1 + 47)] 61 h (r_gp p q) z F := by
  obtain ⟨mG, mN, mJ0, m6, mW, mS, m11, m20, mkk, mkp⟩ := id hM
  obtain ⟨op, ⟨od, ok, otk, ow, os, okd⟩, o3, o4, o5, o6, o7⟩ := id ho
  obtain ⟨od1, od2, od3, od4⟩ := id od
  obtain ⟨ok1, ok2, ok3, ok4⟩ := id ok
  have os1 := os.1
  have op1 := op.1
  by_cases hR : Z.2.1.1.1 = 0
  · have hs : s_image Z = (-103, Z) := by simp [s_image, hR]
    rw [hs] at hF
    refine r_C_of (by decide +kernel) (Nat.le_of_ble_eq_true rfl) ?_
    refine j_ls (ls' := [(0, _)]) rfl ?_
    refine j_aload_n d_Mo_image_0 rfl rfl ?_
    refine q_i (s_Mo_image_1 rfl (by decide)) rfl (Nat.le_of_ble_eq_true rfl) (Nat.le_of_ble_eq_true rfl) ?_
    refine c_Mo_lacksY mN od hR ?_
    refine j_if_eq (tgt := 10) d_Mo_image_4 rfl (fun bq1 => False.elim (absurd bq1 (by decide))) (fun bq1 => ?_)
    refine j_bipush (v := (-103)) d_Mo_image_7 (by decide) ?_
    refine j_iret d_Mo_image_9 rfl ?_
    exact q_i1 (hF _ r_ml.rf hM) rfl
  · have hJ : p_J h Z.2.1.2.1 := by rw [← z_w_eq (K := Z.2.1.2.1) hR]; exact mJ0
    have hs : s_image Z = (nI Z.2.1.2.1.1, (Z.1, Z.2.1, Z.2.2.1, Z.2.2.2.1, 1, Z.2.1)) := by simp [s_image, hR]
    rw [hs] at hF
    refine r_C_of (by decide +kernel) (Nat.le_of_ble_eq_true rfl) ?_
    refine j_ls (ls' := [(0, _)]) rfl ?_
    refine j_aload_n d_Mo_image_0 rfl rfl ?_
    refine q_i (s_Mo_image_1 rfl (by decide)) rfl (Nat.le_of_ble_eq_true rfl) (Nat.le_of_ble_eq_true rfl) ?_
    refine c_Mo_lacksN mN od hR ?_
    refine j_if_eq (tgt := 10) d_Mo_image_4 rfl (fun bq1 => ?_) (fun bq1 => False.elim (bq1 rfl))
    refine j_aload_n d_Mo_image_10 rfl rfl ?_
    refine j_getr d_Mo_image_11 f_Mo_16 rfl rfl (by decide) rfl ?_
    refine j_aload_n d_Mo_image_14 rfl rfl ?_
    refine j_getr d_Mo_image_15 f_Mo_37 rfl rfl (by decide) rfl ?_
    refine q_v s_Mo_image_18 rfl (Nat.le_of_ble_eq_true rfl) (Nat.le_of_ble_eq_true rfl) ?_
    refine c_Mo_copy rfl rfl (by decide) (by decide) (by decide) (by decide) ?_
    refine j_aload_n d_Mo_image_21 rfl rfl ?_
    refine j_getr d_Mo_image_22 f_Mo_19 rfl rfl (by decide) rfl ?_
    refine j_aload_n d_Mo_image_25 rfl rfl ?_
    refine j_getr d_Mo_image_26 f_Mo_40 rfl rfl (by decide) rfl ?_
    refine q_v s_Mo_image_29 rfl (Nat.le_of_ble_eq_true rfl) (Nat.le_of_ble_eq_true rfl) ?_
    refine c_Mo_copy rfl rfl (by decide) (by decide) (by decide) (by decide) ?_
    refine j_aload_n d_Mo_image_32 rfl rfl ?_
    refine j_getr d_Mo_image_33 f_Mo_31 rfl rfl (by decide) rfl ?_
    refine j_aload_n d_Mo_image_36 rfl rfl ?_
    refine j_getr d_Mo_image_37 f_Mo_43 rfl rfl (by decide) rfl ?_
    refine q_v s_Mo_image_40 rfl (Nat.le_of_ble_eq_true rfl) (Nat.le_of_ble_eq_true rfl) ?_
    refine c_Mo_copy rfl rfl (by decide) (by decide) (by decide) (by decide) ?_
    refine j_aload_n d_Mo_image_43 rfl rfl ?_
    refine j_getr d_Mo_image_44 f_Mo_34 rfl rfl (by decide) rfl ?_
    refine j_aload_n d_Mo_image_47 rfl rfl ?_
    refine j_getr d_Mo_image_48 f_Mo_46 rfl rfl (by decide) rfl ?_
    refine q_v s_Mo_image_51 rfl (Nat.le_of_ble_eq_true rfl) (Nat.le_of_ble_eq_true rfl) ?_
    refine c_Mo_copy rfl rfl (by decide) (by decide) (by decide) (by decide) ?_
    refine j_aload_n d_Mo_image_54 rfl rfl ?_
    refine j_aload_n d_Mo_image_55 rfl rfl ?_
    refine j_geti d_Mo_image_56 f_Mo_102 rfl rfl (by decide) ?_
    refine j_puti d_Mo_image_59 f_Mo_291 (by decide) rfl rfl (by decide) ?_
    refine j_aload_n d_Mo_image_62 rfl rfl ?_
    refine j_aload_n d_Mo_image_63 rfl rfl ?_
    refine j_geti d_Mo_image_64 f_Mo_96 rfl rfl (by decide) ?_
    refine j_puti d_Mo_image_67 f_Mo_294 (by decide) rfl rfl (by decide) ?_
    refine j_aload_n d_Mo_image_70 rfl rfl ?_
    refine j_aload_n d_Mo_image_71 rfl rfl ?_
    refine j_geti d_Mo_image_72 f_Mo_99 rfl rfl (by decide) ?_
    refine j_puti d_Mo_image_75 f_Mo_297 (by decide) rfl rfl (by decide) ?_
    refine j_aload_n d_Mo_image_78 rfl rfl ?_
    refine j_aload_n d_Mo_image_79 rfl rfl ?_
    refine j_geti d_Mo_image_80 f_Mo_105 rfl rfl (by decide) ?_
    refine j_puti d_Mo_image_83 f_Mo_300 (by decide) rfl rfl (by decide) ?_
    refine j_aload_n d_Mo_image_86 rfl rfl ?_
    refine j_aload_n d_Mo_image_87 rfl rfl ?_
    refine j_geti d_Mo_image_88 f_Mo_108 rfl rfl (by decide) ?_
    refine j_puti d_Mo_image_91 f_Mo_303 (by decide) rfl rfl (by decide) ?_
    refine j_aload_n d_Mo_image_94 rfl rfl ?_
    refine j_aload_n d_Mo_image_95 rfl rfl ?_
    refine j_geti d_Mo_image_96 f_Mo_111 rfl rfl (by decide) ?_
    refine j_puti d_Mo_image_99 f_Mo_306 (by decide) rfl rfl (by decide) ?_
    refine j_aload_n d_Mo_image_102 rfl rfl ?_
    refine j_aload_n d_Mo_image_103 rfl rfl ?_
    refine j_geti d_Mo_image_104 f_Mo_114 rfl rfl (by decide) ?_
    refine j_puti d_Mo_image_107 f_Mo_309 (by decide) rfl rfl (by decide) ?_
    refine j_aload_n d_Mo_image_110 rfl rfl ?_
    refine j_aload_n d_Mo_image_111 rfl rfl ?_
    refine j_geti d_Mo_image_112 f_Mo_117 rfl rfl (by decide) ?_
    refine j_puti d_Mo_image_115 f_Mo_312 (by decide) rfl rfl (by decide) ?_
    refine j_aload_n d_Mo_image_118 rfl rfl ?_
    refine j_aload_n d_Mo_image_119 rfl rfl ?_
    refine j_geti d_Mo_image_120 f_Mo_120 rfl rfl (by decide) ?_
    refine j_puti d_Mo_image_123 f_Mo_49 (by decide) rfl rfl (by decide) ?_
    refine j_aload_n d_Mo_image_126 rfl rfl ?_
    refine j_geti d_Mo_image_127 f_Mo_105 rfl rfl (by decide) ?_
    refine j_iret d_Mo_image_130 rfl ?_
    refine q_y1 (A := [57, 58, 59, 60]) (J := [27, 28, 29, 30, 31, 32, 33, 34, 35]) (h := h) (((((((((((((r_ey.rf.rw (by decide) (by decide)).rw (by decide) (by decide)).rw (by decide) (by decide)).rw (by decide) (by decide)).fl (by decide)).fl (by decide)).fl (by decide)).fl (by decide)).fl (by decide)).fl (by decide)).fl (by decide)).fl (by decide)).fl (by decide)) (fun yy => hF _ (yy.ml (by decide)) ?_) hJ.1
    · refine ⟨mG.ey yy (by decide) (by decide), mN.ey yy (by decide) (by decide) (by decide) (by decide) (by decide), mJ0.ey yy (by decide) (by decide) (by decide) (by decide) (by decide), m6, mW.ey yy (by decide) (by decide), mS.ey yy (by decide) (by decide) (by decide), m11, m20, ⟨(Z.2.2.1 : Int), m11.trans (iI_n _), by omega, Int.le_refl _, fun f => absurd (show (1 : Nat) = 0 from f) (by decide), fun _ => rfl⟩, fun _ => ?_⟩
      refine ⟨m6, mN.2.1, mN.2.2.1, hJ.1, hJ.2.1, hJ.2.2.1, hJ.2.2.2.1, fun i hi => ?_, fun i hi => ?_, fun j hj => ?_, mS.1, fun i hi => ?_⟩
      · have hi : i < Z.2.1.1.1 := hi
        exact (if_pos (show i < 10 by omega)).trans (mN.2.2.2 i hi).2
      · have hi : i < Z.2.1.2.1.2.2.2.1 := hi
        obtain ⟨g1, g2, g3⟩ := hJ.2.2.2.2 i hi
        exact ⟨(if_pos (show 3 * i < 21 by omega)).trans g1, (if_pos (show 3 * i + 1 < 21 by omega)).trans g2, (if_pos (show 3 * i + 2 < 21 by omega)).trans g3⟩
      · exact (if_pos hj).trans (mW j hj)
      · have hi : i < Z.2.1.2.2.2.1.1 := hi
        obtain ⟨g1, g2⟩ := mS.2 i hi
        exact ⟨(if_pos (show 2 * i < 12 by omega)).trans g1, (if_pos (show 2 * i + 1 < 12 by omega)).trans g2⟩
set_option maxRecDepth 100000 in
set_option maxHeartbeats 4000000 in
theorem c_Mo_restore {G : r_X} {d : Nat} {h : r_HI} {p q : Nat} {z : r_HL} {F : Int32 → r_HI → r_HR → r_HL → Prop} {Z : a_Z} (hM : p_M h Z) (ho : a_zok Z) (hF : ∀ h', r_ml h h' → p_M h' (s_restore Z).2 → F (s_restore Z).1 h' (r_gp p q) z) : r_Ci G m_Mo_restore (d + 20) 61 [.ref (G.2.1 + 47)] 61 h (r_gp p q) z F := by
  obtain ⟨mG, mN, mJ0, m6, mW, mS, m11, m20, mkk, mkp⟩ := id hM
  obtain ⟨op, ⟨od, ok, otk, ow, os, okd⟩, o3, o4, o5, o6, o7⟩ := id ho
  obtain ⟨od1, od2, od3, od4⟩ := id od
  obtain ⟨ok1, ok2, ok3, ok4⟩ := id ok
  have os1 := os.1
  have op1 := op.1
  obtain ⟨kq, q1, q2, q3, q4, q5⟩ := id mkk
  by_cases hf : Z.2.2.2.2.1 = 0
  · have hs : s_restore Z = (-103, Z) := by simp [s_restore, hf]
    rw [hs] at hF
    refine r_C_of (by decide +kernel) (Nat.le_of_ble_eq_true rfl) ?_
    refine j_ls (ls' := [(0, _)]) rfl ?_
    refine j_aload_n d_Mo_restore_0 rfl rfl ?_
    refine j_geti d_Mo_restore_1 f_Mo_49 rfl rfl (by decide) ?_
    refine j_aload_n d_Mo_restore_4 rfl rfl ?_
    refine j_geti d_Mo_restore_5 f_Mo_120 rfl rfl (by decide) ?_
    refine j_icmp_eq (tgt := 14) d_Mo_restore_8 rfl (fun bq1 => False.elim (absurd ((iI_eq (by omega) (by omega) (by omega) (by omega)).mp (q1.symm.trans (bq1.trans (m11.trans (iI_n _))))) (by have := q4 hf; omega))) (fun bq1 => ?_)
    refine j_bipush (v := (-103)) d_Mo_restore_11 (by decide) ?_
    refine j_iret d_Mo_restore_13 rfl ?_
    exact q_i1 (hF _ r_ml.rf hM) rfl
  · have hf1 : Z.2.2.2.2.1 = 1 := by omega
    obtain ⟨k1, k2, k3, k4, k5, k6, k7, k8, k9, k10, k11⟩ := mkp hf1
    obtain ⟨g0, ⟨go, gok, gtk, gow, gos, gokd⟩, g1, g2⟩ := o7 hf1
    have hs : s_restore Z = (nI Z.2.2.2.2.2.2.1.1, z_V Z Z.2.2.2.2.2) := by simp [s_restore, hf]
    rw [hs] at hF
    refine r_C_of (by decide +kernel) (Nat.le_of_ble_eq_true rfl) ?_
    refine j_ls (ls' := [(0, _)]) rfl ?_
    refine j_aload_n d_Mo_restore_0 rfl rfl ?_
    refine j_geti d_Mo_restore_1 f_Mo_49 rfl rfl (by decide) ?_
    refine j_aload_n d_Mo_restore_4 rfl rfl ?_
    refine j_geti d_Mo_restore_5 f_Mo_120 rfl rfl (by decide) ?_
    refine j_icmp_eq (tgt := 14) d_Mo_restore_8 rfl (fun bq1 => ?_) (fun bq1 => False.elim (bq1 (q1.trans ((congrArg iI (q5 hf1)).trans (m11.trans (iI_n _)).symm))))
    refine j_aload_n d_Mo_restore_14 rfl rfl ?_
    refine j_getr d_Mo_restore_15 f_Mo_37 rfl rfl (by decide) rfl ?_
    refine j_aload_n d_Mo_restore_18 rfl rfl ?_
    refine j_getr d_Mo_restore_19 f_Mo_16 rfl rfl (by decide) rfl ?_
    refine q_v s_Mo_restore_22 rfl (Nat.le_of_ble_eq_true rfl) (Nat.le_of_ble_eq_true rfl) ?_
    refine c_Mo_copy rfl rfl (by decide) (by decide) (by decide) (by decide) ?_
    refine j_aload_n d_Mo_restore_25 rfl rfl ?_
    refine j_getr d_Mo_restore_26 f_Mo_40 rfl rfl (by decide) rfl ?_
    refine j_aload_n d_Mo_restore_29 rfl rfl ?_
    refine j_getr d_Mo_restore_30 f_Mo_19 rfl rfl (by decide) rfl ?_
    refine q_v s_Mo_restore_33 rfl (Nat.le_of_ble_eq_true rfl) (Nat.le_of_ble_eq_true rfl) ?_
    refine c_Mo_copy rfl rfl (by decide) (by decide) (by decide) (by decide) ?_
    refine j_aload_n d_Mo_restore_36 rfl rfl ?_
    refine j_getr d_Mo_restore_37 f_Mo_43 rfl rfl (by decide) rfl ?_
    refine j_aload_n d_Mo_restore_40 rfl rfl ?_
    refine j_getr d_Mo_restore_41 f_Mo_31 rfl rfl (by decide) rfl ?_
    refine q_v s_Mo_restore_44 rfl (Nat.le_of_ble_eq_true rfl) (Nat.le_of_ble_eq_true rfl) ?_
    refine c_Mo_copy rfl rfl (by decide) (by decide) (by decide) (by decide) ?_
    refine j_aload_n d_Mo_restore_47 rfl rfl ?_
    refine j_getr d_Mo_restore_48 f_Mo_46 rfl rfl (by decide) rfl ?_
    refine j_aload_n d_Mo_restore_51 rfl rfl ?_
    refine j_getr d_Mo_restore_52 f_Mo_34 rfl rfl (by decide) rfl ?_
    refine q_v s_Mo_restore_55 rfl (Nat.le_of_ble_eq_true rfl) (Nat.le_of_ble_eq_true rfl) ?_
    refine c_Mo_copy rfl rfl (by decide) (by decide) (by decide) (by decide) ?_
    refine j_aload_n d_Mo_restore_58 rfl rfl ?_
    refine j_aload_n d_Mo_restore_59 rfl rfl ?_
    refine j_geti d_Mo_restore_60 f_Mo_291 rfl rfl (by decide) ?_
    refine j_puti d_Mo_restore_63 f_Mo_102 (by decide) rfl rfl (by decide) ?_
    refine j_aload_n d_Mo_restore_66 rfl rfl ?_
    refine j_aload_n d_Mo_restore_67 rfl rfl ?_
    refine j_geti d_Mo_restore_68 f_Mo_294 rfl rfl (by decide) ?_
    refine j_puti d_Mo_restore_71 f_Mo_96 (by decide) rfl rfl (by decide) ?_
    refine j_aload_n d_Mo_restore_74 rfl rfl ?_
    refine j_aload_n d_Mo_restore_75 rfl rfl ?_
    refine j_geti d_Mo_restore_76 f_Mo_297 rfl rfl (by decide) ?_
    refine j_puti d_Mo_restore_79 f_Mo_99 (by decide) rfl rfl (by decide) ?_
    refine j_aload_n d_Mo_restore_82 rfl rfl ?_
    refine j_aload_n d_Mo_restore_83 rfl rfl ?_
    refine j_geti d_Mo_restore_84 f_Mo_300 rfl rfl (by decide) ?_
    refine j_puti d_Mo_restore_87 f_Mo_105 (by decide) rfl rfl (by decide) ?_
    refine j_aload_n d_Mo_restore_90 rfl rfl ?_
    refine j_aload_n d_Mo_restore_91 rfl rfl ?_
    refine j_geti d_Mo_restore_92 f_Mo_303 rfl rfl (by decide) ?_
    refine j_puti d_Mo_restore_95 f_Mo_108 (by decide) rfl rfl (by decide) ?_
    refine j_aload_n d_Mo_restore_98 rfl rfl ?_
    refine j_aload_n d_Mo_restore_99 rfl rfl ?_
    refine j_geti d_Mo_restore_100 f_Mo_306 rfl rfl (by decide) ?_
    refine j_puti d_Mo_restore_103 f_Mo_111 (by decide) rfl rfl (by decide) ?_
    refine j_aload_n d_Mo_restore_106 rfl rfl ?_
    refine j_aload_n d_Mo_restore_107 rfl rfl ?_
    refine j_geti d_Mo_restore_108 f_Mo_309 rfl rfl (by decide) ?_
    refine j_puti d_Mo_restore_111 f_Mo_114 (by decide) rfl rfl (by decide) ?_
    refine j_aload_n d_Mo_restore_114 rfl rfl ?_
    refine j_aload_n d_Mo_restore_115 rfl rfl ?_
    refine j_geti d_Mo_restore_116 f_Mo_312 rfl rfl (by decide) ?_
    refine j_puti d_Mo_restore_119 f_Mo_117 (by decide) rfl rfl (by decide) ?_
    refine j_aload_n d_Mo_restore_122 rfl rfl ?_
    refine j_geti d_Mo_restore_123 f_Mo_105 rfl rfl (by decide) ?_
    refine j_iret d_Mo_restore_126 rfl ?_
    refine q_y1 (A := [50, 51, 55, 56]) (J := [4, 5, 6, 7, 8, 9, 10, 24]) (h := h) ((((((((((((r_ey.rf.rw (by decide) (by decide)).rw (by decide) (by decide)).rw (by decide) (by decide)).rw (by decide) (by decide)).fl (by decide)).fl (by decide)).fl (by decide)).fl (by decide)).fl (by decide)).fl (by decide)).fl (by decide)).fl (by decide)) (fun yy => hF _ (yy.ml (by decide)) ?_) k4
    · have hV : ¬ Z.2.2.2.2.2.1.1 = 0 := by omega
      refine ⟨mG.ey yy (by decide) (by decide), ⟨by rw [show (z_V Z Z.2.2.2.2.2).2.1.1.1 = Z.2.1.1.1 from g1]; exact mN.1, k2, k3, fun i hi => ?_⟩, ?_, k1, fun j hj => (if_pos hj).trans (k10 j hj), ⟨k11.1, fun i hi => ?_⟩, m11, m20, mkk.ey yy (by decide), fun f => (mkp f).ey yy (by decide) (by decide)⟩
      · have hi : i < Z.2.2.2.2.2.1.1 := hi
        refine ⟨?_, (if_pos (show i < 10 by omega)).trans (k8 i hi)⟩
        show h 49 i = nI (Z.2.2.2.2.2.1.2.2.2.1 i)
        rw [g2]
        exact (mN.2.2.2 i (by omega)).1
      · show p_J _ (z_w Z.2.2.2.2.2.1 Z.2.2.2.2.2.2.1)
        rw [z_w_eq hV]
        refine ⟨k4, k5, k6, k7, fun i hi => ?_⟩
        have h7 := gok.2.2.1
        obtain ⟨a1, a2, a3⟩ := k9 i hi
        exact ⟨(if_pos (show 3 * i < 21 by omega)).trans a1, (if_pos (show 3 * i + 1 < 21 by omega)).trans a2, (if_pos (show 3 * i + 2 < 21 by omega)).trans a3⟩
      · have h6 := gos.1
        have hi : i < Z.2.2.2.2.2.2.2.2.1.1 := hi
        obtain ⟨a1, a2⟩ := k11.2 i hi
        exact ⟨(if_pos (show 2 * i < 12 by omega)).trans a1, (if_pos (show 2 * i + 1 < 12 by omega)).trans a2⟩
set_option maxRecDepth 100000 in
set_option maxHeartbeats 4000000 in
theorem l_Mo_placesAll {G : r_X} {d : Nat} {h : r_HI} {p q : Nat} {z : r_HL} {F : Int32 → r_HI → r_HR → r_HL → Prop} {D : a_D} (hN : p_N h D) (ho : a_dok D) (hF : F (nI (a_sum D.2.2.2.1 D.1)) h (r_gp p q) z) : ∀ (e i : Nat) (v : Int32), e + i = D.1 → v = nI i → r_TM G m_Mo_placesAll (d) 61 61 (fun v h' g' z' => ∃ r, v = some (.int r) ∧ F r h' g' z') 4 [(0, .ref (G.2.1 + 47)), (1, .int (nI (a_sum D.2.2.2.1 i))), (2, .int v)] [] 61 h (r_gp p q) z := by
  have h10 := ho.1
  intro e
  induction e with
  | zero =>
    intro i v he hv
    subst hv
    refine j_iload_n d_Mo_placesAll_4 rfl rfl ?_
    refine j_aload_n d_Mo_placesAll_5 rfl rfl ?_
    refine j_geti d_Mo_placesAll_6 f_Mo_93 rfl rfl (by decide) ?_
    refine j_icmp_ge (tgt := 27) d_Mo_placesAll_9 rfl (fun bq1 => ?_) (fun bq1 => False.elim (bq1 (by rw [hN.1]; exact nI_le (by omega) (by omega))))
    refine j_iload_n d_Mo_placesAll_27 rfl rfl ?_
    refine j_iret d_Mo_placesAll_28 rfl ?_
    have e0 : i = D.1 := by omega
    subst e0
    exact q_i1 hF rfl
  | succ e ih =>
    intro i v he hv
    subst hv
    refine j_iload_n d_Mo_placesAll_4 rfl rfl ?_
    refine j_aload_n d_Mo_placesAll_5 rfl rfl ?_
    refine j_geti d_Mo_placesAll_6 f_Mo_93 rfl rfl (by decide) ?_
    refine j_icmp_ge (tgt := 27) d_Mo_placesAll_9 rfl (fun bq1 => False.elim (nI_ge (by omega) (by omega) (hN.1 ▸ bq1))) (fun bq1 => ?_)
    refine j_iload_n d_Mo_placesAll_12 rfl rfl ?_
    refine j_aload_n d_Mo_placesAll_13 rfl rfl ?_
    refine j_getr d_Mo_placesAll_14 f_Mo_13 rfl rfl (by decide) rfl ?_
    refine j_iload_n d_Mo_placesAll_17 rfl rfl ?_
    refine j_iav d_Mo_placesAll_18 rfl (by decide) (j := i) (rfl) (by omega) (by decide) ((hN.2.2.2 i (by omega)).1) ?_
    refine j_iadd d_Mo_placesAll_19 ?_
    rw [nI_add]
    refine j_istore_n (ls' := [(1, _), (0, _), (2, _)]) d_Mo_placesAll_20 rfl (by decide) rfl ?_
    refine j_iinc (ls' := [(2, _), (1, _), (0, _)]) d_Mo_placesAll_21 rfl (by decide) rfl ?_
    refine j_goto (tgt := 4) d_Mo_placesAll_24 rfl ?_
    refine j_pick [2, 1, 0] (ls' := [(0, _), (1, _), (2, _)]) rfl ?_
    exact ih (i + 1) _ (by omega) (nI_inc i)
set_option maxRecDepth 100000 in
set_option maxHeartbeats 4000000 in
theorem c_Mo_placesAll {G : r_X} {d : Nat} {h : r_HI} {p q : Nat} {z : r_HL} {F : Int32 → r_HI → r_HR → r_HL → Prop} {D : a_D} (hN : p_N h D) (ho : a_dok D) (hF : F (nI (a_sum D.2.2.2.1 D.1)) h (r_gp p q) z) : r_Ci G m_Mo_placesAll (d) 61 [.ref (G.2.1 + 47)] 61 h (r_gp p q) z F := by
  refine r_C_of (by decide +kernel) (Nat.le_of_ble_eq_true rfl) ?_
  refine j_ls (ls' := [(0, _)]) rfl ?_
  refine j_iconst (v := 0) d_Mo_placesAll_0 rfl ?_
  refine j_istore_n (ls' := [(1, _), (0, _)]) d_Mo_placesAll_1 rfl (by decide) rfl ?_
  refine j_iconst (v := 0) d_Mo_placesAll_2 rfl ?_
  refine j_istore_n (ls' := [(2, _), (1, _), (0, _)]) d_Mo_placesAll_3 rfl (by decide) rfl ?_
  refine j_pick [2, 1, 0] (ls' := [(0, _), (1, _), (2, _)]) rfl ?_
  exact l_Mo_placesAll hN ho hF D.1 0 _ (by omega) rfl
set_option maxRecDepth 100000 in
set_option maxHeartbeats 4000000 in
theorem c_Mo_countOf {G : r_X} {d : Nat} {h : r_HI} {p q : Nat} {z : r_HL} {F : Int32 → r_HI → r_HR → r_HL → Prop} {Z : a_Z} {x : Int32} (hM : p_M h Z) (ho : a_zok Z) (hF : F (s_count Z x) h (r_gp p q) z) : r_Ci G m_Mo_countOf (d + 1) 61 [.ref (G.2.1 + 47), .int x] 61 h (r_gp p q) z F := by
  obtain ⟨mG, mN, mJ0, m6, mW, mS, m11, m20, mkk, mkp⟩ := id hM
  obtain ⟨op, ⟨od, ok, otk, ow, os, okd⟩, o3, o4, o5, o6, o7⟩ := id ho
  obtain ⟨od1, od2, od3, od4⟩ := id od
  obtain ⟨ok1, ok2, ok3, ok4⟩ := id ok
  have os1 := os.1
  have op1 := op.1
  have e4 : h 47 9 = (if 0 < Z.2.1.1.1 ∧ Z.2.1.2.1.2.2.1 = 1 then (1 : Int32) else 0) := by
    rw [mJ0.2.2.1]
    show nI (if Z.2.1.1.1 = 0 then 0 else Z.2.1.2.1.2.2.1) = _
    by_cases hR : Z.2.1.1.1 = 0
    · rw [if_pos hR, if_neg (by omega)]
      rfl
    · rw [if_neg hR]
      rcases (show Z.2.1.2.1.2.2.1 = 0 ∨ Z.2.1.2.1.2.2.1 = 1 by omega) with e | e
      · rw [e, if_neg (by omega)]
        rfl
      · rw [e, if_pos ⟨by omega, rfl⟩]
        rfl
  refine r_C_of (by decide +kernel) (Nat.le_of_ble_eq_true rfl) ?_
  refine j_ls (ls' := [(0, _), (1, _)]) rfl ?_
  refine j_iload_n d_Mo_countOf_0 rfl rfl ?_
  rcases (show x.toInt < 0 ∨ 12 < x.toInt ∨ x.toInt = 0 ∨ x.toInt = 1 ∨ x.toInt = 2 ∨ x.toInt = 3 ∨ x.toInt = 4 ∨ x.toInt = 5 ∨ x.toInt = 6 ∨ x.toInt = 7 ∨ x.toInt = 8 ∨ x.toInt = 9 ∨ x.toInt = 10 ∨ x.toInt = 11 ∨ x.toInt = 12 by omega) with t9 | t9 | t9 | t9 | t9 | t9 | t9 | t9 | t9 | t9 | t9 | t9 | t9 | t9 | t9
  · refine j_tabOut (tgt := 133) d_Mo_countOf_1 (Or.inl t9) rfl ?_
    refine j_bipush (v := (-102)) d_Mo_countOf_133 (by decide) ?_
    refine j_iret d_Mo_countOf_135 rfl ?_
    have hs : s_count Z x = -102 := by simp [s_count, a_cnt, a_ix_no (x := x) (n := 13) (by omega)]
    rw [hs] at hF
    exact q_i1 hF rfl
  · refine j_tabOut (tgt := 133) d_Mo_countOf_1 (Or.inr t9) rfl ?_
    refine j_bipush (v := (-102)) d_Mo_countOf_133 (by decide) ?_
    refine j_iret d_Mo_countOf_135 rfl ?_
    have hs : s_count Z x = -102 := by simp [s_count, a_cnt, a_ix_no (x := x) (n := 13) (by omega)]
    rw [hs] at hF
    exact q_i1 hF rfl
  · refine j_tabIn (off := 67) (tgt := 68) d_Mo_countOf_1 (by rw [t9]; decide) (by rw [t9]; decide) (by rw [t9]; rfl) rfl ?_
    refine j_aload_n d_Mo_countOf_68 rfl rfl ?_
    refine j_geti d_Mo_countOf_69 f_Mo_93 rfl rfl (by decide) ?_
    refine j_iret d_Mo_countOf_72 rfl ?_
    have hs : s_count Z x = nI Z.2.1.1.1 := by simp [s_count, a_cnt, a_ix_of (x := x) (n := 13) (j := 0) (by omega) (by decide)]
    rw [hs] at hF
    exact q_i1 hF mN.1
  · refine j_tabIn (off := 72) (tgt := 73) d_Mo_countOf_1 (by rw [t9]; decide) (by rw [t9]; decide) (by rw [t9]; rfl) rfl ?_
    refine j_aload_n d_Mo_countOf_73 rfl rfl ?_
    refine q_i (s_Mo_countOf_74 rfl (by decide)) rfl (Nat.le_of_ble_eq_true rfl) (Nat.le_of_ble_eq_true rfl) ?_
    refine c_Mo_placesAll mN od ?_
    refine j_iret d_Mo_countOf_77 rfl ?_
    have hs : s_count Z x = nI (a_sum Z.2.1.1.2.2.2.1 Z.2.1.1.1) := by simp [s_count, a_cnt, a_ix_of (x := x) (n := 13) (j := 1) (by omega) (by decide)]
    rw [hs] at hF
    exact q_i1 hF rfl
  · refine j_tabIn (off := 77) (tgt := 78) d_Mo_countOf_1 (by rw [t9]; decide) (by rw [t9]; decide) (by rw [t9]; rfl) rfl ?_
    refine j_aload_n d_Mo_countOf_78 rfl rfl ?_
    refine j_geti d_Mo_countOf_79 f_Mo_105 rfl rfl (by decide) ?_
    refine j_iret d_Mo_countOf_82 rfl ?_
    have hs : s_count Z x = nI Z.2.1.2.1.1 := by simp [s_count, a_cnt, a_ix_of (x := x) (n := 13) (j := 2) (by omega) (by decide)]
    rw [hs] at hF
    exact q_i1 hF mJ0.1
  · refine j_tabIn (off := 82) (tgt := 83) d_Mo_countOf_1 (by rw [t9]; decide) (by rw [t9]; decide) (by rw [t9]; rfl) rfl ?_
    refine j_aload_n d_Mo_countOf_83 rfl rfl ?_
    refine j_geti d_Mo_countOf_84 f_Mo_108 rfl rfl (by decide) ?_
    refine j_iret d_Mo_countOf_87 rfl ?_
    have hs : s_count Z x = nI Z.2.1.2.1.2.1 := by simp [s_count, a_cnt, a_ix_of (x := x) (n := 13) (j := 3) (by omega) (by decide)]
    rw [hs] at hF
    exact q_i1 hF mJ0.2.1
  · refine j_tabIn (off := 87) (tgt := 88) d_Mo_countOf_1 (by rw [t9]; decide) (by rw [t9]; decide) (by rw [t9]; rfl) rfl ?_
    refine j_aload_n d_Mo_countOf_88 rfl rfl ?_
    refine j_geti d_Mo_countOf_89 f_Mo_111 rfl rfl (by decide) ?_
    refine j_iret d_Mo_countOf_92 rfl ?_
    have hs : s_count Z x = (if 0 < Z.2.1.1.1 ∧ Z.2.1.2.1.2.2.1 = 1 then (1 : Int32) else 0) := by simp [s_count, a_cnt, a_ix_of (x := x) (n := 13) (j := 4) (by omega) (by decide)]
    rw [hs] at hF
    exact q_i1 hF e4
  · refine j_tabIn (off := 92) (tgt := 93) d_Mo_countOf_1 (by rw [t9]; decide) (by rw [t9]; decide) (by rw [t9]; rfl) rfl ?_
    refine j_aload_n d_Mo_countOf_93 rfl rfl ?_
    refine j_geti d_Mo_countOf_94 f_Mo_114 rfl rfl (by decide) ?_
    refine j_iret d_Mo_countOf_97 rfl ?_
    have hs : s_count Z x = nI Z.2.1.2.1.2.2.2.1 := by simp [s_count, a_cnt, a_ix_of (x := x) (n := 13) (j := 5) (by omega) (by decide)]
    rw [hs] at hF
    exact q_i1 hF mJ0.2.2.2.1
  · refine j_tabIn (off := 97) (tgt := 98) d_Mo_countOf_1 (by rw [t9]; decide) (by rw [t9]; decide) (by rw [t9]; rfl) rfl ?_
    refine j_aload_n d_Mo_countOf_98 rfl rfl ?_
    refine j_geti d_Mo_countOf_99 f_Mo_96 rfl rfl (by decide) ?_
    refine j_iret d_Mo_countOf_102 rfl ?_
    have hs : s_count Z x = nI Z.2.1.1.2.1 := by simp [s_count, a_cnt, a_ix_of (x := x) (n := 13) (j := 6) (by omega) (by decide)]
    rw [hs] at hF
    exact q_i1 hF mN.2.1
  · refine j_tabIn (off := 102) (tgt := 103) d_Mo_countOf_1 (by rw [t9]; decide) (by rw [t9]; decide) (by rw [t9]; rfl) rfl ?_
    refine j_aload_n d_Mo_countOf_103 rfl rfl ?_
    refine j_geti d_Mo_countOf_104 f_Mo_99 rfl rfl (by decide) ?_
    refine j_iret d_Mo_countOf_107 rfl ?_
    have hs : s_count Z x = nI Z.2.1.1.2.2.1 := by simp [s_count, a_cnt, a_ix_of (x := x) (n := 13) (j := 7) (by omega) (by decide)]
    rw [hs] at hF
    exact q_i1 hF mN.2.2.1
  · refine j_tabIn (off := 107) (tgt := 108) d_Mo_countOf_1 (by rw [t9]; decide) (by rw [t9]; decide) (by rw [t9]; rfl) rfl ?_
    refine j_aload_n d_Mo_countOf_108 rfl rfl ?_
    refine q_i (s_Mo_countOf_109 rfl (by decide)) rfl (Nat.le_of_ble_eq_true rfl) (Nat.le_of_ble_eq_true rfl) ?_
    refine c_Mo_things mW ow ?_
    refine j_iret d_Mo_countOf_112 rfl ?_
    have hs : s_count Z x = nI (a_hm Z.2.1.2.2.1 6) := by simp [s_count, a_cnt, a_ix_of (x := x) (n := 13) (j := 8) (by omega) (by decide)]
    rw [hs] at hF
    exact q_i1 hF rfl
  · refine j_tabIn (off := 112) (tgt := 113) d_Mo_countOf_1 (by rw [t9]; decide) (by rw [t9]; decide) (by rw [t9]; rfl) rfl ?_
    refine j_aload_n d_Mo_countOf_113 rfl rfl ?_
    refine j_geti d_Mo_countOf_114 f_Mo_117 rfl rfl (by decide) ?_
    refine j_iret d_Mo_countOf_117 rfl ?_
    have hs : s_count Z x = nI Z.2.1.2.2.2.1.1 := by simp [s_count, a_cnt, a_ix_of (x := x) (n := 13) (j := 9) (by omega) (by decide)]
    rw [hs] at hF
    exact q_i1 hF mS.1
  · refine j_tabIn (off := 117) (tgt := 118) d_Mo_countOf_1 (by rw [t9]; decide) (by rw [t9]; decide) (by rw [t9]; rfl) rfl ?_
    refine j_aload_n d_Mo_countOf_118 rfl rfl ?_
    refine j_geti d_Mo_countOf_119 f_Mo_59 rfl rfl (by decide) ?_
    refine j_iret d_Mo_countOf_122 rfl ?_
    have hs : s_count Z x = nI Z.1.1 := by simp [s_count, a_cnt, a_ix_of (x := x) (n := 13) (j := 10) (by omega) (by decide)]
    rw [hs] at hF
    exact q_i1 hF mG.1
  · refine j_tabIn (off := 122) (tgt := 123) d_Mo_countOf_1 (by rw [t9]; decide) (by rw [t9]; decide) (by rw [t9]; rfl) rfl ?_
    refine j_aload_n d_Mo_countOf_123 rfl rfl ?_
    refine j_geti d_Mo_countOf_124 f_Mo_120 rfl rfl (by decide) ?_
    refine j_iret d_Mo_countOf_127 rfl ?_
    have hs : s_count Z x = nI Z.2.2.1 := by simp [s_count, a_cnt, a_ix_of (x := x) (n := 13) (j := 11) (by omega) (by decide)]
    rw [hs] at hF
    exact q_i1 hF m11
  · refine j_tabIn (off := 127) (tgt := 128) d_Mo_countOf_1 (by rw [t9]; decide) (by rw [t9]; decide) (by rw [t9]; rfl) rfl ?_
    refine j_aload_n d_Mo_countOf_128 rfl rfl ?_
    refine j_geti d_Mo_countOf_129 f_Mo_234 rfl rfl (by decide) ?_
    refine j_iret d_Mo_countOf_132 rfl ?_
    have hs : s_count Z x = nI Z.2.2.2.1 := by simp [s_count, a_cnt, a_ix_of (x := x) (n := 13) (j := 12) (by omega) (by decide)]
    rw [hs] at hF
    exact q_i1 hF m20
set_option maxRecDepth 100000 in
set_option maxHeartbeats 4000000 in
theorem c_Mo_count {G : r_X} {d : Nat} {h : r_HI} {p q : Nat} {z : r_HL} {F : Int32 → r_HI → r_HR → r_HL → Prop} {Z : a_Z} {x : Int32} (hM : p_M h Z) (ho : a_zok Z) (hF : ∀ h', r_ey r_As r_Js h h' → F (s_count Z x) h' (r_gp p q) z) : r_Ci G m_Mo_count (d + 20) 61 [.ref (G.2.1 + 47), .int x] 61 h (r_gp p q) z F := by
  obtain ⟨mG, mN, mJ0, m6, mW, mS, m11, m20, mkk, mkp⟩ := id hM
  obtain ⟨op, ⟨od, ok, otk, ow, os, okd⟩, o3, o4, o5, o6, o7⟩ := id ho
  obtain ⟨od1, od2, od3, od4⟩ := id od
  obtain ⟨ok1, ok2, ok3, ok4⟩ := id ok
  have os1 := os.1
  have op1 := op.1
  refine r_C_of (by decide +kernel) (Nat.le_of_ble_eq_true rfl) ?_
  refine j_ls (ls' := [(0, _), (1, _)]) rfl ?_
  refine j_aload_n d_Mo_count_0 rfl rfl ?_
  refine j_iload_n d_Mo_count_1 rfl rfl ?_
  refine q_i (s_Mo_count_2 rfl (by decide)) rfl (Nat.le_of_ble_eq_true rfl) (Nat.le_of_ble_eq_true rfl) ?_
  refine c_Mo_countOf hM ho ?_
  refine j_iret d_Mo_count_5 rfl ?_
  exact q_i1 (hF _ r_ey.rf) rfl
