set_option maxRecDepth 100000 in
set_option maxHeartbeats 4000000 in
theorem c_Mo_least {G : r_X} {d : Nat} {h : r_HI} {p q : Nat} {z : r_HL} {F : Int32 → r_HI → r_HR → r_HL → Prop} {Z : a_Z} {x : Int32} (hM : p_M h Z) (ho : a_zok Z) (hF : ∀ h', r_ml h h' → p_M h' (s_least Z x).2 → F (s_least Z x).1 h' (r_gp p q) z) : r_Ci G m_Mo_least (d + 20) 61 [.ref (G.2.1 + 47), .int x] 61 h (r_gp p q) z F := by
  obtain ⟨mG, mN, mJ0, m6, mW, mS, m11, m20, mkk, mkp⟩ := id hM
  obtain ⟨op, ⟨od, ok, otk, ow, os, okd⟩, o3, o4, o5, o6, o7⟩ := id ho
  obtain ⟨od1, od2, od3, od4⟩ := id od
  obtain ⟨ok1, ok2, ok3, ok4⟩ := id ok
  have os1 := os.1
  have op1 := op.1
  rcases ixc x 17 with ⟨ix1, hr1⟩ | ⟨v, hj1, e1, ix1, t1⟩
  · have hs : s_least Z x = (-102, Z) := by simp [s_least, ix1]
    rw [hs] at hF
    refine r_C_of (by decide +kernel) (Nat.le_of_ble_eq_true rfl) ?_
    refine j_ls (ls' := [(0, _), (1, _)]) rfl ?_
    refine j_iload_n d_Mo_least_0 rfl rfl ?_
    refine j_if_eq (tgt := 21) d_Mo_least_1 rfl (fun bq1 => False.elim (absurd ((xeq (n := 0) (by decide)).mp bq1) (by omega))) (fun bq1 => ?_)
    refine j_iload_n d_Mo_least_4 rfl rfl ?_
    refine j_i2l d_Mo_least_5 ?_
    refine j_ldc2 d_Mo_least_6 k_Mo_230 ?_
    refine j_ldc2 d_Mo_least_9 k_Mo_232 ?_
    refine q_i s_Mo_least_12 rfl (Nat.le_of_ble_eq_true rfl) (Nat.le_of_ble_eq_true rfl) ?_
    refine c_inN 10 16 rfl rfl (by omega) ?_
    refine j_if_ne (tgt := 21) d_Mo_least_15 rfl (fun bq2 => False.elim (bq2 rfl)) (fun bq2 => ?_)
    refine j_bipush (v := (-102)) d_Mo_least_18 (by decide) ?_
    refine j_iret d_Mo_least_20 rfl ?_
    exact q_i1 (hF _ r_ml.rf hM) rfl
  · by_cases v0 : v = 0
    · by_cases hR : Z.2.1.1.1 = 0
      · have hs : s_least Z x = (-103, Z) := by simp [s_least, ix1, v0, hR]
        rw [hs] at hF
        refine r_C_of (by decide +kernel) (Nat.le_of_ble_eq_true rfl) ?_
        refine j_ls (ls' := [(0, _), (1, _)]) rfl ?_
        refine j_iload_n d_Mo_least_0 rfl rfl ?_
        refine j_if_eq (tgt := 21) d_Mo_least_1 rfl (fun bq1 => ?_) (fun bq1 => False.elim (bq1 ((xeq (n := 0) (by decide)).mpr (by omega))))
        refine j_aload_n d_Mo_least_21 rfl rfl ?_
        refine q_i (s_Mo_least_22 rfl (by decide)) rfl (Nat.le_of_ble_eq_true rfl) (Nat.le_of_ble_eq_true rfl) ?_
        refine c_Mo_lacksY mN od hR ?_
        refine j_if_ne (tgt := 37) d_Mo_least_25 rfl (fun bq2 => ?_) (fun bq2 => False.elim (absurd bq2 (by decide)))
        refine j_bipush (v := (-103)) d_Mo_least_37 (by decide) ?_
        refine j_iret d_Mo_least_39 rfl ?_
        exact q_i1 (hF _ r_ml.rf hM) rfl
      · by_cases h16 : 16 ≤ Z.2.2.2.1
        · have hs : s_least Z x = (-103, Z) := by simp [s_least, ix1, v0, h16]
          rw [hs] at hF
          refine r_C_of (by decide +kernel) (Nat.le_of_ble_eq_true rfl) ?_
          refine j_ls (ls' := [(0, _), (1, _)]) rfl ?_
          refine j_iload_n d_Mo_least_0 rfl rfl ?_
          refine j_if_eq (tgt := 21) d_Mo_least_1 rfl (fun bq1 => ?_) (fun bq1 => False.elim (bq1 ((xeq (n := 0) (by decide)).mpr (by omega))))
          refine j_aload_n d_Mo_least_21 rfl rfl ?_
          refine q_i (s_Mo_least_22 rfl (by decide)) rfl (Nat.le_of_ble_eq_true rfl) (Nat.le_of_ble_eq_true rfl) ?_
          refine c_Mo_lacksN mN od hR ?_
          refine j_if_ne (tgt := 37) d_Mo_least_25 rfl (fun bq2 => False.elim (bq2 rfl)) (fun bq2 => ?_)
          refine j_aload_n d_Mo_least_28 rfl rfl ?_
          refine j_geti d_Mo_least_29 f_Mo_234 rfl rfl (by decide) ?_
          refine j_bipush (v := 16) d_Mo_least_32 (by decide) ?_
          refine j_icmp_ne (tgt := 40) d_Mo_least_34 rfl (fun bq3 => False.elim (bq3 (by rw [m20, show Z.2.2.2.1 = 16 by omega]; rfl))) (fun bq3 => ?_)
          refine j_bipush (v := (-103)) d_Mo_least_37 (by decide) ?_
          refine j_iret d_Mo_least_39 rfl ?_
          exact q_i1 (hF _ r_ml.rf hM) rfl
        · have hJ : p_J h Z.2.1.2.1 := by rw [← z_w_eq (K := Z.2.1.2.1) hR]; exact mJ0
          have y0 : r_ey [] [20] h (r_up h 47 20 (nI (Z.2.2.2.1 + 1))) := r_ey.rf.fl (by decide)
          have hJ1 := hJ.ey y0 (by decide) (by decide) (by decide) (by decide) (by decide)
          have hN1 := mN.ey y0 (by decide) (by decide) (by decide) (by decide) (by decide)
          have hs : s_least Z x = (nI (a_lst Z).1, (Z.1, Z.2.1, Z.2.2.1, Z.2.2.2.1 + 1, Z.2.2.2.2)) := by simp [s_least, ix1, v0, hR, h16]
          rw [hs] at hF
          refine r_C_of (by decide +kernel) (Nat.le_of_ble_eq_true rfl) ?_
          refine j_ls (ls' := [(0, _), (1, _)]) rfl ?_
          refine j_iload_n d_Mo_least_0 rfl rfl ?_
          refine j_if_eq (tgt := 21) d_Mo_least_1 rfl (fun bq1 => ?_) (fun bq1 => False.elim (bq1 ((xeq (n := 0) (by decide)).mpr (by omega))))
          refine j_aload_n d_Mo_least_21 rfl rfl ?_
          refine q_i (s_Mo_least_22 rfl (by decide)) rfl (Nat.le_of_ble_eq_true rfl) (Nat.le_of_ble_eq_true rfl) ?_
          refine c_Mo_lacksN mN od hR ?_
          refine j_if_ne (tgt := 37) d_Mo_least_25 rfl (fun bq2 => False.elim (bq2 rfl)) (fun bq2 => ?_)
          refine j_aload_n d_Mo_least_28 rfl rfl ?_
          refine j_geti d_Mo_least_29 f_Mo_234 rfl rfl (by decide) ?_
          refine j_bipush (v := 16) d_Mo_least_32 (by decide) ?_
          refine j_icmp_ne (tgt := 40) d_Mo_least_34 rfl (fun bq3 => ?_) (fun bq3 => False.elim (absurd ((nI_eq (a := Z.2.2.2.1) (b := 16) (by omega) (by omega)).mp (m20.symm.trans bq3)) (by omega)))
          refine j_aload_n d_Mo_least_40 rfl rfl ?_
          refine j_dup d_Mo_least_41 rfl ?_
          refine j_geti d_Mo_least_42 f_Mo_234 rfl rfl (by decide) ?_
          refine j_iconst (v := 1) d_Mo_least_45 rfl ?_
          refine j_iadd d_Mo_least_46 ?_
          refine j_st (st' := [.int (h 47 20 + 1), .ref (G.2.1 + 47)]) rfl ?_
          rw [m20, nI_1]
          refine j_puti d_Mo_least_47 f_Mo_234 (by decide) rfl rfl (by decide) ?_
          refine j_aload_n d_Mo_least_50 rfl rfl ?_
          refine j_iload_n d_Mo_least_51 rfl rfl ?_
          refine q_i (s_Mo_least_52 rfl (by decide)) rfl (Nat.le_of_ble_eq_true rfl) (Nat.le_of_ble_eq_true rfl) ?_
          refine c_Mo_leastOf0 hN1 od hJ1 ok otk (x_of (j := 0) (by omega)) (fun h1 y1 => ?_)
          refine j_iret d_Mo_least_55 rfl ?_
          have hM1 := (hM.ld (v := Z.2.2.2.1 + 1)).scr (y1.mono (by decide) (by decide))
          exact q_i1 (hF _ (fun a ha => (y1.ml (by decide) a ha).trans (y0.ml (by decide) a ha)) hM1) rfl
    · by_cases vv : v < 10
      · have hs : s_least Z x = (-102, Z) := by simp [s_least, ix1, v0, vv]
        rw [hs] at hF
        refine r_C_of (by decide +kernel) (Nat.le_of_ble_eq_true rfl) ?_
        refine j_ls (ls' := [(0, _), (1, _)]) rfl ?_
        refine j_iload_n d_Mo_least_0 rfl rfl ?_
        refine j_if_eq (tgt := 21) d_Mo_least_1 rfl (fun bq1 => False.elim (absurd ((xeq (n := 0) (by decide)).mp bq1) (by omega))) (fun bq1 => ?_)
        refine j_iload_n d_Mo_least_4 rfl rfl ?_
        refine j_i2l d_Mo_least_5 ?_
        refine j_ldc2 d_Mo_least_6 k_Mo_230 ?_
        refine j_ldc2 d_Mo_least_9 k_Mo_232 ?_
        refine q_i s_Mo_least_12 rfl (Nat.le_of_ble_eq_true rfl) (Nat.le_of_ble_eq_true rfl) ?_
        refine c_inN 10 16 rfl rfl (by omega) ?_
        refine j_if_ne (tgt := 21) d_Mo_least_15 rfl (fun bq2 => False.elim (bq2 rfl)) (fun bq2 => ?_)
        refine j_bipush (v := (-102)) d_Mo_least_18 (by decide) ?_
        refine j_iret d_Mo_least_20 rfl ?_
        exact q_i1 (hF _ r_ml.rf hM) rfl
      · by_cases hR : Z.2.1.1.1 = 0
        · have hs : s_least Z x = (-103, Z) := by simp [s_least, ix1, v0, vv, hR]
          rw [hs] at hF
          refine r_C_of (by decide +kernel) (Nat.le_of_ble_eq_true rfl) ?_
          refine j_ls (ls' := [(0, _), (1, _)]) rfl ?_
          refine j_iload_n d_Mo_least_0 rfl rfl ?_
          refine j_if_eq (tgt := 21) d_Mo_least_1 rfl (fun bq1 => False.elim (absurd ((xeq (n := 0) (by decide)).mp bq1) (by omega))) (fun bq1 => ?_)
          refine j_iload_n d_Mo_least_4 rfl rfl ?_
          refine j_i2l d_Mo_least_5 ?_
          refine j_ldc2 d_Mo_least_6 k_Mo_230 ?_
          refine j_ldc2 d_Mo_least_9 k_Mo_232 ?_
          refine q_i s_Mo_least_12 rfl (Nat.le_of_ble_eq_true rfl) (Nat.le_of_ble_eq_true rfl) ?_
          refine c_inY 10 16 rfl rfl (by omega) ?_
          refine j_if_ne (tgt := 21) d_Mo_least_15 rfl (fun bq2 => ?_) (fun bq2 => False.elim (absurd bq2 (by decide)))
          refine j_aload_n d_Mo_least_21 rfl rfl ?_
          refine q_i (s_Mo_least_22 rfl (by decide)) rfl (Nat.le_of_ble_eq_true rfl) (Nat.le_of_ble_eq_true rfl) ?_
          refine c_Mo_lacksY mN od hR ?_
          refine j_if_ne (tgt := 37) d_Mo_least_25 rfl (fun bq3 => ?_) (fun bq3 => False.elim (absurd bq3 (by decide)))
          refine j_bipush (v := (-103)) d_Mo_least_37 (by decide) ?_
          refine j_iret d_Mo_least_39 rfl ?_
          exact q_i1 (hF _ r_ml.rf hM) rfl
        · by_cases h16 : 16 ≤ Z.2.2.2.1
          · have hs : s_least Z x = (-103, Z) := by simp [s_least, ix1, v0, vv, h16]
            rw [hs] at hF
            refine r_C_of (by decide +kernel) (Nat.le_of_ble_eq_true rfl) ?_
            refine j_ls (ls' := [(0, _), (1, _)]) rfl ?_
            refine j_iload_n d_Mo_least_0 rfl rfl ?_
            refine j_if_eq (tgt := 21) d_Mo_least_1 rfl (fun bq1 => False.elim (absurd ((xeq (n := 0) (by decide)).mp bq1) (by omega))) (fun bq1 => ?_)
            refine j_iload_n d_Mo_least_4 rfl rfl ?_
            refine j_i2l d_Mo_least_5 ?_
            refine j_ldc2 d_Mo_least_6 k_Mo_230 ?_
            refine j_ldc2 d_Mo_least_9 k_Mo_232 ?_
            refine q_i s_Mo_least_12 rfl (Nat.le_of_ble_eq_true rfl) (Nat.le_of_ble_eq_true rfl) ?_
            refine c_inY 10 16 rfl rfl (by omega) ?_
            refine j_if_ne (tgt := 21) d_Mo_least_15 rfl (fun bq2 => ?_) (fun bq2 => False.elim (absurd bq2 (by decide)))
            refine j_aload_n d_Mo_least_21 rfl rfl ?_
            refine q_i (s_Mo_least_22 rfl (by decide)) rfl (Nat.le_of_ble_eq_true rfl) (Nat.le_of_ble_eq_true rfl) ?_
            refine c_Mo_lacksN mN od hR ?_
            refine j_if_ne (tgt := 37) d_Mo_least_25 rfl (fun bq3 => False.elim (bq3 rfl)) (fun bq3 => ?_)
            refine j_aload_n d_Mo_least_28 rfl rfl ?_
            refine j_geti d_Mo_least_29 f_Mo_234 rfl rfl (by decide) ?_
            refine j_bipush (v := 16) d_Mo_least_32 (by decide) ?_
            refine j_icmp_ne (tgt := 40) d_Mo_least_34 rfl (fun bq4 => False.elim (bq4 (by rw [m20, show Z.2.2.2.1 = 16 by omega]; rfl))) (fun bq4 => ?_)
            refine j_bipush (v := (-103)) d_Mo_least_37 (by decide) ?_
            refine j_iret d_Mo_least_39 rfl ?_
            exact q_i1 (hF _ r_ml.rf hM) rfl
          · have hJ : p_J h Z.2.1.2.1 := by rw [← z_w_eq (K := Z.2.1.2.1) hR]; exact mJ0
            have y0 : r_ey [] [20] h (r_up h 47 20 (nI (Z.2.2.2.1 + 1))) := r_ey.rf.fl (by decide)
            have hJ1 := hJ.ey y0 (by decide) (by decide) (by decide) (by decide) (by decide)
            have hN1 := mN.ey y0 (by decide) (by decide) (by decide) (by decide) (by decide)
            have hs : s_least Z x = (if v - 10 < Z.2.1.2.1.2.2.2.1 then nI ((a_lst Z).2.getD (v - 10) 0) else -1, (Z.1, Z.2.1, Z.2.2.1, Z.2.2.2.1 + 1, Z.2.2.2.2)) := by simp [s_least, ix1, v0, vv, hR, h16]
            rw [hs] at hF
            refine r_C_of (by decide +kernel) (Nat.le_of_ble_eq_true rfl) ?_
            refine j_ls (ls' := [(0, _), (1, _)]) rfl ?_
            refine j_iload_n d_Mo_least_0 rfl rfl ?_
            refine j_if_eq (tgt := 21) d_Mo_least_1 rfl (fun bq1 => False.elim (absurd ((xeq (n := 0) (by decide)).mp bq1) (by omega))) (fun bq1 => ?_)
            refine j_iload_n d_Mo_least_4 rfl rfl ?_
            refine j_i2l d_Mo_least_5 ?_
            refine j_ldc2 d_Mo_least_6 k_Mo_230 ?_
            refine j_ldc2 d_Mo_least_9 k_Mo_232 ?_
            refine q_i s_Mo_least_12 rfl (Nat.le_of_ble_eq_true rfl) (Nat.le_of_ble_eq_true rfl) ?_
            refine c_inY 10 16 rfl rfl (by omega) ?_
            refine j_if_ne (tgt := 21) d_Mo_least_15 rfl (fun bq2 => ?_) (fun bq2 => False.elim (absurd bq2 (by decide)))
            refine j_aload_n d_Mo_least_21 rfl rfl ?_
            refine q_i (s_Mo_least_22 rfl (by decide)) rfl (Nat.le_of_ble_eq_true rfl) (Nat.le_of_ble_eq_true rfl) ?_
            refine c_Mo_lacksN mN od hR ?_
            refine j_if_ne (tgt := 37) d_Mo_least_25 rfl (fun bq3 => False.elim (bq3 rfl)) (fun bq3 => ?_)
            refine j_aload_n d_Mo_least_28 rfl rfl ?_
            refine j_geti d_Mo_least_29 f_Mo_234 rfl rfl (by decide) ?_
            refine j_bipush (v := 16) d_Mo_least_32 (by decide) ?_
            refine j_icmp_ne (tgt := 40) d_Mo_least_34 rfl (fun bq4 => ?_) (fun bq4 => False.elim (absurd ((nI_eq (a := Z.2.2.2.1) (b := 16) (by omega) (by omega)).mp (m20.symm.trans bq4)) (by omega)))
            refine j_aload_n d_Mo_least_40 rfl rfl ?_
            refine j_dup d_Mo_least_41 rfl ?_
            refine j_geti d_Mo_least_42 f_Mo_234 rfl rfl (by decide) ?_
            refine j_iconst (v := 1) d_Mo_least_45 rfl ?_
            refine j_iadd d_Mo_least_46 ?_
            refine j_st (st' := [.int (h 47 20 + 1), .ref (G.2.1 + 47)]) rfl ?_
            rw [m20, nI_1]
            refine j_puti d_Mo_least_47 f_Mo_234 (by decide) rfl rfl (by decide) ?_
            refine j_aload_n d_Mo_least_50 rfl rfl ?_
            refine j_iload_n d_Mo_least_51 rfl rfl ?_
            refine q_i (s_Mo_least_52 rfl (by decide)) rfl (Nat.le_of_ble_eq_true rfl) (Nat.le_of_ble_eq_true rfl) ?_
            refine c_Mo_leastOf hN1 od hJ1 ok otk (t := v - 10) (by omega) (by rw [e1]; congr 1; omega) (fun h1 y1 => ?_)
            refine j_iret d_Mo_least_55 rfl ?_
            have hM1 := (hM.ld (v := Z.2.2.2.1 + 1)).scr (y1.mono (by decide) (by decide))
            exact q_i1 (hF _ (fun a ha => (y1.ml (by decide) a ha).trans (y0.ml (by decide) a ha)) hM1) rfl
