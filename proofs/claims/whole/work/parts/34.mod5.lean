set_option maxRecDepth 100000 in
set_option maxHeartbeats 4000000 in
theorem c_Mo_as {G : r_X} {d : Nat} {h : r_HI} {p q : Nat} {z : r_HL} {F : Int32 → r_HI → r_HR → r_HL → Prop} {Z : a_Z} {x : Int32} (hM : p_M h Z) (ho : a_zok Z) (hF : ∀ h', r_ey r_As r_Js h h' → F (s_as Z x) h' (r_gp p q) z) : r_Ci G m_Mo_as (d + 20) 61 [.ref (G.2.1 + 47), .int x] 61 h (r_gp p q) z F := by
  obtain ⟨mG, mN, mJ0, m6, mW, mS, m11, m20, mkk, mkp⟩ := id hM
  obtain ⟨op, ⟨od, ok, otk, ow, os, okd⟩, o3, o4, o5, o6, o7⟩ := id ho
  obtain ⟨od1, od2, od3, od4⟩ := id od
  obtain ⟨ok1, ok2, ok3, ok4⟩ := id ok
  have os1 := os.1
  have op1 := op.1
  rcases ixc x 5 with ⟨ix1, hr1⟩ | ⟨k, hj1, e1, ix1, t1⟩
  · have hs : s_as Z x = -102 := by simp [s_as, ix1]
    rw [hs] at hF
    refine r_C_of (by decide +kernel) (Nat.le_of_ble_eq_true rfl) ?_
    refine j_ls (ls' := [(0, _), (1, _)]) rfl ?_
    refine j_iload_n d_Mo_as_0 rfl rfl ?_
    refine j_i2l d_Mo_as_1 ?_
    refine j_lconst (v := 0) d_Mo_as_2 rfl ?_
    refine j_ldc2 d_Mo_as_3 k_Mo_182 ?_
    refine q_i s_Mo_as_6 rfl (Nat.le_of_ble_eq_true rfl) (Nat.le_of_ble_eq_true rfl) ?_
    refine c_inN 0 4 rfl rfl (by omega) ?_
    refine j_if_ne (tgt := 15) d_Mo_as_9 rfl (fun bq1 => False.elim (bq1 rfl)) (fun bq1 => ?_)
    refine j_bipush (v := (-102)) d_Mo_as_12 (by decide) ?_
    refine j_iret d_Mo_as_14 rfl ?_
    exact q_i1 (hF _ r_ey.rf) rfl
  · by_cases hR : Z.2.1.1.1 = 0
    · have hs : s_as Z x = -103 := by simp [s_as, ix1, hR]
      rw [hs] at hF
      refine r_C_of (by decide +kernel) (Nat.le_of_ble_eq_true rfl) ?_
      refine j_ls (ls' := [(0, _), (1, _)]) rfl ?_
      refine j_iload_n d_Mo_as_0 rfl rfl ?_
      refine j_i2l d_Mo_as_1 ?_
      refine j_lconst (v := 0) d_Mo_as_2 rfl ?_
      refine j_ldc2 d_Mo_as_3 k_Mo_182 ?_
      refine q_i s_Mo_as_6 rfl (Nat.le_of_ble_eq_true rfl) (Nat.le_of_ble_eq_true rfl) ?_
      refine c_inY 0 4 rfl rfl (by omega) ?_
      refine j_if_ne (tgt := 15) d_Mo_as_9 rfl (fun bq1 => ?_) (fun bq1 => False.elim (absurd bq1 (by decide)))
      refine j_aload_n d_Mo_as_15 rfl rfl ?_
      refine q_i (s_Mo_as_16 rfl (by decide)) rfl (Nat.le_of_ble_eq_true rfl) (Nat.le_of_ble_eq_true rfl) ?_
      refine c_Mo_lacksY mN od hR ?_
      refine j_if_eq (tgt := 25) d_Mo_as_19 rfl (fun bq2 => False.elim (absurd bq2 (by decide))) (fun bq2 => ?_)
      refine j_bipush (v := (-103)) d_Mo_as_22 (by decide) ?_
      refine j_iret d_Mo_as_24 rfl ?_
      exact q_i1 (hF _ r_ey.rf) rfl
    · have hia : a_is Z.2.1.2.2.2.2 k = decide (k = 0 ∨ k = Z.2.1.2.2.2.2 ∨ (k = 1 ∧ Z.2.1.2.2.2.2 = 4) ∨ (k = 2 ∧ Z.2.1.2.2.2.2 = 3)) := rfl
      by_cases c0 : k = 0
      · have hi : a_is Z.2.1.2.2.2.2 k = true := by rw [hia]; exact decide_eq_true (Or.inl c0)
        have hs : s_as Z x = nI Z.2.1.2.2.2.2 := by simp [s_as, ix1, hR, hi]
        rw [hs] at hF
        refine r_C_of (by decide +kernel) (Nat.le_of_ble_eq_true rfl) ?_
        refine j_ls (ls' := [(0, _), (1, _)]) rfl ?_
        refine j_iload_n d_Mo_as_0 rfl rfl ?_
        refine j_i2l d_Mo_as_1 ?_
        refine j_lconst (v := 0) d_Mo_as_2 rfl ?_
        refine j_ldc2 d_Mo_as_3 k_Mo_182 ?_
        refine q_i s_Mo_as_6 rfl (Nat.le_of_ble_eq_true rfl) (Nat.le_of_ble_eq_true rfl) ?_
        refine c_inY 0 4 rfl rfl (by omega) ?_
        refine j_if_ne (tgt := 15) d_Mo_as_9 rfl (fun bq1 => ?_) (fun bq1 => False.elim (absurd bq1 (by decide)))
        refine j_aload_n d_Mo_as_15 rfl rfl ?_
        refine q_i (s_Mo_as_16 rfl (by decide)) rfl (Nat.le_of_ble_eq_true rfl) (Nat.le_of_ble_eq_true rfl) ?_
        refine c_Mo_lacksN mN od hR ?_
        refine j_if_eq (tgt := 25) d_Mo_as_19 rfl (fun bq2 => ?_) (fun bq2 => False.elim (bq2 rfl))
        refine j_iload_n d_Mo_as_25 rfl rfl ?_
        refine j_if_eq (tgt := 63) d_Mo_as_26 rfl (fun bq3 => ?_) (fun bq3 => False.elim (bq3 ((xeq (n := 0) (by decide)).mpr (by omega))))
        refine j_iconst (v := 1) d_Mo_as_63 rfl ?_
        refine j_goto (tgt := 68) d_Mo_as_64 rfl ?_
        refine j_istore_n (ls' := [(2, _), (0, _), (1, _)]) d_Mo_as_68 rfl (by decide) rfl ?_
        refine j_iload_n d_Mo_as_69 rfl rfl ?_
        refine j_if_eq (tgt := 80) d_Mo_as_70 rfl (fun bq4 => False.elim (absurd bq4 (by decide))) (fun bq4 => ?_)
        refine j_aload_n d_Mo_as_73 rfl rfl ?_
        refine j_geti d_Mo_as_74 f_Mo_102 rfl rfl (by decide) ?_
        refine j_goto (tgt := 81) d_Mo_as_77 rfl ?_
        refine j_iret d_Mo_as_81 rfl ?_
        exact q_i1 (hF _ r_ey.rf) m6
      · by_cases c1 : k = Z.2.1.2.2.2.2
        · have hi : a_is Z.2.1.2.2.2.2 k = true := by rw [hia]; exact decide_eq_true (Or.inr (Or.inl c1))
          have hs : s_as Z x = nI Z.2.1.2.2.2.2 := by simp [s_as, ix1, hR, hi]
          rw [hs] at hF
          refine r_C_of (by decide +kernel) (Nat.le_of_ble_eq_true rfl) ?_
          refine j_ls (ls' := [(0, _), (1, _)]) rfl ?_
          refine j_iload_n d_Mo_as_0 rfl rfl ?_
          refine j_i2l d_Mo_as_1 ?_
          refine j_lconst (v := 0) d_Mo_as_2 rfl ?_
          refine j_ldc2 d_Mo_as_3 k_Mo_182 ?_
          refine q_i s_Mo_as_6 rfl (Nat.le_of_ble_eq_true rfl) (Nat.le_of_ble_eq_true rfl) ?_
          refine c_inY 0 4 rfl rfl (by omega) ?_
          refine j_if_ne (tgt := 15) d_Mo_as_9 rfl (fun bq1 => ?_) (fun bq1 => False.elim (absurd bq1 (by decide)))
          refine j_aload_n d_Mo_as_15 rfl rfl ?_
          refine q_i (s_Mo_as_16 rfl (by decide)) rfl (Nat.le_of_ble_eq_true rfl) (Nat.le_of_ble_eq_true rfl) ?_
          refine c_Mo_lacksN mN od hR ?_
          refine j_if_eq (tgt := 25) d_Mo_as_19 rfl (fun bq2 => ?_) (fun bq2 => False.elim (bq2 rfl))
          refine j_iload_n d_Mo_as_25 rfl rfl ?_
          refine j_if_eq (tgt := 63) d_Mo_as_26 rfl (fun bq3 => False.elim (absurd ((xeq (n := 0) (by decide)).mp bq3) (by omega))) (fun bq3 => ?_)
          refine j_iload_n d_Mo_as_29 rfl rfl ?_
          refine j_aload_n d_Mo_as_30 rfl rfl ?_
          refine j_geti d_Mo_as_31 f_Mo_102 rfl rfl (by decide) ?_
          refine j_icmp_eq (tgt := 63) d_Mo_as_34 rfl (fun bq4 => ?_) (fun bq4 => False.elim (bq4 (by rw [m6, e1, c1])))
          refine j_iconst (v := 1) d_Mo_as_63 rfl ?_
          refine j_goto (tgt := 68) d_Mo_as_64 rfl ?_
          refine j_istore_n (ls' := [(2, _), (0, _), (1, _)]) d_Mo_as_68 rfl (by decide) rfl ?_
          refine j_iload_n d_Mo_as_69 rfl rfl ?_
          refine j_if_eq (tgt := 80) d_Mo_as_70 rfl (fun bq5 => False.elim (absurd bq5 (by decide))) (fun bq5 => ?_)
          refine j_aload_n d_Mo_as_73 rfl rfl ?_
          refine j_geti d_Mo_as_74 f_Mo_102 rfl rfl (by decide) ?_
          refine j_goto (tgt := 81) d_Mo_as_77 rfl ?_
          refine j_iret d_Mo_as_81 rfl ?_
          exact q_i1 (hF _ r_ey.rf) m6
        · by_cases c2 : k = 1 ∧ Z.2.1.2.2.2.2 = 4
          · have hi : a_is Z.2.1.2.2.2.2 k = true := by rw [hia]; exact decide_eq_true (Or.inr (Or.inr (Or.inl c2)))
            have hs : s_as Z x = nI Z.2.1.2.2.2.2 := by simp [s_as, ix1, hR, hi]
            rw [hs] at hF
            refine r_C_of (by decide +kernel) (Nat.le_of_ble_eq_true rfl) ?_
            refine j_ls (ls' := [(0, _), (1, _)]) rfl ?_
            refine j_iload_n d_Mo_as_0 rfl rfl ?_
            refine j_i2l d_Mo_as_1 ?_
            refine j_lconst (v := 0) d_Mo_as_2 rfl ?_
            refine j_ldc2 d_Mo_as_3 k_Mo_182 ?_
            refine q_i s_Mo_as_6 rfl (Nat.le_of_ble_eq_true rfl) (Nat.le_of_ble_eq_true rfl) ?_
            refine c_inY 0 4 rfl rfl (by omega) ?_
            refine j_if_ne (tgt := 15) d_Mo_as_9 rfl (fun bq1 => ?_) (fun bq1 => False.elim (absurd bq1 (by decide)))
            refine j_aload_n d_Mo_as_15 rfl rfl ?_
            refine q_i (s_Mo_as_16 rfl (by decide)) rfl (Nat.le_of_ble_eq_true rfl) (Nat.le_of_ble_eq_true rfl) ?_
            refine c_Mo_lacksN mN od hR ?_
            refine j_if_eq (tgt := 25) d_Mo_as_19 rfl (fun bq2 => ?_) (fun bq2 => False.elim (bq2 rfl))
            refine j_iload_n d_Mo_as_25 rfl rfl ?_
            refine j_if_eq (tgt := 63) d_Mo_as_26 rfl (fun bq3 => False.elim (absurd ((xeq (n := 0) (by decide)).mp bq3) (by omega))) (fun bq3 => ?_)
            refine j_iload_n d_Mo_as_29 rfl rfl ?_
            refine j_aload_n d_Mo_as_30 rfl rfl ?_
            refine j_geti d_Mo_as_31 f_Mo_102 rfl rfl (by decide) ?_
            refine j_icmp_eq (tgt := 63) d_Mo_as_34 rfl (fun bq4 => False.elim (c1 ((nI_eq (by omega) (by omega)).mp (e1.symm.trans (bq4.trans m6))))) (fun bq4 => ?_)
            refine j_iload_n d_Mo_as_37 rfl rfl ?_
            refine j_iconst (v := 1) d_Mo_as_38 rfl ?_
            refine j_icmp_ne (tgt := 50) d_Mo_as_39 rfl (fun bq5 => False.elim (bq5 ((xeq (n := 1) (by decide)).mpr (by omega)))) (fun bq5 => ?_)
            refine j_aload_n d_Mo_as_42 rfl rfl ?_
            refine j_geti d_Mo_as_43 f_Mo_102 rfl rfl (by decide) ?_
            refine j_iconst (v := 4) d_Mo_as_46 rfl ?_
            refine j_icmp_eq (tgt := 63) d_Mo_as_47 rfl (fun bq6 => ?_) (fun bq6 => False.elim (bq6 (by rw [m6, c2.2]; rfl)))
            refine j_iconst (v := 1) d_Mo_as_63 rfl ?_
            refine j_goto (tgt := 68) d_Mo_as_64 rfl ?_
            refine j_istore_n (ls' := [(2, _), (0, _), (1, _)]) d_Mo_as_68 rfl (by decide) rfl ?_
            refine j_iload_n d_Mo_as_69 rfl rfl ?_
            refine j_if_eq (tgt := 80) d_Mo_as_70 rfl (fun bq7 => False.elim (absurd bq7 (by decide))) (fun bq7 => ?_)
            refine j_aload_n d_Mo_as_73 rfl rfl ?_
            refine j_geti d_Mo_as_74 f_Mo_102 rfl rfl (by decide) ?_
            refine j_goto (tgt := 81) d_Mo_as_77 rfl ?_
            refine j_iret d_Mo_as_81 rfl ?_
            exact q_i1 (hF _ r_ey.rf) m6
          · by_cases c3 : k = 2 ∧ Z.2.1.2.2.2.2 = 3
            · have hi : a_is Z.2.1.2.2.2.2 k = true := by rw [hia]; exact decide_eq_true (Or.inr (Or.inr (Or.inr c3)))
              have hs : s_as Z x = nI Z.2.1.2.2.2.2 := by simp [s_as, ix1, hR, hi]
              rw [hs] at hF
              refine r_C_of (by decide +kernel) (Nat.le_of_ble_eq_true rfl) ?_
              refine j_ls (ls' := [(0, _), (1, _)]) rfl ?_
              refine j_iload_n d_Mo_as_0 rfl rfl ?_
              refine j_i2l d_Mo_as_1 ?_
              refine j_lconst (v := 0) d_Mo_as_2 rfl ?_
              refine j_ldc2 d_Mo_as_3 k_Mo_182 ?_
              refine q_i s_Mo_as_6 rfl (Nat.le_of_ble_eq_true rfl) (Nat.le_of_ble_eq_true rfl) ?_
              refine c_inY 0 4 rfl rfl (by omega) ?_
              refine j_if_ne (tgt := 15) d_Mo_as_9 rfl (fun bq1 => ?_) (fun bq1 => False.elim (absurd bq1 (by decide)))
              refine j_aload_n d_Mo_as_15 rfl rfl ?_
              refine q_i (s_Mo_as_16 rfl (by decide)) rfl (Nat.le_of_ble_eq_true rfl) (Nat.le_of_ble_eq_true rfl) ?_
              refine c_Mo_lacksN mN od hR ?_
              refine j_if_eq (tgt := 25) d_Mo_as_19 rfl (fun bq2 => ?_) (fun bq2 => False.elim (bq2 rfl))
              refine j_iload_n d_Mo_as_25 rfl rfl ?_
              refine j_if_eq (tgt := 63) d_Mo_as_26 rfl (fun bq3 => False.elim (absurd ((xeq (n := 0) (by decide)).mp bq3) (by omega))) (fun bq3 => ?_)
              refine j_iload_n d_Mo_as_29 rfl rfl ?_
              refine j_aload_n d_Mo_as_30 rfl rfl ?_
              refine j_geti d_Mo_as_31 f_Mo_102 rfl rfl (by decide) ?_
              refine j_icmp_eq (tgt := 63) d_Mo_as_34 rfl (fun bq4 => False.elim (c1 ((nI_eq (by omega) (by omega)).mp (e1.symm.trans (bq4.trans m6))))) (fun bq4 => ?_)
              refine j_iload_n d_Mo_as_37 rfl rfl ?_
              refine j_iconst (v := 1) d_Mo_as_38 rfl ?_
              refine j_icmp_ne (tgt := 50) d_Mo_as_39 rfl (fun bq5 => ?_) (fun bq5 => False.elim (absurd ((xeq (n := 1) (by decide)).mp bq5) (by omega)))
              refine j_iload_n d_Mo_as_50 rfl rfl ?_
              refine j_iconst (v := 2) d_Mo_as_51 rfl ?_
              refine j_icmp_ne (tgt := 67) d_Mo_as_52 rfl (fun bq6 => False.elim (bq6 ((xeq (n := 2) (by decide)).mpr (by omega)))) (fun bq6 => ?_)
              refine j_aload_n d_Mo_as_55 rfl rfl ?_
              refine j_geti d_Mo_as_56 f_Mo_102 rfl rfl (by decide) ?_
              refine j_iconst (v := 3) d_Mo_as_59 rfl ?_
              refine j_icmp_ne (tgt := 67) d_Mo_as_60 rfl (fun bq7 => False.elim (bq7 (by rw [m6, c3.2]; rfl))) (fun bq7 => ?_)
              refine j_iconst (v := 1) d_Mo_as_63 rfl ?_
              refine j_goto (tgt := 68) d_Mo_as_64 rfl ?_
              refine j_istore_n (ls' := [(2, _), (0, _), (1, _)]) d_Mo_as_68 rfl (by decide) rfl ?_
              refine j_iload_n d_Mo_as_69 rfl rfl ?_
              refine j_if_eq (tgt := 80) d_Mo_as_70 rfl (fun bq8 => False.elim (absurd bq8 (by decide))) (fun bq8 => ?_)
              refine j_aload_n d_Mo_as_73 rfl rfl ?_
              refine j_geti d_Mo_as_74 f_Mo_102 rfl rfl (by decide) ?_
              refine j_goto (tgt := 81) d_Mo_as_77 rfl ?_
              refine j_iret d_Mo_as_81 rfl ?_
              exact q_i1 (hF _ r_ey.rf) m6
            · have hi : ¬ a_is Z.2.1.2.2.2.2 k = true := by rw [hia]; simp [c0, c1, c2, c3]
              by_cases k1 : k = 1
              · have hs : s_as Z x = -1 := by simp [s_as, ix1, hR, hi]
                rw [hs] at hF
                refine r_C_of (by decide +kernel) (Nat.le_of_ble_eq_true rfl) ?_
                refine j_ls (ls' := [(0, _), (1, _)]) rfl ?_
                refine j_iload_n d_Mo_as_0 rfl rfl ?_
                refine j_i2l d_Mo_as_1 ?_
                refine j_lconst (v := 0) d_Mo_as_2 rfl ?_
                refine j_ldc2 d_Mo_as_3 k_Mo_182 ?_
                refine q_i s_Mo_as_6 rfl (Nat.le_of_ble_eq_true rfl) (Nat.le_of_ble_eq_true rfl) ?_
                refine c_inY 0 4 rfl rfl (by omega) ?_
                refine j_if_ne (tgt := 15) d_Mo_as_9 rfl (fun bq1 => ?_) (fun bq1 => False.elim (absurd bq1 (by decide)))
                refine j_aload_n d_Mo_as_15 rfl rfl ?_
                refine q_i (s_Mo_as_16 rfl (by decide)) rfl (Nat.le_of_ble_eq_true rfl) (Nat.le_of_ble_eq_true rfl) ?_
                refine c_Mo_lacksN mN od hR ?_
                refine j_if_eq (tgt := 25) d_Mo_as_19 rfl (fun bq2 => ?_) (fun bq2 => False.elim (bq2 rfl))
                refine j_iload_n d_Mo_as_25 rfl rfl ?_
                refine j_if_eq (tgt := 63) d_Mo_as_26 rfl (fun bq3 => False.elim (absurd ((xeq (n := 0) (by decide)).mp bq3) (by omega))) (fun bq3 => ?_)
                refine j_iload_n d_Mo_as_29 rfl rfl ?_
                refine j_aload_n d_Mo_as_30 rfl rfl ?_
                refine j_geti d_Mo_as_31 f_Mo_102 rfl rfl (by decide) ?_
                refine j_icmp_eq (tgt := 63) d_Mo_as_34 rfl (fun bq4 => False.elim (c1 ((nI_eq (by omega) (by omega)).mp (e1.symm.trans (bq4.trans m6))))) (fun bq4 => ?_)
                refine j_iload_n d_Mo_as_37 rfl rfl ?_
                refine j_iconst (v := 1) d_Mo_as_38 rfl ?_
                refine j_icmp_ne (tgt := 50) d_Mo_as_39 rfl (fun bq5 => False.elim (bq5 ((xeq (n := 1) (by decide)).mpr (by omega)))) (fun bq5 => ?_)
                refine j_aload_n d_Mo_as_42 rfl rfl ?_
                refine j_geti d_Mo_as_43 f_Mo_102 rfl rfl (by decide) ?_
                refine j_iconst (v := 4) d_Mo_as_46 rfl ?_
                refine j_icmp_eq (tgt := 63) d_Mo_as_47 rfl (fun bq6 => False.elim (absurd ((nI_eq (b := 4) (by omega) (by omega)).mp (m6.symm.trans bq6)) (by omega))) (fun bq6 => ?_)
                refine j_iload_n d_Mo_as_50 rfl rfl ?_
                refine j_iconst (v := 2) d_Mo_as_51 rfl ?_
                refine j_icmp_ne (tgt := 67) d_Mo_as_52 rfl (fun bq7 => ?_) (fun bq7 => False.elim (absurd ((xeq (n := 2) (by decide)).mp bq7) (by omega)))
                refine j_iconst (v := 0) d_Mo_as_67 rfl ?_
                refine j_istore_n (ls' := [(2, _), (0, _), (1, _)]) d_Mo_as_68 rfl (by decide) rfl ?_
                refine j_iload_n d_Mo_as_69 rfl rfl ?_
                refine j_if_eq (tgt := 80) d_Mo_as_70 rfl (fun bq8 => ?_) (fun bq8 => False.elim (bq8 rfl))
                refine j_iconst (v := (-1)) d_Mo_as_80 rfl ?_
                refine j_iret d_Mo_as_81 rfl ?_
                exact q_i1 (hF _ r_ey.rf) rfl
              · by_cases k2 : k = 2
                · have hs : s_as Z x = -1 := by simp [s_as, ix1, hR, hi]
                  rw [hs] at hF
                  refine r_C_of (by decide +kernel) (Nat.le_of_ble_eq_true rfl) ?_
                  refine j_ls (ls' := [(0, _), (1, _)]) rfl ?_
                  refine j_iload_n d_Mo_as_0 rfl rfl ?_
                  refine j_i2l d_Mo_as_1 ?_
                  refine j_lconst (v := 0) d_Mo_as_2 rfl ?_
                  refine j_ldc2 d_Mo_as_3 k_Mo_182 ?_
                  refine q_i s_Mo_as_6 rfl (Nat.le_of_ble_eq_true rfl) (Nat.le_of_ble_eq_true rfl) ?_
                  refine c_inY 0 4 rfl rfl (by omega) ?_
                  refine j_if_ne (tgt := 15) d_Mo_as_9 rfl (fun bq1 => ?_) (fun bq1 => False.elim (absurd bq1 (by decide)))
                  refine j_aload_n d_Mo_as_15 rfl rfl ?_
                  refine q_i (s_Mo_as_16 rfl (by decide)) rfl (Nat.le_of_ble_eq_true rfl) (Nat.le_of_ble_eq_true rfl) ?_
                  refine c_Mo_lacksN mN od hR ?_
                  refine j_if_eq (tgt := 25) d_Mo_as_19 rfl (fun bq2 => ?_) (fun bq2 => False.elim (bq2 rfl))
                  refine j_iload_n d_Mo_as_25 rfl rfl ?_
                  refine j_if_eq (tgt := 63) d_Mo_as_26 rfl (fun bq3 => False.elim (absurd ((xeq (n := 0) (by decide)).mp bq3) (by omega))) (fun bq3 => ?_)
                  refine j_iload_n d_Mo_as_29 rfl rfl ?_
                  refine j_aload_n d_Mo_as_30 rfl rfl ?_
                  refine j_geti d_Mo_as_31 f_Mo_102 rfl rfl (by decide) ?_
                  refine j_icmp_eq (tgt := 63) d_Mo_as_34 rfl (fun bq4 => False.elim (c1 ((nI_eq (by omega) (by omega)).mp (e1.symm.trans (bq4.trans m6))))) (fun bq4 => ?_)
                  refine j_iload_n d_Mo_as_37 rfl rfl ?_
                  refine j_iconst (v := 1) d_Mo_as_38 rfl ?_
                  refine j_icmp_ne (tgt := 50) d_Mo_as_39 rfl (fun bq5 => ?_) (fun bq5 => False.elim (absurd ((xeq (n := 1) (by decide)).mp bq5) (by omega)))
                  refine j_iload_n d_Mo_as_50 rfl rfl ?_
                  refine j_iconst (v := 2) d_Mo_as_51 rfl ?_
                  refine j_icmp_ne (tgt := 67) d_Mo_as_52 rfl (fun bq6 => False.elim (bq6 ((xeq (n := 2) (by decide)).mpr (by omega)))) (fun bq6 => ?_)
                  refine j_aload_n d_Mo_as_55 rfl rfl ?_
                  refine j_geti d_Mo_as_56 f_Mo_102 rfl rfl (by decide) ?_
                  refine j_iconst (v := 3) d_Mo_as_59 rfl ?_
                  refine j_icmp_ne (tgt := 67) d_Mo_as_60 rfl (fun bq7 => ?_) (fun bq7 => False.elim (absurd ((nI_eq (b := 3) (by omega) (by omega)).mp (m6.symm.trans bq7)) (by omega)))
                  refine j_iconst (v := 0) d_Mo_as_67 rfl ?_
                  refine j_istore_n (ls' := [(2, _), (0, _), (1, _)]) d_Mo_as_68 rfl (by decide) rfl ?_
                  refine j_iload_n d_Mo_as_69 rfl rfl ?_
                  refine j_if_eq (tgt := 80) d_Mo_as_70 rfl (fun bq8 => ?_) (fun bq8 => False.elim (bq8 rfl))
                  refine j_iconst (v := (-1)) d_Mo_as_80 rfl ?_
                  refine j_iret d_Mo_as_81 rfl ?_
                  exact q_i1 (hF _ r_ey.rf) rfl
                · have hs : s_as Z x = -1 := by simp [s_as, ix1, hR, hi]
                  rw [hs] at hF
                  refine r_C_of (by decide +kernel) (Nat.le_of_ble_eq_true rfl) ?_
                  refine j_ls (ls' := [(0, _), (1, _)]) rfl ?_
                  refine j_iload_n d_Mo_as_0 rfl rfl ?_
                  refine j_i2l d_Mo_as_1 ?_
                  refine j_lconst (v := 0) d_Mo_as_2 rfl ?_
                  refine j_ldc2 d_Mo_as_3 k_Mo_182 ?_
                  refine q_i s_Mo_as_6 rfl (Nat.le_of_ble_eq_true rfl) (Nat.le_of_ble_eq_true rfl) ?_
                  refine c_inY 0 4 rfl rfl (by omega) ?_
                  refine j_if_ne (tgt := 15) d_Mo_as_9 rfl (fun bq1 => ?_) (fun bq1 => False.elim (absurd bq1 (by decide)))
                  refine j_aload_n d_Mo_as_15 rfl rfl ?_
                  refine q_i (s_Mo_as_16 rfl (by decide)) rfl (Nat.le_of_ble_eq_true rfl) (Nat.le_of_ble_eq_true rfl) ?_
                  refine c_Mo_lacksN mN od hR ?_
                  refine j_if_eq (tgt := 25) d_Mo_as_19 rfl (fun bq2 => ?_) (fun bq2 => False.elim (bq2 rfl))
                  refine j_iload_n d_Mo_as_25 rfl rfl ?_
                  refine j_if_eq (tgt := 63) d_Mo_as_26 rfl (fun bq3 => False.elim (absurd ((xeq (n := 0) (by decide)).mp bq3) (by omega))) (fun bq3 => ?_)
                  refine j_iload_n d_Mo_as_29 rfl rfl ?_
                  refine j_aload_n d_Mo_as_30 rfl rfl ?_
                  refine j_geti d_Mo_as_31 f_Mo_102 rfl rfl (by decide) ?_
                  refine j_icmp_eq (tgt := 63) d_Mo_as_34 rfl (fun bq4 => False.elim (c1 ((nI_eq (by omega) (by omega)).mp (e1.symm.trans (bq4.trans m6))))) (fun bq4 => ?_)
                  refine j_iload_n d_Mo_as_37 rfl rfl ?_
                  refine j_iconst (v := 1) d_Mo_as_38 rfl ?_
                  refine j_icmp_ne (tgt := 50) d_Mo_as_39 rfl (fun bq5 => ?_) (fun bq5 => False.elim (absurd ((xeq (n := 1) (by decide)).mp bq5) (by omega)))
                  refine j_iload_n d_Mo_as_50 rfl rfl ?_
                  refine j_iconst (v := 2) d_Mo_as_51 rfl ?_
                  refine j_icmp_ne (tgt := 67) d_Mo_as_52 rfl (fun bq6 => ?_) (fun bq6 => False.elim (absurd ((xeq (n := 2) (by decide)).mp bq6) (by omega)))
                  refine j_iconst (v := 0) d_Mo_as_67 rfl ?_
                  refine j_istore_n (ls' := [(2, _), (0, _), (1, _)]) d_Mo_as_68 rfl (by decide) rfl ?_
                  refine j_iload_n d_Mo_as_69 rfl rfl ?_
                  refine j_if_eq (tgt := 80) d_Mo_as_70 rfl (fun bq7 => ?_) (fun bq7 => False.elim (bq7 rfl))
                  refine j_iconst (v := (-1)) d_Mo_as_80 rfl ?_
                  refine j_iret d_Mo_as_81 rfl ?_
                  exact q_i1 (hF _ r_ey.rf) rfl
set_option maxRecDepth 100000 in
set_option maxHeartbeats 4000000 in
theorem c_Mo_nextOf {G : r_X} {d : Nat} {h : r_HI} {p q : Nat} {z : r_HL} {F : Int32 → r_HI → r_HR → r_HL → Prop} {Z : a_Z} (hM : p_M h Z) (ho : a_zok Z) (hR : ¬ Z.2.1.1.1 = 0) (hF : ∀ h', r_ey r_As r_Js h h' → F (if Z.2.1.2.1.2.2.2.1 = 0 then -1 else nI (a_nx Z.2.1.1 Z.2.1.2.1 Z.2.1.2.2.2.2)) h' (r_gp p q) z) : r_Ci G m_Mo_nextOf (d + 6) 61 [.ref (G.2.1 + 47)] 61 h (r_gp p q) z F := by
  obtain ⟨mG, mN, mJ0, m6, mW, mS, m11, m20, mkk, mkp⟩ := id hM
  obtain ⟨op, ⟨od, ok, otk, ow, os, okd⟩, o3, o4, o5, o6, o7⟩ := id ho
  obtain ⟨od1, od2, od3, od4⟩ := id od
  obtain ⟨ok1, ok2, ok3, ok4⟩ := id ok
  have os1 := os.1
  have op1 := op.1
  have hJ : p_J h Z.2.1.2.1 := by rw [← z_w_eq (K := Z.2.1.2.1) hR]; exact mJ0
  by_cases hn : Z.2.1.2.1.2.2.2.1 = 0
  · rw [if_pos hn] at hF
    refine r_C_of (by decide +kernel) (Nat.le_of_ble_eq_true rfl) ?_
    refine j_ls (ls' := [(0, _)]) rfl ?_
    refine j_aload_n d_Mo_nextOf_0 rfl rfl ?_
    refine q_v (s_Mo_nextOf_1 rfl (by decide)) rfl (Nat.le_of_ble_eq_true rfl) (Nat.le_of_ble_eq_true rfl) ?_
    refine c_Mo_begin hJ ok3 (fun h1 y1 t1 => ?_)
    refine j_aload_n d_Mo_nextOf_4 rfl rfl ?_
    refine j_aload_n d_Mo_nextOf_5 rfl rfl ?_
    refine j_geti d_Mo_nextOf_6 f_Mo_102 rfl rfl (by decide) ?_
    refine q_i (s_Mo_nextOf_9 rfl (by decide)) rfl (Nat.le_of_ble_eq_true rfl) (Nat.le_of_ble_eq_true rfl) ?_
    refine c_Mo_nextThen0 t1 hn ?_
    refine j_iret d_Mo_nextOf_12 rfl ?_
    exact q_i1 (hF _ (y1.mono (by decide) (by decide))) rfl
  · rw [if_neg hn] at hF
    refine r_C_of (by decide +kernel) (Nat.le_of_ble_eq_true rfl) ?_
    refine j_ls (ls' := [(0, _)]) rfl ?_
    refine j_aload_n d_Mo_nextOf_0 rfl rfl ?_
    refine q_v (s_Mo_nextOf_1 rfl (by decide)) rfl (Nat.le_of_ble_eq_true rfl) (Nat.le_of_ble_eq_true rfl) ?_
    refine c_Mo_begin hJ ok3 (fun h1 y1 t1 => ?_)
    refine j_aload_n d_Mo_nextOf_4 rfl rfl ?_
    refine j_aload_n d_Mo_nextOf_5 rfl rfl ?_
    refine j_geti d_Mo_nextOf_6 f_Mo_102 rfl rfl (by decide) ?_
    refine q_i (s_Mo_nextOf_9 rfl (by decide)) rfl (Nat.le_of_ble_eq_true rfl) (Nat.le_of_ble_eq_true rfl) ?_
    refine c_Mo_nextThen (mN.ey y1 (by decide) (by decide) (by decide) (by decide) (by decide)) od t1 ok (by omega) okd (by rw [y1.2 6 (by decide)]; exact m6) (by omega) (fun h2 y2 t2 => ?_)
    refine j_iret d_Mo_nextOf_12 rfl ?_
    exact q_i1 (hF _ ((y1.mono (by decide) (by decide)).tr y2 (by decide) (by decide))) rfl
set_option maxRecDepth 100000 in
set_option maxHeartbeats 4000000 in
theorem c_Mo_next {G : r_X} {d : Nat} {h : r_HI} {p q : Nat} {z : r_HL} {F : Int32 → r_HI → r_HR → r_HL → Prop} {Z : a_Z} (hM : p_M h Z) (ho : a_zok Z) (hF : ∀ h', r_ey r_As r_Js h h' → F (s_next Z) h' (r_gp p q) z) : r_Ci G m_Mo_next (d + 20) 61 [.ref (G.2.1 + 47)] 61 h (r_gp p q) z F := by
  obtain ⟨mG, mN, mJ0, m6, mW, mS, m11, m20, mkk, mkp⟩ := id hM
  obtain ⟨op, ⟨od, ok, otk, ow, os, okd⟩, o3, o4, o5, o6, o7⟩ := id ho
  obtain ⟨od1, od2, od3, od4⟩ := id od
  obtain ⟨ok1, ok2, ok3, ok4⟩ := id ok
  have os1 := os.1
  have op1 := op.1
  by_cases hR : Z.2.1.1.1 = 0
  · have hs : s_next Z = -103 := by simp [s_next, hR]
    rw [hs] at hF
    refine r_C_of (by decide +kernel) (Nat.le_of_ble_eq_true rfl) ?_
    refine j_ls (ls' := [(0, _)]) rfl ?_
    refine j_aload_n d_Mo_next_0 rfl rfl ?_
    refine q_i (s_Mo_next_1 rfl (by decide)) rfl (Nat.le_of_ble_eq_true rfl) (Nat.le_of_ble_eq_true rfl) ?_
    refine c_Mo_lacksY mN od hR ?_
    refine j_if_eq (tgt := 12) d_Mo_next_4 rfl (fun bq1 => False.elim (absurd bq1 (by decide))) (fun bq1 => ?_)
    refine j_bipush (v := (-103)) d_Mo_next_7 (by decide) ?_
    refine j_goto (tgt := 16) d_Mo_next_9 rfl ?_
    refine j_iret d_Mo_next_16 rfl ?_
    exact q_i1 (hF _ r_ey.rf) rfl
  · have hs : s_next Z = if Z.2.1.2.1.2.2.2.1 = 0 then -1 else nI (a_nx Z.2.1.1 Z.2.1.2.1 Z.2.1.2.2.2.2) := by simp [s_next, hR]
    rw [hs] at hF
    refine r_C_of (by decide +kernel) (Nat.le_of_ble_eq_true rfl) ?_
    refine j_ls (ls' := [(0, _)]) rfl ?_
    refine j_aload_n d_Mo_next_0 rfl rfl ?_
    refine q_i (s_Mo_next_1 rfl (by decide)) rfl (Nat.le_of_ble_eq_true rfl) (Nat.le_of_ble_eq_true rfl) ?_
    refine c_Mo_lacksN mN od hR ?_
    refine j_if_eq (tgt := 12) d_Mo_next_4 rfl (fun bq1 => ?_) (fun bq1 => False.elim (bq1 rfl))
    refine j_aload_n d_Mo_next_12 rfl rfl ?_
    refine q_i (s_Mo_next_13 rfl (by decide)) rfl (Nat.le_of_ble_eq_true rfl) (Nat.le_of_ble_eq_true rfl) ?_
    refine c_Mo_nextOf hM ho hR (fun h1 y1 => ?_)
    refine j_iret d_Mo_next_16 rfl ?_
    exact q_i1 (hF _ y1) rfl
set_option maxRecDepth 100000 in
set_option maxHeartbeats 4000000 in
theorem c_Mo_ask {G : r_X} {d : Nat} {h : r_HI} {p q : Nat} {z : r_HL} {F : Int32 → r_HI → r_HR → r_HL → Prop} {Z : a_Z} {x y : Int32} (hM : p_M h Z) (ho : a_zok Z) (hF : ∀ h', r_ml h h' → p_M h' (s_ask Z x y).2 → F (s_ask Z x y).1 h' (r_gp p q) z) : r_Ci G m_Mo_ask (d + 20) 61 [.ref (G.2.1 + 47), .int x, .int y] 61 h (r_gp p q) z F := by
  obtain ⟨mG, mN, mJ0, m6, mW, mS, m11, m20, mkk, mkp⟩ := id hM
  obtain ⟨op, ⟨od, ok, otk, ow, os, okd⟩, o3, o4, o5, o6, o7⟩ := id ho
  obtain ⟨od1, od2, od3, od4⟩ := id od
  obtain ⟨ok1, ok2, ok3, ok4⟩ := id ok
  have os1 := os.1
  have op1 := op.1
  rcases ixc x Z.2.1.1.1 with ⟨ix1, hr1⟩ | ⟨r, hj1, e1, ix1, t1⟩
  · have hs : s_ask Z x y = (-101, Z) := by simp [s_ask, ix1]
    rw [hs] at hF
    refine r_C_of (by decide +kernel) (Nat.le_of_ble_eq_true rfl) ?_
    refine j_ls (ls' := [(0, _), (1, _), (2, _)]) rfl ?_
    refine j_aload_n d_Mo_ask_0 rfl rfl ?_
    refine j_iload_n d_Mo_ask_1 rfl rfl ?_
    refine q_i (s_Mo_ask_2 rfl (by decide)) rfl (Nat.le_of_ble_eq_true rfl) (Nat.le_of_ble_eq_true rfl) ?_
    refine c_Mo_isRingN mN od hr1 ?_
    refine j_if_eq (tgt := 26) d_Mo_ask_5 rfl (fun bq1 => ?_) (fun bq1 => False.elim (bq1 rfl))
    refine j_bipush (v := (-101)) d_Mo_ask_26 (by decide) ?_
    refine j_iret d_Mo_ask_28 rfl ?_
    exact q_i1 (hF _ r_ml.rf hM) rfl
  · have hR : ¬ Z.2.1.1.1 = 0 := by omega
    have hJ : p_J h Z.2.1.2.1 := by rw [← z_w_eq (K := Z.2.1.2.1) hR]; exact mJ0
    have hpl := (a_pl (od4 r hj1).1).2.1
    have t9 : (nI (Z.2.1.1.2.2.2.1 r) - 1).toInt64.toInt = ((Z.2.1.1.2.2.2.1 r : Nat) : Int) - 1 := by
      rw [Int32.toInt_toInt64]
      exact pk_sub_toInt (b := 1) (by omega) (by decide)
    rcases ixc y (Z.2.1.1.2.2.2.1 r) with ⟨ix2, hr2⟩ | ⟨v, hj2, e2, ix2, t2⟩
    · have hs : s_ask Z x y = (-101, Z) := by simp [s_ask, ix1, ix2]
      rw [hs] at hF
      refine r_C_of (by decide +kernel) (Nat.le_of_ble_eq_true rfl) ?_
      refine j_ls (ls' := [(0, _), (1, _), (2, _)]) rfl ?_
      refine j_aload_n d_Mo_ask_0 rfl rfl ?_
      refine j_iload_n d_Mo_ask_1 rfl rfl ?_
      refine q_i (s_Mo_ask_2 rfl (by decide)) rfl (Nat.le_of_ble_eq_true rfl) (Nat.le_of_ble_eq_true rfl) ?_
      refine c_Mo_isRingY mN od hj1 e1 ?_
      refine j_if_eq (tgt := 26) d_Mo_ask_5 rfl (fun bq1 => False.elim (absurd bq1 (by decide))) (fun bq1 => ?_)
      refine j_iload_n d_Mo_ask_8 rfl rfl ?_
      refine j_i2l d_Mo_ask_9 ?_
      refine j_lconst (v := 0) d_Mo_ask_10 rfl ?_
      refine j_aload_n d_Mo_ask_11 rfl rfl ?_
      refine j_getr d_Mo_ask_12 f_Mo_13 rfl rfl (by decide) rfl ?_
      refine j_iload_n d_Mo_ask_15 rfl rfl ?_
      refine j_iav d_Mo_ask_16 rfl (by decide) (j := r) (e1) (by omega) (by decide) ((mN.2.2.2 r hj1).1) ?_
      refine j_iconst (v := 1) d_Mo_ask_17 rfl ?_
      refine j_isub d_Mo_ask_18 ?_
      refine j_i2l d_Mo_ask_19 ?_
      refine q_i s_Mo_ask_20 rfl (Nat.le_of_ble_eq_true rfl) (Nat.le_of_ble_eq_true rfl) ?_
      refine c_inN 0 (((Z.2.1.1.2.2.2.1 r : Nat) : Int) - 1) rfl t9 (by omega) ?_
      refine j_if_ne (tgt := 29) d_Mo_ask_23 rfl (fun bq2 => False.elim (bq2 rfl)) (fun bq2 => ?_)
      refine j_bipush (v := (-101)) d_Mo_ask_26 (by decide) ?_
      refine j_iret d_Mo_ask_28 rfl ?_
      exact q_i1 (hF _ r_ml.rf hM) rfl
    · by_cases c7 : 7 ≤ Z.2.1.2.1.2.2.2.1
      · have hs : s_ask Z x y = (-104, Z) := by simp [s_ask, ix1, ix2, c7]
        rw [hs] at hF
        refine r_C_of (by decide +kernel) (Nat.le_of_ble_eq_true rfl) ?_
        refine j_ls (ls' := [(0, _), (1, _), (2, _)]) rfl ?_
        refine j_aload_n d_Mo_ask_0 rfl rfl ?_
        refine j_iload_n d_Mo_ask_1 rfl rfl ?_
        refine q_i (s_Mo_ask_2 rfl (by decide)) rfl (Nat.le_of_ble_eq_true rfl) (Nat.le_of_ble_eq_true rfl) ?_
        refine c_Mo_isRingY mN od hj1 e1 ?_
        refine j_if_eq (tgt := 26) d_Mo_ask_5 rfl (fun bq1 => False.elim (absurd bq1 (by decide))) (fun bq1 => ?_)
        refine j_iload_n d_Mo_ask_8 rfl rfl ?_
        refine j_i2l d_Mo_ask_9 ?_
        refine j_lconst (v := 0) d_Mo_ask_10 rfl ?_
        refine j_aload_n d_Mo_ask_11 rfl rfl ?_
        refine j_getr d_Mo_ask_12 f_Mo_13 rfl rfl (by decide) rfl ?_
        refine j_iload_n d_Mo_ask_15 rfl rfl ?_
        refine j_iav d_Mo_ask_16 rfl (by decide) (j := r) (e1) (by omega) (by decide) ((mN.2.2.2 r hj1).1) ?_
        refine j_iconst (v := 1) d_Mo_ask_17 rfl ?_
        refine j_isub d_Mo_ask_18 ?_
        refine j_i2l d_Mo_ask_19 ?_
        refine q_i s_Mo_ask_20 rfl (Nat.le_of_ble_eq_true rfl) (Nat.le_of_ble_eq_true rfl) ?_
        refine c_inY 0 (((Z.2.1.1.2.2.2.1 r : Nat) : Int) - 1) rfl t9 (by omega) ?_
        refine j_if_ne (tgt := 29) d_Mo_ask_23 rfl (fun bq2 => ?_) (fun bq2 => False.elim (absurd bq2 (by decide)))
        refine j_aload_n d_Mo_ask_29 rfl rfl ?_
        refine j_geti d_Mo_ask_30 f_Mo_114 rfl rfl (by decide) ?_
        refine j_bipush (v := 7) d_Mo_ask_33 (by decide) ?_
        refine j_icmp_ne (tgt := 41) d_Mo_ask_35 rfl (fun bq3 => False.elim (bq3 (by rw [hJ.2.2.2.1, show Z.2.1.2.1.2.2.2.1 = 7 by omega]; rfl))) (fun bq3 => ?_)
        refine j_bipush (v := (-104)) d_Mo_ask_38 (by decide) ?_
        refine j_iret d_Mo_ask_40 rfl ?_
        exact q_i1 (hF _ r_ml.rf hM) rfl
      · have hs : s_ask Z x y = (nI (Z.2.1.2.1.2.2.2.1 + 1), z_K Z (a_ask Z.2.1.2.1 r v)) := by simp [s_ask, ix1, ix2, c7]
        rw [hs] at hF
        refine r_C_of (by decide +kernel) (Nat.le_of_ble_eq_true rfl) ?_
        refine j_ls (ls' := [(0, _), (1, _), (2, _)]) rfl ?_
        refine j_aload_n d_Mo_ask_0 rfl rfl ?_
        refine j_iload_n d_Mo_ask_1 rfl rfl ?_
        refine q_i (s_Mo_ask_2 rfl (by decide)) rfl (Nat.le_of_ble_eq_true rfl) (Nat.le_of_ble_eq_true rfl) ?_
        refine c_Mo_isRingY mN od hj1 e1 ?_
        refine j_if_eq (tgt := 26) d_Mo_ask_5 rfl (fun bq1 => False.elim (absurd bq1 (by decide))) (fun bq1 => ?_)
        refine j_iload_n d_Mo_ask_8 rfl rfl ?_
        refine j_i2l d_Mo_ask_9 ?_
        refine j_lconst (v := 0) d_Mo_ask_10 rfl ?_
        refine j_aload_n d_Mo_ask_11 rfl rfl ?_
        refine j_getr d_Mo_ask_12 f_Mo_13 rfl rfl (by decide) rfl ?_
        refine j_iload_n d_Mo_ask_15 rfl rfl ?_
        refine j_iav d_Mo_ask_16 rfl (by decide) (j := r) (e1) (by omega) (by decide) ((mN.2.2.2 r hj1).1) ?_
        refine j_iconst (v := 1) d_Mo_ask_17 rfl ?_
        refine j_isub d_Mo_ask_18 ?_
        refine j_i2l d_Mo_ask_19 ?_
        refine q_i s_Mo_ask_20 rfl (Nat.le_of_ble_eq_true rfl) (Nat.le_of_ble_eq_true rfl) ?_
        refine c_inY 0 (((Z.2.1.1.2.2.2.1 r : Nat) : Int) - 1) rfl t9 (by omega) ?_
        refine j_if_ne (tgt := 29) d_Mo_ask_23 rfl (fun bq2 => ?_) (fun bq2 => False.elim (absurd bq2 (by decide)))
        refine j_aload_n d_Mo_ask_29 rfl rfl ?_
        refine j_geti d_Mo_ask_30 f_Mo_114 rfl rfl (by decide) ?_
        refine j_bipush (v := 7) d_Mo_ask_33 (by decide) ?_
        refine j_icmp_ne (tgt := 41) d_Mo_ask_35 rfl (fun bq3 => ?_) (fun bq3 => False.elim (absurd ((nI_eq (b := 7) (by omega) (by omega)).mp (hJ.2.2.2.1.symm.trans bq3)) (by omega)))
        refine j_aload_n d_Mo_ask_41 rfl rfl ?_
        refine q_v (s_Mo_ask_42 rfl (by decide)) rfl (Nat.le_of_ble_eq_true rfl) (Nat.le_of_ble_eq_true rfl) ?_
        refine c_Mo_begin hJ ok3 (fun h1 y1 t1 => ?_)
        refine j_aload_n d_Mo_ask_45 rfl rfl ?_
        refine j_iload_n d_Mo_ask_46 rfl rfl ?_
        refine j_iload_n d_Mo_ask_47 rfl rfl ?_
        refine q_i (s_Mo_ask_48 rfl (by decide)) rfl (Nat.le_of_ble_eq_true rfl) (Nat.le_of_ble_eq_true rfl) ?_
        refine c_Mo_askThen t1 (by omega) e1 e2 (fun h2 y2 t2 => ?_)
        refine j_pop d_Mo_ask_51 rfl ?_
        refine j_aload_n d_Mo_ask_52 rfl rfl ?_
        refine q_v (s_Mo_ask_53 rfl (by decide)) rfl (Nat.le_of_ble_eq_true rfl) (Nat.le_of_ble_eq_true rfl) ?_
        refine c_Mo_keep t2 (show Z.2.1.2.1.2.2.2.1 + 1 ≤ 7 by omega) (fun h3 y3 j3 => ?_)
        refine j_aload_n d_Mo_ask_56 rfl rfl ?_
        refine j_geti d_Mo_ask_57 f_Mo_114 rfl rfl (by decide) ?_
        refine j_iret d_Mo_ask_60 rfl ?_
        have yy : r_ey [51, 52, 53, 54] r_Jk h h3 := ((y1.mono (by decide) (by decide)).tr y2 (by decide) (by decide)).tr y3 (by decide) (by decide)
        exact q_i1 (hF _ (yy.ml (by decide)) (hM.K hR yy j3)) j3.2.2.2.1
theorem p_T.kN {h : r_HI} {K : a_K} (hT : p_T h K) : h 47 15 = nI K.1 := hT.1
set_option maxRecDepth 100000 in
set_option maxHeartbeats 4000000 in
theorem c_Mo_doneNowF {G : r_X} {d : Nat} {h : r_HI} {p q : Nat} {z : r_HL} {F : Int32 → r_HI → r_HR → r_HL → Prop} {D : a_D} (hN : p_N h D) (ho : a_dok D) {K : a_K} (hT : p_T h K) (hk : a_kok D K) {i : Nat} {a1 : Int32} (ht : K.1 ≤ 100000) (hi : i < K.2.2.2.1) (e1 : a1 = nI i) (hb : 100000 < (a_dn D K.1 K.2.1 (K.2.2.2.2.1 i) (K.2.2.2.2.2.1 i))) (hF : ∀ h', r_ey [52] [15, 16, 18] h h' → F (-104) h' (r_gp p q) z) : r_Ci G m_Mo_doneNow (d + 4) 61 [.ref (G.2.1 + 47), .int a1] 61 h (r_gp p q) z F := by
  have hn7 := hk.2.2.1
  have hdl := a_dn_le ho (t := K.1) (p := K.2.2.2.2.2.1 i) hk.1 (hk.2.2.2 i hi).1
  have hge : K.1 ≤ a_dn D K.1 K.2.1 (K.2.2.2.2.1 i) (K.2.2.2.2.2.1 i) := a_dn_ge
  refine r_C_of (by decide +kernel) (Nat.le_of_ble_eq_true rfl) ?_
  refine j_ls (ls' := [(0, _), (1, _)]) rfl ?_
  refine j_aload_n d_Mo_doneNow_0 rfl rfl ?_
  refine j_iload_n d_Mo_doneNow_1 rfl rfl ?_
  refine q_i (s_Mo_doneNow_2 rfl (by decide)) rfl (Nat.le_of_ble_eq_true rfl) (Nat.le_of_ble_eq_true rfl) ?_
  refine c_Mo_goTo hN ho hT hk (by omega) hi e1 (fun h1 y1 t1 => ?_)
  refine j_pop d_Mo_doneNow_5 rfl ?_
  refine j_aload_n d_Mo_doneNow_6 rfl rfl ?_
  refine j_geti d_Mo_doneNow_7 f_Mo_130 rfl rfl (by decide) ?_
  refine j_ldc d_Mo_doneNow_10 k_Mo_203 ?_
  refine j_icmp_le (tgt := 18) d_Mo_doneNow_12 rfl (fun bq1 => False.elim (nI_ge (a := 100000) (b := (a_dn D K.1 K.2.1 (K.2.2.2.2.1 i) (K.2.2.2.2.2.1 i))) hb (by omega) (show nI (a_dn D K.1 K.2.1 (K.2.2.2.2.1 i) (K.2.2.2.2.2.1 i)) ≤ nI 100000 by rw [← show h1 47 15 = nI (a_dn D K.1 K.2.1 (K.2.2.2.2.1 i) (K.2.2.2.2.2.1 i)) from t1.1]; exact bq1))) (fun bq1 => ?_)
  refine j_bipush (v := (-104)) d_Mo_doneNow_15 (by decide) ?_
  refine j_iret d_Mo_doneNow_17 rfl ?_
  exact q_i1 (hF _ y1) rfl
set_option maxRecDepth 100000 in
set_option maxHeartbeats 4000000 in
theorem c_Mo_doneNowT {G : r_X} {d : Nat} {h : r_HI} {p q : Nat} {z : r_HL} {F : Int32 → r_HI → r_HR → r_HL → Prop} {D : a_D} (hN : p_N h D) (ho : a_dok D) {K : a_K} (hT : p_T h K) (hk : a_kok D K) {i : Nat} {a1 : Int32} (ht : K.1 ≤ 100000) (hi : i < K.2.2.2.1) (e1 : a1 = nI i) (hb : ¬ 100000 < (a_dn D K.1 K.2.1 (K.2.2.2.2.1 i) (K.2.2.2.2.2.1 i))) (hF : ∀ h', r_ey [51, 52] [7, 8, 9, 10, 15, 16, 18] h h' → p_J h' (a_fin D K i) → F (nI (a_dn D K.1 K.2.1 (K.2.2.2.2.1 i) (K.2.2.2.2.2.1 i))) h' (r_gp p q) z) : r_Ci G m_Mo_doneNow (d + 4) 61 [.ref (G.2.1 + 47), .int a1] 61 h (r_gp p q) z F := by
  have hn7 := hk.2.2.1
  have hdl := a_dn_le ho (t := K.1) (p := K.2.2.2.2.2.1 i) hk.1 (hk.2.2.2 i hi).1
  have hge : K.1 ≤ a_dn D K.1 K.2.1 (K.2.2.2.2.1 i) (K.2.2.2.2.2.1 i) := a_dn_ge
  refine r_C_of (by decide +kernel) (Nat.le_of_ble_eq_true rfl) ?_
  refine j_ls (ls' := [(0, _), (1, _)]) rfl ?_
  refine j_aload_n d_Mo_doneNow_0 rfl rfl ?_
  refine j_iload_n d_Mo_doneNow_1 rfl rfl ?_
  refine q_i (s_Mo_doneNow_2 rfl (by decide)) rfl (Nat.le_of_ble_eq_true rfl) (Nat.le_of_ble_eq_true rfl) ?_
  refine c_Mo_goTo hN ho hT hk (by omega) hi e1 (fun h1 y1 t1 => ?_)
  refine j_pop d_Mo_doneNow_5 rfl ?_
  refine j_aload_n d_Mo_doneNow_6 rfl rfl ?_
  refine j_geti d_Mo_doneNow_7 f_Mo_130 rfl rfl (by decide) ?_
  refine j_ldc d_Mo_doneNow_10 k_Mo_203 ?_
  refine j_icmp_le (tgt := 18) d_Mo_doneNow_12 rfl (fun bq1 => ?_) (fun bq1 => False.elim (bq1 (show h1 47 15 ≤ nI 100000 by rw [show h1 47 15 = nI (a_dn D K.1 K.2.1 (K.2.2.2.2.1 i) (K.2.2.2.2.2.1 i)) from t1.1]; exact nI_le (by omega) (by omega))))
  refine j_aload_n d_Mo_doneNow_18 rfl rfl ?_
  refine q_v (s_Mo_doneNow_19 rfl (by decide)) rfl (Nat.le_of_ble_eq_true rfl) (Nat.le_of_ble_eq_true rfl) ?_
  refine c_Mo_keep t1 (show K.2.2.2.1 - 1 ≤ 7 by omega) (fun h2 y2 j2 => ?_)
  refine j_aload_n d_Mo_doneNow_22 rfl rfl ?_
  refine j_geti d_Mo_doneNow_23 f_Mo_105 rfl rfl (by decide) ?_
  refine j_iret d_Mo_doneNow_26 rfl ?_
  exact q_i1 (hF _ ((y1.mono (by decide) (by decide)).tr y2 (by decide) (by decide)) j2) j2.1
set_option maxRecDepth 100000 in
set_option maxHeartbeats 4000000 in
theorem c_Mo_serve {G : r_X} {d : Nat} {h : r_HI} {p q : Nat} {z : r_HL} {F : Int32 → r_HI → r_HR → r_HL → Prop} {Z : a_Z} (hM : p_M h Z) (ho : a_zok Z) (hF : ∀ h', r_ml h h' → p_M h' (s_serve Z).2 → F (s_serve Z).1 h' (r_gp p q) z) : r_Ci G m_Mo_serve (d + 20) 61 [.ref (G.2.1 + 47)] 61 h (r_gp p q) z F := by
  obtain ⟨mG, mN, mJ0, m6, mW, mS, m11, m20, mkk, mkp⟩ := id hM
  obtain ⟨op, ⟨od, ok, otk, ow, os, okd⟩, o3, o4, o5, o6, o7⟩ := id ho
  obtain ⟨od1, od2, od3, od4⟩ := id od
  obtain ⟨ok1, ok2, ok3, ok4⟩ := id ok
  have os1 := os.1
  have op1 := op.1
  by_cases hn : Z.2.1.2.1.2.2.2.1 = 0
  · have hs : s_serve Z = (-103, Z) := by simp [s_serve, hn]
    rw [hs] at hF
    refine r_C_of (by decide +kernel) (Nat.le_of_ble_eq_true rfl) ?_
    refine j_ls (ls' := [(0, _)]) rfl ?_
    refine j_aload_n d_Mo_serve_0 rfl rfl ?_
    refine j_geti d_Mo_serve_1 f_Mo_114 rfl rfl (by decide) ?_
    refine j_if_ne (tgt := 10) d_Mo_serve_4 rfl (fun bq1 => False.elim (bq1 (by rw [mJ0.2.2.2.1]; exact congrArg nI hn))) (fun bq1 => ?_)
    refine j_bipush (v := (-103)) d_Mo_serve_7 (by decide) ?_
    refine j_iret d_Mo_serve_9 rfl ?_
    exact q_i1 (hF _ r_ml.rf hM) rfl
  · have hR : ¬ Z.2.1.1.1 = 0 := by
      have := (ok4 0 (by omega)).1
      omega
    have hJ : p_J h Z.2.1.2.1 := by rw [← z_w_eq (K := Z.2.1.2.1) hR]; exact mJ0
    have hnx : (a_nx Z.2.1.1 Z.2.1.2.1 Z.2.1.2.2.2.2) < Z.2.1.2.1.2.2.2.1 := a_nx_lt (by omega)
    by_cases h5 : 100000 < a_dnK Z (a_nx Z.2.1.1 Z.2.1.2.1 Z.2.1.2.2.2.2)
    · have hs : s_serve Z = (-104, Z) := by simp [s_serve, hR, hn, h5]
      rw [hs] at hF
      refine r_C_of (by decide +kernel) (Nat.le_of_ble_eq_true rfl) ?_
      refine j_ls (ls' := [(0, _)]) rfl ?_
      refine j_aload_n d_Mo_serve_0 rfl rfl ?_
      refine j_geti d_Mo_serve_1 f_Mo_114 rfl rfl (by decide) ?_
      refine j_if_ne (tgt := 10) d_Mo_serve_4 rfl (fun bq1 => ?_) (fun bq1 => False.elim (absurd ((nI_eq (a := Z.2.1.2.1.2.2.2.1) (b := 0) (by omega) (by omega)).mp (hJ.2.2.2.1.symm.trans bq1)) hn))
      refine j_aload_n d_Mo_serve_10 rfl rfl ?_
      refine q_v (s_Mo_serve_11 rfl (by decide)) rfl (Nat.le_of_ble_eq_true rfl) (Nat.le_of_ble_eq_true rfl) ?_
      refine c_Mo_begin hJ ok3 (fun h1 y1 t1 => ?_)
      refine j_aload_n d_Mo_serve_14 rfl rfl ?_
      refine j_aload_n d_Mo_serve_15 rfl rfl ?_
      refine j_aload_n d_Mo_serve_16 rfl rfl ?_
      refine j_geti d_Mo_serve_17 f_Mo_102 rfl rfl (by decide) ?_
      refine q_i (s_Mo_serve_20 rfl (by decide)) rfl (Nat.le_of_ble_eq_true rfl) (Nat.le_of_ble_eq_true rfl) ?_
      refine c_Mo_nextThen (mN.ey y1 (by decide) (by decide) (by decide) (by decide) (by decide)) od t1 ok (by omega) okd (by rw [y1.2 6 (by decide)]; exact m6) (by omega) (fun h2 y2 t2 => ?_)
      refine q_i (s_Mo_serve_23 rfl (by decide)) rfl (Nat.le_of_ble_eq_true rfl) (Nat.le_of_ble_eq_true rfl) ?_
      refine c_Mo_doneNowF ((mN.ey y1 (by decide) (by decide) (by decide) (by decide) (by decide)).ey y2 (by decide) (by decide) (by decide) (by decide) (by decide)) od t2 (ok.w (a_tw_le ok2)) otk hnx rfl h5 (fun h3 y3 => ?_)
      refine j_iret d_Mo_serve_26 rfl ?_
      have yy : r_ey r_As r_Js h h3 := (((y1.mono (by decide) (by decide)).tr y2 (by decide) (by decide)).tr y3 (by decide) (by decide))
      exact q_i1 (hF _ (yy.ml (by decide)) (hM.scr yy)) rfl
    · have hs : s_serve Z = (nI (a_dnK Z (a_nx Z.2.1.1 Z.2.1.2.1 Z.2.1.2.2.2.2)), z_K Z (a_fo Z.2.1.1 Z.2.1.2.1 Z.2.1.2.2.2.2 (a_nx Z.2.1.1 Z.2.1.2.1 Z.2.1.2.2.2.2))) := by simp [s_serve, hR, hn, h5]
      rw [hs] at hF
      refine r_C_of (by decide +kernel) (Nat.le_of_ble_eq_true rfl) ?_
      refine j_ls (ls' := [(0, _)]) rfl ?_
      refine j_aload_n d_Mo_serve_0 rfl rfl ?_
      refine j_geti d_Mo_serve_1 f_Mo_114 rfl rfl (by decide) ?_
      refine j_if_ne (tgt := 10) d_Mo_serve_4 rfl (fun bq1 => ?_) (fun bq1 => False.elim (absurd ((nI_eq (a := Z.2.1.2.1.2.2.2.1) (b := 0) (by omega) (by omega)).mp (hJ.2.2.2.1.symm.trans bq1)) hn))
      refine j_aload_n d_Mo_serve_10 rfl rfl ?_
      refine q_v (s_Mo_serve_11 rfl (by decide)) rfl (Nat.le_of_ble_eq_true rfl) (Nat.le_of_ble_eq_true rfl) ?_
      refine c_Mo_begin hJ ok3 (fun h1 y1 t1 => ?_)
      refine j_aload_n d_Mo_serve_14 rfl rfl ?_
      refine j_aload_n d_Mo_serve_15 rfl rfl ?_
      refine j_aload_n d_Mo_serve_16 rfl rfl ?_
      refine j_geti d_Mo_serve_17 f_Mo_102 rfl rfl (by decide) ?_
      refine q_i (s_Mo_serve_20 rfl (by decide)) rfl (Nat.le_of_ble_eq_true rfl) (Nat.le_of_ble_eq_true rfl) ?_
      refine c_Mo_nextThen (mN.ey y1 (by decide) (by decide) (by decide) (by decide) (by decide)) od t1 ok (by omega) okd (by rw [y1.2 6 (by decide)]; exact m6) (by omega) (fun h2 y2 t2 => ?_)
      refine q_i (s_Mo_serve_23 rfl (by decide)) rfl (Nat.le_of_ble_eq_true rfl) (Nat.le_of_ble_eq_true rfl) ?_
      refine c_Mo_doneNowT ((mN.ey y1 (by decide) (by decide) (by decide) (by decide) (by decide)).ey y2 (by decide) (by decide) (by decide) (by decide) (by decide)) od t2 (ok.w (a_tw_le ok2)) otk hnx rfl h5 (fun h3 y3 j3 => ?_)
      refine j_iret d_Mo_serve_26 rfl ?_
      have yy : r_ey [51, 52, 53, 54] r_Jk h h3 := (((y1.mono (by decide) (by decide)).tr y2 (by decide) (by decide)).tr y3 (by decide) (by decide))
      exact q_i1 (hF _ (yy.ml (by decide)) (hM.K hR yy j3)) rfl
set_option maxRecDepth 100000 in
set_option maxHeartbeats 4000000 in
theorem c_Mo_read {G : r_X} {d : Nat} {h : r_HI} {p q : Nat} {z : r_HL} {F : Int32 → r_HI → r_HR → r_HL → Prop} {Z : a_Z} {x : Int32} (hM : p_M h Z) (ho : a_zok Z) (hF : ∀ h', r_ml h h' → p_M h' (s_read Z x).2 → F (s_read Z x).1 h' (r_gp p q) z) : r_Ci G m_Mo_read (d + 20) 61 [.ref (G.2.1 + 47), .int x] 61 h (r_gp p q) z F := by
  obtain ⟨mG, mN, mJ0, m6, mW, mS, m11, m20, mkk, mkp⟩ := id hM
  obtain ⟨op, ⟨od, ok, otk, ow, os, okd⟩, o3, o4, o5, o6, o7⟩ := id ho
  obtain ⟨od1, od2, od3, od4⟩ := id od
  obtain ⟨ok1, ok2, ok3, ok4⟩ := id ok
  have os1 := os.1
  have op1 := op.1
  have t9 : (h 47 10 - 1).toInt64.toInt = (Z.2.1.2.1.2.2.2.1 : Int) - 1 := by
    rw [Int32.toInt_toInt64, mJ0.2.2.2.1]
    exact pk_sub_toInt (a := Z.2.1.2.1.2.2.2.1) (b := 1) (by omega) (by decide)
  rcases ixc x Z.2.1.2.1.2.2.2.1 with ⟨ix1, hr1⟩ | ⟨r, hj1, e1, ix1, t1⟩
  · have hs : s_read Z x = (-101, Z) := by simp [s_read, ix1]
    rw [hs] at hF
    refine r_C_of (by decide +kernel) (Nat.le_of_ble_eq_true rfl) ?_
    refine j_ls (ls' := [(0, _), (1, _)]) rfl ?_
    refine j_iload_n d_Mo_read_0 rfl rfl ?_
    refine j_i2l d_Mo_read_1 ?_
    refine j_lconst (v := 0) d_Mo_read_2 rfl ?_
    refine j_aload_n d_Mo_read_3 rfl rfl ?_
    refine j_geti d_Mo_read_4 f_Mo_114 rfl rfl (by decide) ?_
    refine j_iconst (v := 1) d_Mo_read_7 rfl ?_
    refine j_isub d_Mo_read_8 ?_
    refine j_i2l d_Mo_read_9 ?_
    refine q_i s_Mo_read_10 rfl (Nat.le_of_ble_eq_true rfl) (Nat.le_of_ble_eq_true rfl) ?_
    refine c_inN 0 ((Z.2.1.2.1.2.2.2.1 : Int) - 1) rfl t9 (by omega) ?_
    refine j_if_ne (tgt := 19) d_Mo_read_13 rfl (fun bq1 => False.elim (bq1 rfl)) (fun bq1 => ?_)
    refine j_bipush (v := (-101)) d_Mo_read_16 (by decide) ?_
    refine j_iret d_Mo_read_18 rfl ?_
    exact q_i1 (hF _ r_ml.rf hM) rfl
  · have hR : ¬ Z.2.1.1.1 = 0 := by
      have := (ok4 r hj1).1
      omega
    have hJ : p_J h Z.2.1.2.1 := by rw [← z_w_eq (K := Z.2.1.2.1) hR]; exact mJ0
    by_cases h5 : 100000 < a_dnK Z r
    · have hs : s_read Z x = (-104, Z) := by simp [s_read, ix1, h5]
      rw [hs] at hF
      refine r_C_of (by decide +kernel) (Nat.le_of_ble_eq_true rfl) ?_
      refine j_ls (ls' := [(0, _), (1, _)]) rfl ?_
      refine j_iload_n d_Mo_read_0 rfl rfl ?_
      refine j_i2l d_Mo_read_1 ?_
      refine j_lconst (v := 0) d_Mo_read_2 rfl ?_
      refine j_aload_n d_Mo_read_3 rfl rfl ?_
      refine j_geti d_Mo_read_4 f_Mo_114 rfl rfl (by decide) ?_
      refine j_iconst (v := 1) d_Mo_read_7 rfl ?_
      refine j_isub d_Mo_read_8 ?_
      refine j_i2l d_Mo_read_9 ?_
      refine q_i s_Mo_read_10 rfl (Nat.le_of_ble_eq_true rfl) (Nat.le_of_ble_eq_true rfl) ?_
      refine c_inY 0 ((Z.2.1.2.1.2.2.2.1 : Int) - 1) rfl t9 (by omega) ?_
      refine j_if_ne (tgt := 19) d_Mo_read_13 rfl (fun bq1 => ?_) (fun bq1 => False.elim (absurd bq1 (by decide)))
      refine j_aload_n d_Mo_read_19 rfl rfl ?_
      refine q_v (s_Mo_read_20 rfl (by decide)) rfl (Nat.le_of_ble_eq_true rfl) (Nat.le_of_ble_eq_true rfl) ?_
      refine c_Mo_begin hJ ok3 (fun h1 y1 t1 => ?_)
      refine j_aload_n d_Mo_read_23 rfl rfl ?_
      refine j_iload_n d_Mo_read_24 rfl rfl ?_
      refine q_i (s_Mo_read_25 rfl (by decide)) rfl (Nat.le_of_ble_eq_true rfl) (Nat.le_of_ble_eq_true rfl) ?_
      refine c_Mo_doneNowF (mN.ey y1 (by decide) (by decide) (by decide) (by decide) (by decide)) od t1 ok otk hj1 e1 h5 (fun h3 y3 => ?_)
      refine j_iret d_Mo_read_28 rfl ?_
      have yy : r_ey r_As r_Js h h3 := ((y1.mono (by decide) (by decide)).tr y3 (by decide) (by decide))
      exact q_i1 (hF _ (yy.ml (by decide)) (hM.scr yy)) rfl
    · have hs : s_read Z x = (nI (a_dnK Z r), z_K Z (a_fin Z.2.1.1 Z.2.1.2.1 r)) := by simp [s_read, ix1, h5]
      rw [hs] at hF
      refine r_C_of (by decide +kernel) (Nat.le_of_ble_eq_true rfl) ?_
      refine j_ls (ls' := [(0, _), (1, _)]) rfl ?_
      refine j_iload_n d_Mo_read_0 rfl rfl ?_
      refine j_i2l d_Mo_read_1 ?_
      refine j_lconst (v := 0) d_Mo_read_2 rfl ?_
      refine j_aload_n d_Mo_read_3 rfl rfl ?_
      refine j_geti d_Mo_read_4 f_Mo_114 rfl rfl (by decide) ?_
      refine j_iconst (v := 1) d_Mo_read_7 rfl ?_
      refine j_isub d_Mo_read_8 ?_
      refine j_i2l d_Mo_read_9 ?_
      refine q_i s_Mo_read_10 rfl (Nat.le_of_ble_eq_true rfl) (Nat.le_of_ble_eq_true rfl) ?_
      refine c_inY 0 ((Z.2.1.2.1.2.2.2.1 : Int) - 1) rfl t9 (by omega) ?_
      refine j_if_ne (tgt := 19) d_Mo_read_13 rfl (fun bq1 => ?_) (fun bq1 => False.elim (absurd bq1 (by decide)))
      refine j_aload_n d_Mo_read_19 rfl rfl ?_
      refine q_v (s_Mo_read_20 rfl (by decide)) rfl (Nat.le_of_ble_eq_true rfl) (Nat.le_of_ble_eq_true rfl) ?_
      refine c_Mo_begin hJ ok3 (fun h1 y1 t1 => ?_)
      refine j_aload_n d_Mo_read_23 rfl rfl ?_
      refine j_iload_n d_Mo_read_24 rfl rfl ?_
      refine q_i (s_Mo_read_25 rfl (by decide)) rfl (Nat.le_of_ble_eq_true rfl) (Nat.le_of_ble_eq_true rfl) ?_
      refine c_Mo_doneNowT (mN.ey y1 (by decide) (by decide) (by decide) (by decide) (by decide)) od t1 ok otk hj1 e1 h5 (fun h3 y3 j3 => ?_)
      refine j_iret d_Mo_read_28 rfl ?_
      have yy : r_ey [51, 52, 53, 54] r_Jk h h3 := ((y1.mono (by decide) (by decide)).tr y3 (by decide) (by decide))
      exact q_i1 (hF _ (yy.ml (by decide)) (hM.K hR yy j3)) rfl
set_option maxRecDepth 100000 in
set_option maxHeartbeats 4000000 in
theorem c_Mo_pass {G : r_X} {d : Nat} {h : r_HI} {p q : Nat} {z : r_HL} {F : Int32 → r_HI → r_HR → r_HL → Prop} {Z : a_Z} {x : Int32} (hM : p_M h Z) (ho : a_zok Z) (hF : ∀ h', r_ml h h' → p_M h' (s_pass Z x).2 → F (s_pass Z x).1 h' (r_gp p q) z) : r_Ci G m_Mo_pass (d + 20) 61 [.ref (G.2.1 + 47), .int x] 61 h (r_gp p q) z F := by
  obtain ⟨mG, mN, mJ0, m6, mW, mS, m11, m20, mkk, mkp⟩ := id hM
  obtain ⟨op, ⟨od, ok, otk, ow, os, okd⟩, o3, o4, o5, o6, o7⟩ := id ho
  obtain ⟨od1, od2, od3, od4⟩ := id od
  obtain ⟨ok1, ok2, ok3, ok4⟩ := id ok
  have os1 := os.1
  have op1 := op.1
  rcases ixc x 100 with ⟨ix1, hr1⟩ | ⟨c, hj1, e1, ix1, t1⟩
  · have hs : s_pass Z x = (-102, Z) := by simp [s_pass, ix1]
    rw [hs] at hF
    refine r_C_of (by decide +kernel) (Nat.le_of_ble_eq_true rfl) ?_
    refine j_ls (ls' := [(0, _), (1, _)]) rfl ?_
    refine j_iload_n d_Mo_pass_0 rfl rfl ?_
    refine j_i2l d_Mo_pass_1 ?_
    refine j_lconst (v := 1) d_Mo_pass_2 rfl ?_
    refine j_ldc2 d_Mo_pass_3 k_Mo_207 ?_
    refine q_i s_Mo_pass_6 rfl (Nat.le_of_ble_eq_true rfl) (Nat.le_of_ble_eq_true rfl) ?_
    refine c_inN 1 99 rfl rfl (by omega) ?_
    refine j_if_ne (tgt := 15) d_Mo_pass_9 rfl (fun bq1 => False.elim (bq1 rfl)) (fun bq1 => ?_)
    refine j_bipush (v := (-102)) d_Mo_pass_12 (by decide) ?_
    refine j_iret d_Mo_pass_14 rfl ?_
    exact q_i1 (hF _ r_ml.rf hM) rfl
  · by_cases c0 : c = 0
    · have hs : s_pass Z x = (-102, Z) := by simp [s_pass, ix1, c0]
      rw [hs] at hF
      refine r_C_of (by decide +kernel) (Nat.le_of_ble_eq_true rfl) ?_
      refine j_ls (ls' := [(0, _), (1, _)]) rfl ?_
      refine j_iload_n d_Mo_pass_0 rfl rfl ?_
      refine j_i2l d_Mo_pass_1 ?_
      refine j_lconst (v := 1) d_Mo_pass_2 rfl ?_
      refine j_ldc2 d_Mo_pass_3 k_Mo_207 ?_
      refine q_i s_Mo_pass_6 rfl (Nat.le_of_ble_eq_true rfl) (Nat.le_of_ble_eq_true rfl) ?_
      refine c_inN 1 99 rfl rfl (by omega) ?_
      refine j_if_ne (tgt := 15) d_Mo_pass_9 rfl (fun bq1 => False.elim (bq1 rfl)) (fun bq1 => ?_)
      refine j_bipush (v := (-102)) d_Mo_pass_12 (by decide) ?_
      refine j_iret d_Mo_pass_14 rfl ?_
      exact q_i1 (hF _ r_ml.rf hM) rfl
    · by_cases hR : Z.2.1.1.1 = 0
      · have hs : s_pass Z x = (-103, Z) := by simp [s_pass, ix1, c0, hR]
        rw [hs] at hF
        refine r_C_of (by decide +kernel) (Nat.le_of_ble_eq_true rfl) ?_
        refine j_ls (ls' := [(0, _), (1, _)]) rfl ?_
        refine j_iload_n d_Mo_pass_0 rfl rfl ?_
        refine j_i2l d_Mo_pass_1 ?_
        refine j_lconst (v := 1) d_Mo_pass_2 rfl ?_
        refine j_ldc2 d_Mo_pass_3 k_Mo_207 ?_
        refine q_i s_Mo_pass_6 rfl (Nat.le_of_ble_eq_true rfl) (Nat.le_of_ble_eq_true rfl) ?_
        refine c_inY 1 99 rfl rfl (by omega) ?_
        refine j_if_ne (tgt := 15) d_Mo_pass_9 rfl (fun bq1 => ?_) (fun bq1 => False.elim (absurd bq1 (by decide)))
        refine j_aload_n d_Mo_pass_15 rfl rfl ?_
        refine q_i (s_Mo_pass_16 rfl (by decide)) rfl (Nat.le_of_ble_eq_true rfl) (Nat.le_of_ble_eq_true rfl) ?_
        refine c_Mo_lacksY mN od hR ?_
        refine j_if_eq (tgt := 25) d_Mo_pass_19 rfl (fun bq2 => False.elim (absurd bq2 (by decide))) (fun bq2 => ?_)
        refine j_bipush (v := (-103)) d_Mo_pass_22 (by decide) ?_
        refine j_iret d_Mo_pass_24 rfl ?_
        exact q_i1 (hF _ r_ml.rf hM) rfl
      · have hJ : p_J h Z.2.1.2.1 := by rw [← z_w_eq (K := Z.2.1.2.1) hR]; exact mJ0
        by_cases h5 : 100000 < Z.2.1.2.1.1 + c
        · have hs : s_pass Z x = (-104, Z) := by simp [s_pass, ix1, c0, hR, h5]
          rw [hs] at hF
          refine r_C_of (by decide +kernel) (Nat.le_of_ble_eq_true rfl) ?_
          refine j_ls (ls' := [(0, _), (1, _)]) rfl ?_
          refine j_iload_n d_Mo_pass_0 rfl rfl ?_
          refine j_i2l d_Mo_pass_1 ?_
          refine j_lconst (v := 1) d_Mo_pass_2 rfl ?_
          refine j_ldc2 d_Mo_pass_3 k_Mo_207 ?_
          refine q_i s_Mo_pass_6 rfl (Nat.le_of_ble_eq_true rfl) (Nat.le_of_ble_eq_true rfl) ?_
          refine c_inY 1 99 rfl rfl (by omega) ?_
          refine j_if_ne (tgt := 15) d_Mo_pass_9 rfl (fun bq1 => ?_) (fun bq1 => False.elim (absurd bq1 (by decide)))
          refine j_aload_n d_Mo_pass_15 rfl rfl ?_
          refine q_i (s_Mo_pass_16 rfl (by decide)) rfl (Nat.le_of_ble_eq_true rfl) (Nat.le_of_ble_eq_true rfl) ?_
          refine c_Mo_lacksN mN od hR ?_
          refine j_if_eq (tgt := 25) d_Mo_pass_19 rfl (fun bq2 => ?_) (fun bq2 => False.elim (bq2 rfl))
          refine j_aload_n d_Mo_pass_25 rfl rfl ?_
          refine j_geti d_Mo_pass_26 f_Mo_105 rfl rfl (by decide) ?_
          refine j_iload_n d_Mo_pass_29 rfl rfl ?_
          refine j_iadd d_Mo_pass_30 ?_
          rw [hJ.1, e1, nI_add]
          refine j_ldc d_Mo_pass_31 k_Mo_203 ?_
          refine j_icmp_le (tgt := 39) d_Mo_pass_33 rfl (fun bq3 => False.elim (nI_ge (b := Z.2.1.2.1.1 + c) (a := 100000) (by omega) (by omega) bq3)) (fun bq3 => ?_)
          refine j_bipush (v := (-104)) d_Mo_pass_36 (by decide) ?_
          refine j_iret d_Mo_pass_38 rfl ?_
          exact q_i1 (hF _ r_ml.rf hM) rfl
        · have hs : s_pass Z x = (nI (Z.2.1.2.1.1 + c), z_K Z (Z.2.1.2.1.1 + c, Z.2.1.2.1.2)) := by simp [s_pass, ix1, c0, hR, h5]
          rw [hs] at hF
          refine r_C_of (by decide +kernel) (Nat.le_of_ble_eq_true rfl) ?_
          refine j_ls (ls' := [(0, _), (1, _)]) rfl ?_
          refine j_iload_n d_Mo_pass_0 rfl rfl ?_
          refine j_i2l d_Mo_pass_1 ?_
          refine j_lconst (v := 1) d_Mo_pass_2 rfl ?_
          refine j_ldc2 d_Mo_pass_3 k_Mo_207 ?_
          refine q_i s_Mo_pass_6 rfl (Nat.le_of_ble_eq_true rfl) (Nat.le_of_ble_eq_true rfl) ?_
          refine c_inY 1 99 rfl rfl (by omega) ?_
          refine j_if_ne (tgt := 15) d_Mo_pass_9 rfl (fun bq1 => ?_) (fun bq1 => False.elim (absurd bq1 (by decide)))
          refine j_aload_n d_Mo_pass_15 rfl rfl ?_
          refine q_i (s_Mo_pass_16 rfl (by decide)) rfl (Nat.le_of_ble_eq_true rfl) (Nat.le_of_ble_eq_true rfl) ?_
          refine c_Mo_lacksN mN od hR ?_
          refine j_if_eq (tgt := 25) d_Mo_pass_19 rfl (fun bq2 => ?_) (fun bq2 => False.elim (bq2 rfl))
          refine j_aload_n d_Mo_pass_25 rfl rfl ?_
          refine j_geti d_Mo_pass_26 f_Mo_105 rfl rfl (by decide) ?_
          refine j_iload_n d_Mo_pass_29 rfl rfl ?_
          refine j_iadd d_Mo_pass_30 ?_
          rw [hJ.1, e1, nI_add]
          refine j_ldc d_Mo_pass_31 k_Mo_203 ?_
          refine j_icmp_le (tgt := 39) d_Mo_pass_33 rfl (fun bq3 => ?_) (fun bq3 => False.elim (bq3 (nI_le (a := Z.2.1.2.1.1 + c) (b := 100000) (by omega) (by omega))))
          refine j_aload_n d_Mo_pass_39 rfl rfl ?_
          refine j_dup d_Mo_pass_40 rfl ?_
          refine j_geti d_Mo_pass_41 f_Mo_105 rfl rfl (by decide) ?_
          refine j_iload_n d_Mo_pass_44 rfl rfl ?_
          refine j_iadd d_Mo_pass_45 ?_
          rw [hJ.1, nI_add]
          refine j_puti d_Mo_pass_46 f_Mo_105 (by decide) rfl rfl (by decide) ?_
          refine j_aload_n d_Mo_pass_49 rfl rfl ?_
          refine j_geti d_Mo_pass_50 f_Mo_105 rfl rfl (by decide) ?_
          refine j_iret d_Mo_pass_53 rfl ?_
          have yy : r_ey [51, 52, 53, 54] r_Jk h (r_up h 47 7 (nI (Z.2.1.2.1.1 + c))) := r_ey.rf.fl (by decide)
          exact q_i1 (hF _ (yy.ml (by decide)) (hM.K hR yy ⟨rfl, hJ.2.1, hJ.2.2.1, hJ.2.2.2.1, hJ.2.2.2.2⟩)) rfl
set_option maxRecDepth 100000 in
set_option maxHeartbeats 4000000 in
theorem c_Mo_choose {G : r_X} {d : Nat} {h : r_HI} {p q : Nat} {z : r_HL} {F : Int32 → r_HI → r_HR → r_HL → Prop} {Z : a_Z} {x : Int32} (hM : p_M h Z) (ho : a_zok Z) (hF : ∀ h', r_ml h h' → p_M h' (s_choose Z x).2 → F (s_choose Z x).1 h' (r_gp p q) z) : r_Ci G m_Mo_choose (d + 20) 61 [.ref (G.2.1 + 47), .int x] 61 h (r_gp p q) z F := by
  obtain ⟨mG, mN, mJ0, m6, mW, mS, m11, m20, mkk, mkp⟩ := id hM
  obtain ⟨op, ⟨od, ok, otk, ow, os, okd⟩, o3, o4, o5, o6, o7⟩ := id ho
  obtain ⟨od1, od2, od3, od4⟩ := id od
  obtain ⟨ok1, ok2, ok3, ok4⟩ := id ok
  have os1 := os.1
  have op1 := op.1
  rcases ixc x 5 with ⟨ix1, hr1⟩ | ⟨k, hj1, e1, ix1, t1⟩
  · have hs : s_choose Z x = (-102, Z) := by simp [s_choose, ix1]
    rw [hs] at hF
    refine r_C_of (by decide +kernel) (Nat.le_of_ble_eq_true rfl) ?_
    refine j_ls (ls' := [(0, _), (1, _)]) rfl ?_
    refine j_iload_n d_Mo_choose_0 rfl rfl ?_
    refine j_i2l d_Mo_choose_1 ?_
    refine j_lconst (v := 0) d_Mo_choose_2 rfl ?_
    refine j_ldc2 d_Mo_choose_3 k_Mo_182 ?_
    refine q_i s_Mo_choose_6 rfl (Nat.le_of_ble_eq_true rfl) (Nat.le_of_ble_eq_true rfl) ?_
    refine c_inN 0 4 rfl rfl (by omega) ?_
    refine j_if_ne (tgt := 15) d_Mo_choose_9 rfl (fun bq1 => False.elim (bq1 rfl)) (fun bq1 => ?_)
    refine j_bipush (v := (-102)) d_Mo_choose_12 (by decide) ?_
    refine j_iret d_Mo_choose_14 rfl ?_
    exact q_i1 (hF _ r_ml.rf hM) rfl
  · by_cases hR : Z.2.1.1.1 = 0
    · have hs : s_choose Z x = (-103, Z) := by simp [s_choose, ix1, hR]
      rw [hs] at hF
      refine r_C_of (by decide +kernel) (Nat.le_of_ble_eq_true rfl) ?_
      refine j_ls (ls' := [(0, _), (1, _)]) rfl ?_
      refine j_iload_n d_Mo_choose_0 rfl rfl ?_
      refine j_i2l d_Mo_choose_1 ?_
      refine j_lconst (v := 0) d_Mo_choose_2 rfl ?_
      refine j_ldc2 d_Mo_choose_3 k_Mo_182 ?_
      refine q_i s_Mo_choose_6 rfl (Nat.le_of_ble_eq_true rfl) (Nat.le_of_ble_eq_true rfl) ?_
      refine c_inY 0 4 rfl rfl (by omega) ?_
      refine j_if_ne (tgt := 15) d_Mo_choose_9 rfl (fun bq1 => ?_) (fun bq1 => False.elim (absurd bq1 (by decide)))
      refine j_aload_n d_Mo_choose_15 rfl rfl ?_
      refine q_i (s_Mo_choose_16 rfl (by decide)) rfl (Nat.le_of_ble_eq_true rfl) (Nat.le_of_ble_eq_true rfl) ?_
      refine c_Mo_lacksY mN od hR ?_
      refine j_if_eq (tgt := 25) d_Mo_choose_19 rfl (fun bq2 => False.elim (absurd bq2 (by decide))) (fun bq2 => ?_)
      refine j_bipush (v := (-103)) d_Mo_choose_22 (by decide) ?_
      refine j_iret d_Mo_choose_24 rfl ?_
      exact q_i1 (hF _ r_ml.rf hM) rfl
    · have hs : s_choose Z x = (nI Z.2.1.2.2.2.2, z_k Z k) := by simp [s_choose, ix1, hR]
      rw [hs] at hF
      refine r_C_of (by decide +kernel) (Nat.le_of_ble_eq_true rfl) ?_
      refine j_ls (ls' := [(0, _), (1, _)]) rfl ?_
      refine j_iload_n d_Mo_choose_0 rfl rfl ?_
      refine j_i2l d_Mo_choose_1 ?_
      refine j_lconst (v := 0) d_Mo_choose_2 rfl ?_
      refine j_ldc2 d_Mo_choose_3 k_Mo_182 ?_
      refine q_i s_Mo_choose_6 rfl (Nat.le_of_ble_eq_true rfl) (Nat.le_of_ble_eq_true rfl) ?_
      refine c_inY 0 4 rfl rfl (by omega) ?_
      refine j_if_ne (tgt := 15) d_Mo_choose_9 rfl (fun bq1 => ?_) (fun bq1 => False.elim (absurd bq1 (by decide)))
      refine j_aload_n d_Mo_choose_15 rfl rfl ?_
      refine q_i (s_Mo_choose_16 rfl (by decide)) rfl (Nat.le_of_ble_eq_true rfl) (Nat.le_of_ble_eq_true rfl) ?_
      refine c_Mo_lacksN mN od hR ?_
      refine j_if_eq (tgt := 25) d_Mo_choose_19 rfl (fun bq2 => ?_) (fun bq2 => False.elim (bq2 rfl))
      refine j_aload_n d_Mo_choose_25 rfl rfl ?_
      refine j_geti d_Mo_choose_26 f_Mo_102 rfl rfl (by decide) ?_
      refine j_istore_n (ls' := [(2, _), (0, _), (1, _)]) d_Mo_choose_29 rfl (by decide) rfl ?_
      refine j_aload_n d_Mo_choose_30 rfl rfl ?_
      refine j_iload_n d_Mo_choose_31 rfl rfl ?_
      refine j_puti d_Mo_choose_32 f_Mo_102 (by decide) rfl rfl (by decide) ?_
      refine j_iload_n d_Mo_choose_35 rfl rfl ?_
      refine j_iret d_Mo_choose_36 rfl ?_
      subst e1
      have yy : r_ey [] [6] h (r_up h 47 6 (nI k)) := r_ey.rf.fl (by decide)
      exact q_i1 (hF _ (yy.ml (by decide)) hM.k) m6
set_option maxRecDepth 100000 in
set_option maxHeartbeats 4000000 in
theorem c_Mo_skew {G : r_X} {d : Nat} {h : r_HI} {p q : Nat} {z : r_HL} {F : Int32 → r_HI → r_HR → r_HL → Prop} {Z : a_Z} {x y : Int32} (hM : p_M h Z) (ho : a_zok Z) (hF : ∀ h', r_ml h h' → p_M h' (s_skew Z x y).2 → F (s_skew Z x y).1 h' (r_gp p q) z) : r_Ci G m_Mo_skew (d + 20) 61 [.ref (G.2.1 + 47), .int x, .int y] 61 h (r_gp p q) z F := by
  obtain ⟨mG, mN, mJ0, m6, mW, mS, m11, m20, mkk, mkp⟩ := id hM
  obtain ⟨op, ⟨od, ok, otk, ow, os, okd⟩, o3, o4, o5, o6, o7⟩ := id ho
  obtain ⟨od1, od2, od3, od4⟩ := id od
  obtain ⟨ok1, ok2, ok3, ok4⟩ := id ok
  have os1 := os.1
  have op1 := op.1
  rcases ixc x Z.2.1.1.1 with ⟨ix1, hr1⟩ | ⟨r, hj1, e1, ix1, t1⟩
  · have hs : s_skew Z x y = (-101, Z) := by simp [s_skew, ix1]
    rw [hs] at hF
    refine r_C_of (by decide +kernel) (Nat.le_of_ble_eq_true rfl) ?_
    refine j_ls (ls' := [(0, _), (1, _), (2, _)]) rfl ?_
    refine j_aload_n d_Mo_skew_0 rfl rfl ?_
    refine j_iload_n d_Mo_skew_1 rfl rfl ?_
    refine q_i (s_Mo_skew_2 rfl (by decide)) rfl (Nat.le_of_ble_eq_true rfl) (Nat.le_of_ble_eq_true rfl) ?_
    refine c_Mo_isRingN mN od hr1 ?_
    refine j_if_ne (tgt := 11) d_Mo_skew_5 rfl (fun bq1 => False.elim (bq1 rfl)) (fun bq1 => ?_)
    refine j_bipush (v := (-101)) d_Mo_skew_8 (by decide) ?_
    refine j_iret d_Mo_skew_10 rfl ?_
    exact q_i1 (hF _ r_ml.rf hM) rfl
  · rcases ixc y 24 with ⟨ix2, hr2⟩ | ⟨v, hj2, e2, ix2, t2⟩
    · have hs : s_skew Z x y = (-102, Z) := by simp [s_skew, ix1, ix2]
      rw [hs] at hF
      refine r_C_of (by decide +kernel) (Nat.le_of_ble_eq_true rfl) ?_
      refine j_ls (ls' := [(0, _), (1, _), (2, _)]) rfl ?_
      refine j_aload_n d_Mo_skew_0 rfl rfl ?_
      refine j_iload_n d_Mo_skew_1 rfl rfl ?_
      refine q_i (s_Mo_skew_2 rfl (by decide)) rfl (Nat.le_of_ble_eq_true rfl) (Nat.le_of_ble_eq_true rfl) ?_
      refine c_Mo_isRingY mN od hj1 e1 ?_
      refine j_if_ne (tgt := 11) d_Mo_skew_5 rfl (fun bq1 => ?_) (fun bq1 => False.elim (absurd bq1 (by decide)))
      refine j_iload_n d_Mo_skew_11 rfl rfl ?_
      refine j_i2l d_Mo_skew_12 ?_
      refine j_lconst (v := 0) d_Mo_skew_13 rfl ?_
      refine j_ldc2 d_Mo_skew_14 k_Mo_209 ?_
      refine q_i s_Mo_skew_17 rfl (Nat.le_of_ble_eq_true rfl) (Nat.le_of_ble_eq_true rfl) ?_
      refine c_inN 0 23 rfl rfl (by omega) ?_
      refine j_if_ne (tgt := 26) d_Mo_skew_20 rfl (fun bq2 => False.elim (bq2 rfl)) (fun bq2 => ?_)
      refine j_bipush (v := (-102)) d_Mo_skew_23 (by decide) ?_
      refine j_iret d_Mo_skew_25 rfl ?_
      exact q_i1 (hF _ r_ml.rf hM) rfl
    · have hs : s_skew Z x y = (nI (Z.2.1.1.2.2.2.2 r), z_D Z (Z.2.1.1.1, Z.2.1.1.2.1, Z.2.1.1.2.2.1, Z.2.1.1.2.2.2.1, va_up Z.2.1.1.2.2.2.2 r v)) := by simp [s_skew, ix1, ix2]
      rw [hs] at hF
      refine r_C_of (by decide +kernel) (Nat.le_of_ble_eq_true rfl) ?_
      refine j_ls (ls' := [(0, _), (1, _), (2, _)]) rfl ?_
      refine j_aload_n d_Mo_skew_0 rfl rfl ?_
      refine j_iload_n d_Mo_skew_1 rfl rfl ?_
      refine q_i (s_Mo_skew_2 rfl (by decide)) rfl (Nat.le_of_ble_eq_true rfl) (Nat.le_of_ble_eq_true rfl) ?_
      refine c_Mo_isRingY mN od hj1 e1 ?_
      refine j_if_ne (tgt := 11) d_Mo_skew_5 rfl (fun bq1 => ?_) (fun bq1 => False.elim (absurd bq1 (by decide)))
      refine j_iload_n d_Mo_skew_11 rfl rfl ?_
      refine j_i2l d_Mo_skew_12 ?_
      refine j_lconst (v := 0) d_Mo_skew_13 rfl ?_
      refine j_ldc2 d_Mo_skew_14 k_Mo_209 ?_
      refine q_i s_Mo_skew_17 rfl (Nat.le_of_ble_eq_true rfl) (Nat.le_of_ble_eq_true rfl) ?_
      refine c_inY 0 23 rfl rfl (by omega) ?_
      refine j_if_ne (tgt := 26) d_Mo_skew_20 rfl (fun bq2 => ?_) (fun bq2 => False.elim (absurd bq2 (by decide)))
      refine j_aload_n d_Mo_skew_26 rfl rfl ?_
      refine j_getr d_Mo_skew_27 f_Mo_16 rfl rfl (by decide) rfl ?_
      refine j_iload_n d_Mo_skew_30 rfl rfl ?_
      refine j_iav d_Mo_skew_31 rfl (by decide) (j := r) (e1) (by omega) (by decide) ((mN.2.2.2 r hj1).2) ?_
      refine j_istore_n (ls' := [(3, _), (0, _), (1, _), (2, _)]) d_Mo_skew_32 rfl (by decide) rfl ?_
      refine j_aload_n d_Mo_skew_33 rfl rfl ?_
      refine j_getr d_Mo_skew_34 f_Mo_16 rfl rfl (by decide) rfl ?_
      refine j_iload_n d_Mo_skew_37 rfl rfl ?_
      refine j_iload_n d_Mo_skew_38 rfl rfl ?_
      refine j_iap d_Mo_skew_39 rfl (by decide) (j := r) (e1) (by omega) (by decide) ?_
      refine j_iload_n d_Mo_skew_40 rfl rfl ?_
      refine j_iret d_Mo_skew_41 rfl ?_
      have yy : r_ey [50] [4, 5] h (r_up h 50 r y) := r_ey.rf.up (by decide) (by decide)
      refine q_i1 (hF _ (yy.ml (by decide)) (hM.D yy ⟨mN.1, mN.2.1, mN.2.2.1, fun i hi => ?_⟩ rfl)) rfl
      obtain ⟨g1, g2⟩ := mN.2.2.2 i hi
      refine ⟨g1, ?_⟩
      show r_up h 50 r y 50 i = nI (va_up Z.2.1.1.2.2.2.2 r v i)
      rw [r_up_k]
      by_cases e9 : i = r
      · rw [e9, pk_us, e2]
        simp [va_up]
      · rw [pk_un e9]
        simp only [va_up, if_neg e9]
        exact g2
set_option maxRecDepth 100000 in
set_option maxHeartbeats 4000000 in
theorem c_Mo_gear {G : r_X} {d : Nat} {h : r_HI} {p q : Nat} {z : r_HL} {F : Int32 → r_HI → r_HR → r_HL → Prop} {Z : a_Z} {x y : Int32} (hM : p_M h Z) (ho : a_zok Z) (hF : ∀ h', r_ml h h' → p_M h' (s_gear Z x y).2 → F (s_gear Z x y).1 h' (r_gp p q) z) : r_Ci G m_Mo_gear (d + 20) 61 [.ref (G.2.1 + 47), .int x, .int y] 61 h (r_gp p q) z F := by
  obtain ⟨mG, mN, mJ0, m6, mW, mS, m11, m20, mkk, mkp⟩ := id hM
  obtain ⟨op, ⟨od, ok, otk, ow, os, okd⟩, o3, o4, o5, o6, o7⟩ := id ho
  obtain ⟨od1, od2, od3, od4⟩ := id od
  obtain ⟨ok1, ok2, ok3, ok4⟩ := id ok
  have os1 := os.1
  have op1 := op.1
  rcases ixc x 10 with ⟨ix1, hr1⟩ | ⟨c, hj1, e1, ix1, t1⟩
  · have hs : s_gear Z x y = (-102, Z) := by simp [s_gear, ix1]
    rw [hs] at hF
    refine r_C_of (by decide +kernel) (Nat.le_of_ble_eq_true rfl) ?_
    refine j_ls (ls' := [(0, _), (1, _), (2, _)]) rfl ?_
    refine j_iload_n d_Mo_gear_0 rfl rfl ?_
    refine j_i2l d_Mo_gear_1 ?_
    refine j_lconst (v := 0) d_Mo_gear_2 rfl ?_
    refine j_ldc2 d_Mo_gear_3 k_Mo_211 ?_
    refine q_i s_Mo_gear_6 rfl (Nat.le_of_ble_eq_true rfl) (Nat.le_of_ble_eq_true rfl) ?_
    refine c_inN 0 9 rfl rfl (by omega) ?_
    refine j_if_eq (tgt := 24) d_Mo_gear_9 rfl (fun bq1 => ?_) (fun bq1 => False.elim (bq1 rfl))
    refine j_bipush (v := (-102)) d_Mo_gear_24 (by decide) ?_
    refine j_iret d_Mo_gear_26 rfl ?_
    exact q_i1 (hF _ r_ml.rf hM) rfl
  · rcases ixc y 10 with ⟨ix2, hr2⟩ | ⟨v, hj2, e2, ix2, t2⟩
    · have hs : s_gear Z x y = (-102, Z) := by simp [s_gear, ix1, ix2]
      rw [hs] at hF
      refine r_C_of (by decide +kernel) (Nat.le_of_ble_eq_true rfl) ?_
      refine j_ls (ls' := [(0, _), (1, _), (2, _)]) rfl ?_
      refine j_iload_n d_Mo_gear_0 rfl rfl ?_
      refine j_i2l d_Mo_gear_1 ?_
      refine j_lconst (v := 0) d_Mo_gear_2 rfl ?_
      refine j_ldc2 d_Mo_gear_3 k_Mo_211 ?_
      refine q_i s_Mo_gear_6 rfl (Nat.le_of_ble_eq_true rfl) (Nat.le_of_ble_eq_true rfl) ?_
      refine c_inY 0 9 rfl rfl (by omega) ?_
      refine j_if_eq (tgt := 24) d_Mo_gear_9 rfl (fun bq1 => False.elim (absurd bq1 (by decide))) (fun bq1 => ?_)
      refine j_iload_n d_Mo_gear_12 rfl rfl ?_
      refine j_i2l d_Mo_gear_13 ?_
      refine j_lconst (v := 1) d_Mo_gear_14 rfl ?_
      refine j_ldc2 d_Mo_gear_15 k_Mo_211 ?_
      refine q_i s_Mo_gear_18 rfl (Nat.le_of_ble_eq_true rfl) (Nat.le_of_ble_eq_true rfl) ?_
      refine c_inN 1 9 rfl rfl (by omega) ?_
      refine j_if_ne (tgt := 27) d_Mo_gear_21 rfl (fun bq2 => False.elim (bq2 rfl)) (fun bq2 => ?_)
      refine j_bipush (v := (-102)) d_Mo_gear_24 (by decide) ?_
      refine j_iret d_Mo_gear_26 rfl ?_
      exact q_i1 (hF _ r_ml.rf hM) rfl
    · by_cases c0 : v = 0
      · have hs : s_gear Z x y = (-102, Z) := by simp [s_gear, ix1, ix2, c0]
        rw [hs] at hF
        refine r_C_of (by decide +kernel) (Nat.le_of_ble_eq_true rfl) ?_
        refine j_ls (ls' := [(0, _), (1, _), (2, _)]) rfl ?_
        refine j_iload_n d_Mo_gear_0 rfl rfl ?_
        refine j_i2l d_Mo_gear_1 ?_
        refine j_lconst (v := 0) d_Mo_gear_2 rfl ?_
        refine j_ldc2 d_Mo_gear_3 k_Mo_211 ?_
        refine q_i s_Mo_gear_6 rfl (Nat.le_of_ble_eq_true rfl) (Nat.le_of_ble_eq_true rfl) ?_
        refine c_inY 0 9 rfl rfl (by omega) ?_
        refine j_if_eq (tgt := 24) d_Mo_gear_9 rfl (fun bq1 => False.elim (absurd bq1 (by decide))) (fun bq1 => ?_)
        refine j_iload_n d_Mo_gear_12 rfl rfl ?_
        refine j_i2l d_Mo_gear_13 ?_
        refine j_lconst (v := 1) d_Mo_gear_14 rfl ?_
        refine j_ldc2 d_Mo_gear_15 k_Mo_211 ?_
        refine q_i s_Mo_gear_18 rfl (Nat.le_of_ble_eq_true rfl) (Nat.le_of_ble_eq_true rfl) ?_
        refine c_inN 1 9 rfl rfl (by omega) ?_
        refine j_if_ne (tgt := 27) d_Mo_gear_21 rfl (fun bq2 => False.elim (bq2 rfl)) (fun bq2 => ?_)
        refine j_bipush (v := (-102)) d_Mo_gear_24 (by decide) ?_
        refine j_iret d_Mo_gear_26 rfl ?_
        exact q_i1 (hF _ r_ml.rf hM) rfl
      · by_cases hR : Z.2.1.1.1 = 0
        · have hs : s_gear Z x y = (-103, Z) := by simp [s_gear, ix1, ix2, c0, hR]
          rw [hs] at hF
          refine r_C_of (by decide +kernel) (Nat.le_of_ble_eq_true rfl) ?_
          refine j_ls (ls' := [(0, _), (1, _), (2, _)]) rfl ?_
          refine j_iload_n d_Mo_gear_0 rfl rfl ?_
          refine j_i2l d_Mo_gear_1 ?_
          refine j_lconst (v := 0) d_Mo_gear_2 rfl ?_
          refine j_ldc2 d_Mo_gear_3 k_Mo_211 ?_
          refine q_i s_Mo_gear_6 rfl (Nat.le_of_ble_eq_true rfl) (Nat.le_of_ble_eq_true rfl) ?_
          refine c_inY 0 9 rfl rfl (by omega) ?_
          refine j_if_eq (tgt := 24) d_Mo_gear_9 rfl (fun bq1 => False.elim (absurd bq1 (by decide))) (fun bq1 => ?_)
          refine j_iload_n d_Mo_gear_12 rfl rfl ?_
          refine j_i2l d_Mo_gear_13 ?_
          refine j_lconst (v := 1) d_Mo_gear_14 rfl ?_
          refine j_ldc2 d_Mo_gear_15 k_Mo_211 ?_
          refine q_i s_Mo_gear_18 rfl (Nat.le_of_ble_eq_true rfl) (Nat.le_of_ble_eq_true rfl) ?_
          refine c_inY 1 9 rfl rfl (by omega) ?_
          refine j_if_ne (tgt := 27) d_Mo_gear_21 rfl (fun bq2 => ?_) (fun bq2 => False.elim (absurd bq2 (by decide)))
          refine j_aload_n d_Mo_gear_27 rfl rfl ?_
          refine q_i (s_Mo_gear_28 rfl (by decide)) rfl (Nat.le_of_ble_eq_true rfl) (Nat.le_of_ble_eq_true rfl) ?_
          refine c_Mo_lacksY mN od hR ?_
          refine j_if_eq (tgt := 37) d_Mo_gear_31 rfl (fun bq3 => False.elim (absurd bq3 (by decide))) (fun bq3 => ?_)
          refine j_bipush (v := (-103)) d_Mo_gear_34 (by decide) ?_
          refine j_iret d_Mo_gear_36 rfl ?_
          exact q_i1 (hF _ r_ml.rf hM) rfl
        · have hs : s_gear Z x y = (nI Z.2.1.1.2.2.1, z_D Z (Z.2.1.1.1, c, v, Z.2.1.1.2.2.2)) := by simp [s_gear, ix1, ix2, c0, hR]
          rw [hs] at hF
          refine r_C_of (by decide +kernel) (Nat.le_of_ble_eq_true rfl) ?_
          refine j_ls (ls' := [(0, _), (1, _), (2, _)]) rfl ?_
          refine j_iload_n d_Mo_gear_0 rfl rfl ?_
          refine j_i2l d_Mo_gear_1 ?_
          refine j_lconst (v := 0) d_Mo_gear_2 rfl ?_
          refine j_ldc2 d_Mo_gear_3 k_Mo_211 ?_
          refine q_i s_Mo_gear_6 rfl (Nat.le_of_ble_eq_true rfl) (Nat.le_of_ble_eq_true rfl) ?_
          refine c_inY 0 9 rfl rfl (by omega) ?_
          refine j_if_eq (tgt := 24) d_Mo_gear_9 rfl (fun bq1 => False.elim (absurd bq1 (by decide))) (fun bq1 => ?_)
          refine j_iload_n d_Mo_gear_12 rfl rfl ?_
          refine j_i2l d_Mo_gear_13 ?_
          refine j_lconst (v := 1) d_Mo_gear_14 rfl ?_
          refine j_ldc2 d_Mo_gear_15 k_Mo_211 ?_
          refine q_i s_Mo_gear_18 rfl (Nat.le_of_ble_eq_true rfl) (Nat.le_of_ble_eq_true rfl) ?_
          refine c_inY 1 9 rfl rfl (by omega) ?_
          refine j_if_ne (tgt := 27) d_Mo_gear_21 rfl (fun bq2 => ?_) (fun bq2 => False.elim (absurd bq2 (by decide)))
          refine j_aload_n d_Mo_gear_27 rfl rfl ?_
          refine q_i (s_Mo_gear_28 rfl (by decide)) rfl (Nat.le_of_ble_eq_true rfl) (Nat.le_of_ble_eq_true rfl) ?_
          refine c_Mo_lacksN mN od hR ?_
          refine j_if_eq (tgt := 37) d_Mo_gear_31 rfl (fun bq3 => ?_) (fun bq3 => False.elim (bq3 rfl))
          refine j_aload_n d_Mo_gear_37 rfl rfl ?_
          refine j_geti d_Mo_gear_38 f_Mo_99 rfl rfl (by decide) ?_
          refine j_istore_n (ls' := [(3, _), (0, _), (1, _), (2, _)]) d_Mo_gear_41 rfl (by decide) rfl ?_
          refine j_aload_n d_Mo_gear_42 rfl rfl ?_
          refine j_iload_n d_Mo_gear_43 rfl rfl ?_
          refine j_puti d_Mo_gear_44 f_Mo_96 (by decide) rfl rfl (by decide) ?_
          refine j_aload_n d_Mo_gear_47 rfl rfl ?_
          refine j_iload_n d_Mo_gear_48 rfl rfl ?_
          refine j_puti d_Mo_gear_49 f_Mo_99 (by decide) rfl rfl (by decide) ?_
          refine j_iload_n d_Mo_gear_52 rfl rfl ?_
          refine j_iret d_Mo_gear_53 rfl ?_
          have yy : r_ey [50] [4, 5] h (r_up (r_up h 47 4 x) 47 5 y) := (r_ey.rf.fl (by decide)).fl (by decide)
          exact q_i1 (hF _ (yy.ml (by decide)) (hM.D yy ⟨mN.1, e1, e2, mN.2.2.2⟩ rfl)) mN.2.2.1
set_option maxRecDepth 100000 in
set_option maxHeartbeats 4000000 in
theorem c_Mo_run {G : r_X} {d : Nat} {h : r_HI} {p q : Nat} {z : r_HL} {F : Int32 → r_HI → r_HR → r_HL → Prop} {Z : a_Z} {x w : Int32} (hM : p_M h Z) (ho : a_zok Z) (hF : ∀ h', r_ey r_As r_Js h h' → F (s_run Z x w) h' (r_gp p q) z) : r_Ci G m_Mo_run (d + 20) 61 [.ref (G.2.1 + 47), .int x, .int w] 61 h (r_gp p q) z F := by
  obtain ⟨mG, mN, mJ0, m6, mW, mS, m11, m20, mkk, mkp⟩ := id hM
  obtain ⟨op, ⟨od, ok, otk, ow, os, okd⟩, o3, o4, o5, o6, o7⟩ := id ho
  obtain ⟨od1, od2, od3, od4⟩ := id od
  obtain ⟨ok1, ok2, ok3, ok4⟩ := id ok
  have os1 := os.1
  have op1 := op.1
  rcases ixc x 5 with ⟨ix1, hr1⟩ | ⟨k, hj1, e1, ix1, t1⟩
  · have hs : s_run Z x w = -102 := by simp [s_run, ix1]
    rw [hs] at hF
    refine r_C_of (by decide +kernel) (Nat.le_of_ble_eq_true rfl) ?_
    refine j_ls (ls' := [(0, _), (1, _), (2, _)]) rfl ?_
    refine j_iload_n d_Mo_run_0 rfl rfl ?_
    refine j_i2l d_Mo_run_1 ?_
    refine j_lconst (v := 0) d_Mo_run_2 rfl ?_
    refine j_ldc2 d_Mo_run_3 k_Mo_182 ?_
    refine q_i s_Mo_run_6 rfl (Nat.le_of_ble_eq_true rfl) (Nat.le_of_ble_eq_true rfl) ?_
    refine c_inN 0 4 rfl rfl (by omega) ?_
    refine j_if_eq (tgt := 22) d_Mo_run_9 rfl (fun bq1 => ?_) (fun bq1 => False.elim (bq1 rfl))
    refine j_bipush (v := (-102)) d_Mo_run_22 (by decide) ?_
    refine j_iret d_Mo_run_24 rfl ?_
    exact q_i1 (hF _ r_ey.rf) rfl
  · rcases ixc w 2 with ⟨ix2, hr2⟩ | ⟨v, hj2, e2, ix2, t2⟩
    · have hs : s_run Z x w = -102 := by simp [s_run, ix1, ix2]
      rw [hs] at hF
      refine r_C_of (by decide +kernel) (Nat.le_of_ble_eq_true rfl) ?_
      refine j_ls (ls' := [(0, _), (1, _), (2, _)]) rfl ?_
      refine j_iload_n d_Mo_run_0 rfl rfl ?_
      refine j_i2l d_Mo_run_1 ?_
      refine j_lconst (v := 0) d_Mo_run_2 rfl ?_
      refine j_ldc2 d_Mo_run_3 k_Mo_182 ?_
      refine q_i s_Mo_run_6 rfl (Nat.le_of_ble_eq_true rfl) (Nat.le_of_ble_eq_true rfl) ?_
      refine c_inY 0 4 rfl rfl (by omega) ?_
      refine j_if_eq (tgt := 22) d_Mo_run_9 rfl (fun bq1 => False.elim (absurd bq1 (by decide))) (fun bq1 => ?_)
      refine j_iload_n d_Mo_run_12 rfl rfl ?_
      refine j_i2l d_Mo_run_13 ?_
      refine j_lconst (v := 0) d_Mo_run_14 rfl ?_
      refine j_lconst (v := 1) d_Mo_run_15 rfl ?_
      refine q_i s_Mo_run_16 rfl (Nat.le_of_ble_eq_true rfl) (Nat.le_of_ble_eq_true rfl) ?_
      refine c_inN 0 1 rfl rfl (by omega) ?_
      refine j_if_ne (tgt := 25) d_Mo_run_19 rfl (fun bq2 => False.elim (bq2 rfl)) (fun bq2 => ?_)
      refine j_bipush (v := (-102)) d_Mo_run_22 (by decide) ?_
      refine j_iret d_Mo_run_24 rfl ?_
      exact q_i1 (hF _ r_ey.rf) rfl
    · by_cases hR : Z.2.1.1.1 = 0
      · have hs : s_run Z x w = -103 := by simp [s_run, ix1, ix2, hR]
        rw [hs] at hF
        refine r_C_of (by decide +kernel) (Nat.le_of_ble_eq_true rfl) ?_
        refine j_ls (ls' := [(0, _), (1, _), (2, _)]) rfl ?_
        refine j_iload_n d_Mo_run_0 rfl rfl ?_
        refine j_i2l d_Mo_run_1 ?_
        refine j_lconst (v := 0) d_Mo_run_2 rfl ?_
        refine j_ldc2 d_Mo_run_3 k_Mo_182 ?_
        refine q_i s_Mo_run_6 rfl (Nat.le_of_ble_eq_true rfl) (Nat.le_of_ble_eq_true rfl) ?_
        refine c_inY 0 4 rfl rfl (by omega) ?_
        refine j_if_eq (tgt := 22) d_Mo_run_9 rfl (fun bq1 => False.elim (absurd bq1 (by decide))) (fun bq1 => ?_)
        refine j_iload_n d_Mo_run_12 rfl rfl ?_
        refine j_i2l d_Mo_run_13 ?_
        refine j_lconst (v := 0) d_Mo_run_14 rfl ?_
        refine j_lconst (v := 1) d_Mo_run_15 rfl ?_
        refine q_i s_Mo_run_16 rfl (Nat.le_of_ble_eq_true rfl) (Nat.le_of_ble_eq_true rfl) ?_
        refine c_inY 0 1 rfl rfl (by omega) ?_
        refine j_if_ne (tgt := 25) d_Mo_run_19 rfl (fun bq2 => ?_) (fun bq2 => False.elim (absurd bq2 (by decide)))
        refine j_aload_n d_Mo_run_25 rfl rfl ?_
        refine q_i (s_Mo_run_26 rfl (by decide)) rfl (Nat.le_of_ble_eq_true rfl) (Nat.le_of_ble_eq_true rfl) ?_
        refine c_Mo_lacksY mN od hR ?_
        refine j_if_eq (tgt := 37) d_Mo_run_29 rfl (fun bq3 => False.elim (absurd bq3 (by decide))) (fun bq3 => ?_)
        refine j_bipush (v := (-103)) d_Mo_run_32 (by decide) ?_
        refine j_goto (tgt := 43) d_Mo_run_34 rfl ?_
        refine j_iret d_Mo_run_43 rfl ?_
        exact q_i1 (hF _ r_ey.rf) rfl
      · have hJ : p_J h Z.2.1.2.1 := by rw [← z_w_eq (K := Z.2.1.2.1) hR]; exact mJ0
        by_cases v0 : v = 0
        · have hs : s_run Z x w = nI (a_all Z.2.1.1 k Z.2.1.2.1.2.2.2.1 Z.2.1.2.1 0).1.1 := by simp [s_run, ix1, ix2, hR, v0]
          rw [hs] at hF
          refine r_C_of (by decide +kernel) (Nat.le_of_ble_eq_true rfl) ?_
          refine j_ls (ls' := [(0, _), (1, _), (2, _)]) rfl ?_
          refine j_iload_n d_Mo_run_0 rfl rfl ?_
          refine j_i2l d_Mo_run_1 ?_
          refine j_lconst (v := 0) d_Mo_run_2 rfl ?_
          refine j_ldc2 d_Mo_run_3 k_Mo_182 ?_
          refine q_i s_Mo_run_6 rfl (Nat.le_of_ble_eq_true rfl) (Nat.le_of_ble_eq_true rfl) ?_
          refine c_inY 0 4 rfl rfl (by omega) ?_
          refine j_if_eq (tgt := 22) d_Mo_run_9 rfl (fun bq1 => False.elim (absurd bq1 (by decide))) (fun bq1 => ?_)
          refine j_iload_n d_Mo_run_12 rfl rfl ?_
          refine j_i2l d_Mo_run_13 ?_
          refine j_lconst (v := 0) d_Mo_run_14 rfl ?_
          refine j_lconst (v := 1) d_Mo_run_15 rfl ?_
          refine q_i s_Mo_run_16 rfl (Nat.le_of_ble_eq_true rfl) (Nat.le_of_ble_eq_true rfl) ?_
          refine c_inY 0 1 rfl rfl (by omega) ?_
          refine j_if_ne (tgt := 25) d_Mo_run_19 rfl (fun bq2 => ?_) (fun bq2 => False.elim (absurd bq2 (by decide)))
          refine j_aload_n d_Mo_run_25 rfl rfl ?_
          refine q_i (s_Mo_run_26 rfl (by decide)) rfl (Nat.le_of_ble_eq_true rfl) (Nat.le_of_ble_eq_true rfl) ?_
          refine c_Mo_lacksN mN od hR ?_
          refine j_if_eq (tgt := 37) d_Mo_run_29 rfl (fun bq3 => ?_) (fun bq3 => False.elim (bq3 rfl))
          refine j_aload_n d_Mo_run_37 rfl rfl ?_
          refine j_iload_n d_Mo_run_38 rfl rfl ?_
          refine j_iload_n d_Mo_run_39 rfl rfl ?_
          refine q_i (s_Mo_run_40 rfl (by decide)) rfl (Nat.le_of_ble_eq_true rfl) (Nat.le_of_ble_eq_true rfl) ?_
          refine c_Mo_runOf0 mN od hJ ok otk hj1 e1 (by rw [e2, v0]; rfl) (fun h1 y1 t1 => ?_)
          refine j_iret d_Mo_run_43 rfl ?_
          exact q_i1 (hF _ (y1.mono (by decide) (by decide))) rfl
        · have hs : s_run Z x w = nI (a_all Z.2.1.1 k Z.2.1.2.1.2.2.2.1 Z.2.1.2.1 0).2 := by simp [s_run, ix1, ix2, hR, v0]
          rw [hs] at hF
          refine r_C_of (by decide +kernel) (Nat.le_of_ble_eq_true rfl) ?_
          refine j_ls (ls' := [(0, _), (1, _), (2, _)]) rfl ?_
          refine j_iload_n d_Mo_run_0 rfl rfl ?_
          refine j_i2l d_Mo_run_1 ?_
          refine j_lconst (v := 0) d_Mo_run_2 rfl ?_
          refine j_ldc2 d_Mo_run_3 k_Mo_182 ?_
          refine q_i s_Mo_run_6 rfl (Nat.le_of_ble_eq_true rfl) (Nat.le_of_ble_eq_true rfl) ?_
          refine c_inY 0 4 rfl rfl (by omega) ?_
          refine j_if_eq (tgt := 22) d_Mo_run_9 rfl (fun bq1 => False.elim (absurd bq1 (by decide))) (fun bq1 => ?_)
          refine j_iload_n d_Mo_run_12 rfl rfl ?_
          refine j_i2l d_Mo_run_13 ?_
          refine j_lconst (v := 0) d_Mo_run_14 rfl ?_
          refine j_lconst (v := 1) d_Mo_run_15 rfl ?_
          refine q_i s_Mo_run_16 rfl (Nat.le_of_ble_eq_true rfl) (Nat.le_of_ble_eq_true rfl) ?_
          refine c_inY 0 1 rfl rfl (by omega) ?_
          refine j_if_ne (tgt := 25) d_Mo_run_19 rfl (fun bq2 => ?_) (fun bq2 => False.elim (absurd bq2 (by decide)))
          refine j_aload_n d_Mo_run_25 rfl rfl ?_
          refine q_i (s_Mo_run_26 rfl (by decide)) rfl (Nat.le_of_ble_eq_true rfl) (Nat.le_of_ble_eq_true rfl) ?_
          refine c_Mo_lacksN mN od hR ?_
          refine j_if_eq (tgt := 37) d_Mo_run_29 rfl (fun bq3 => ?_) (fun bq3 => False.elim (bq3 rfl))
          refine j_aload_n d_Mo_run_37 rfl rfl ?_
          refine j_iload_n d_Mo_run_38 rfl rfl ?_
          refine j_iload_n d_Mo_run_39 rfl rfl ?_
          refine q_i (s_Mo_run_40 rfl (by decide)) rfl (Nat.le_of_ble_eq_true rfl) (Nat.le_of_ble_eq_true rfl) ?_
          refine c_Mo_runOf1 mN od hJ ok otk hj1 e1 (fun e => v0 ((nI_eq (b := 0) (by omega) (by omega)).mp (e2.symm.trans e))) (fun h1 y1 t1 => ?_)
          refine j_iret d_Mo_run_43 rfl ?_
          exact q_i1 (hF _ (y1.mono (by decide) (by decide))) rfl
set_option maxRecDepth 100000 in
set_option maxHeartbeats 4000000 in
theorem c_Mo_days {G : r_X} {d : Nat} {h : r_HI} {p q : Nat} {z : r_HL} {F : Int32 → r_HI → r_HR → r_HL → Prop} {Z : a_Z} {x y w : Int32} (hM : p_M h Z) (ho : a_zok Z) (hF : ∀ h', r_ey r_As r_Js h h' → F (s_days Z x y w) h' (r_gp p q) z) : r_Ci G m_Mo_days (d + 20) 61 [.ref (G.2.1 + 47), .int x, .int y, .int w] 61 h (r_gp p q) z F := by
  obtain ⟨mG, mN, mJ0, m6, mW, mS, m11, m20, mkk, mkp⟩ := id hM
  obtain ⟨op, ⟨od, ok, otk, ow, os, okd⟩, o3, o4, o5, o6, o7⟩ := id ho
  obtain ⟨od1, od2, od3, od4⟩ := id od
  obtain ⟨ok1, ok2, ok3, ok4⟩ := id ok
  have os1 := os.1
  have op1 := op.1
  rcases ixc x 61 with ⟨ix1, hr1⟩ | ⟨t, hj1, e1, ix1, t1⟩
  · have hs : s_days Z x y w = -102 := by simp [s_days, ix1]
    rw [hs] at hF
    refine r_C_of (by decide +kernel) (Nat.le_of_ble_eq_true rfl) ?_
    refine j_ls (ls' := [(0, _), (1, _), (2, _), (3, _)]) rfl ?_
    refine j_iload_n d_Mo_days_0 rfl rfl ?_
    refine j_i2l d_Mo_days_1 ?_
    refine j_lconst (v := 1) d_Mo_days_2 rfl ?_
    refine j_ldc2 d_Mo_days_3 k_Mo_286 ?_
    refine q_i s_Mo_days_6 rfl (Nat.le_of_ble_eq_true rfl) (Nat.le_of_ble_eq_true rfl) ?_
    refine c_inN 1 60 rfl rfl (by omega) ?_
    refine j_if_eq (tgt := 28) d_Mo_days_9 rfl (fun bq1 => ?_) (fun bq1 => False.elim (bq1 rfl))
    refine j_bipush (v := (-102)) d_Mo_days_28 (by decide) ?_
    refine j_iret d_Mo_days_30 rfl ?_
    exact q_i1 (hF _ r_ey.rf) rfl
  · by_cases c0 : t = 0
    · have hs : s_days Z x y w = -102 := by simp [s_days, ix1, c0]
      rw [hs] at hF
      refine r_C_of (by decide +kernel) (Nat.le_of_ble_eq_true rfl) ?_
      refine j_ls (ls' := [(0, _), (1, _), (2, _), (3, _)]) rfl ?_
      refine j_iload_n d_Mo_days_0 rfl rfl ?_
      refine j_i2l d_Mo_days_1 ?_
      refine j_lconst (v := 1) d_Mo_days_2 rfl ?_
      refine j_ldc2 d_Mo_days_3 k_Mo_286 ?_
      refine q_i s_Mo_days_6 rfl (Nat.le_of_ble_eq_true rfl) (Nat.le_of_ble_eq_true rfl) ?_
      refine c_inN 1 60 rfl rfl (by omega) ?_
      refine j_if_eq (tgt := 28) d_Mo_days_9 rfl (fun bq1 => ?_) (fun bq1 => False.elim (bq1 rfl))
      refine j_bipush (v := (-102)) d_Mo_days_28 (by decide) ?_
      refine j_iret d_Mo_days_30 rfl ?_
      exact q_i1 (hF _ r_ey.rf) rfl
    · by_cases y0 : y.toInt < 0
      · have hs : s_days Z x y w = -102 := by simp [s_days, ix1, c0, y0]
        rw [hs] at hF
        refine r_C_of (by decide +kernel) (Nat.le_of_ble_eq_true rfl) ?_
        refine j_ls (ls' := [(0, _), (1, _), (2, _), (3, _)]) rfl ?_
        refine j_iload_n d_Mo_days_0 rfl rfl ?_
        refine j_i2l d_Mo_days_1 ?_
        refine j_lconst (v := 1) d_Mo_days_2 rfl ?_
        refine j_ldc2 d_Mo_days_3 k_Mo_286 ?_
        refine q_i s_Mo_days_6 rfl (Nat.le_of_ble_eq_true rfl) (Nat.le_of_ble_eq_true rfl) ?_
        refine c_inY 1 60 rfl rfl (by omega) ?_
        refine j_if_eq (tgt := 28) d_Mo_days_9 rfl (fun bq1 => False.elim (absurd bq1 (by decide))) (fun bq1 => ?_)
        refine j_iload_n d_Mo_days_12 rfl rfl ?_
        refine j_if_lt (tgt := 28) d_Mo_days_13 rfl (fun bq2 => ?_) (fun bq2 => False.elim (bq2 ((xlt (n := 0) (by decide)).mpr (by omega))))
        refine j_bipush (v := (-102)) d_Mo_days_28 (by decide) ?_
        refine j_iret d_Mo_days_30 rfl ?_
        exact q_i1 (hF _ r_ey.rf) rfl
      · rcases ixc w 3 with ⟨ix3, hr3⟩ | ⟨v, hj3, e3, ix3, t3⟩
        · have hs : s_days Z x y w = -102 := by simp [s_days, ix1, ix3, c0, y0]
          rw [hs] at hF
          refine r_C_of (by decide +kernel) (Nat.le_of_ble_eq_true rfl) ?_
          refine j_ls (ls' := [(0, _), (1, _), (2, _), (3, _)]) rfl ?_
          refine j_iload_n d_Mo_days_0 rfl rfl ?_
          refine j_i2l d_Mo_days_1 ?_
          refine j_lconst (v := 1) d_Mo_days_2 rfl ?_
          refine j_ldc2 d_Mo_days_3 k_Mo_286 ?_
          refine q_i s_Mo_days_6 rfl (Nat.le_of_ble_eq_true rfl) (Nat.le_of_ble_eq_true rfl) ?_
          refine c_inY 1 60 rfl rfl (by omega) ?_
          refine j_if_eq (tgt := 28) d_Mo_days_9 rfl (fun bq1 => False.elim (absurd bq1 (by decide))) (fun bq1 => ?_)
          refine j_iload_n d_Mo_days_12 rfl rfl ?_
          refine j_if_lt (tgt := 28) d_Mo_days_13 rfl (fun bq2 => False.elim (absurd ((xlt (n := 0) (by decide)).mp bq2) (by omega))) (fun bq2 => ?_)
          refine j_iload_n d_Mo_days_16 rfl rfl ?_
          refine j_i2l d_Mo_days_17 ?_
          refine j_lconst (v := 0) d_Mo_days_18 rfl ?_
          refine j_ldc2 d_Mo_days_19 k_Mo_253 ?_
          refine q_i s_Mo_days_22 rfl (Nat.le_of_ble_eq_true rfl) (Nat.le_of_ble_eq_true rfl) ?_
          refine c_inN 0 2 rfl rfl (by omega) ?_
          refine j_if_ne (tgt := 31) d_Mo_days_25 rfl (fun bq3 => False.elim (bq3 rfl)) (fun bq3 => ?_)
          refine j_bipush (v := (-102)) d_Mo_days_28 (by decide) ?_
          refine j_iret d_Mo_days_30 rfl ?_
          exact q_i1 (hF _ r_ey.rf) rfl
        · by_cases hR : Z.2.1.1.1 = 0
          · have hs : s_days Z x y w = -103 := by simp [s_days, ix1, ix3, c0, y0, hR]
            rw [hs] at hF
            refine r_C_of (by decide +kernel) (Nat.le_of_ble_eq_true rfl) ?_
            refine j_ls (ls' := [(0, _), (1, _), (2, _), (3, _)]) rfl ?_
            refine j_iload_n d_Mo_days_0 rfl rfl ?_
            refine j_i2l d_Mo_days_1 ?_
            refine j_lconst (v := 1) d_Mo_days_2 rfl ?_
            refine j_ldc2 d_Mo_days_3 k_Mo_286 ?_
            refine q_i s_Mo_days_6 rfl (Nat.le_of_ble_eq_true rfl) (Nat.le_of_ble_eq_true rfl) ?_
            refine c_inY 1 60 rfl rfl (by omega) ?_
            refine j_if_eq (tgt := 28) d_Mo_days_9 rfl (fun bq1 => False.elim (absurd bq1 (by decide))) (fun bq1 => ?_)
            refine j_iload_n d_Mo_days_12 rfl rfl ?_
            refine j_if_lt (tgt := 28) d_Mo_days_13 rfl (fun bq2 => False.elim (absurd ((xlt (n := 0) (by decide)).mp bq2) (by omega))) (fun bq2 => ?_)
            refine j_iload_n d_Mo_days_16 rfl rfl ?_
            refine j_i2l d_Mo_days_17 ?_
            refine j_lconst (v := 0) d_Mo_days_18 rfl ?_
            refine j_ldc2 d_Mo_days_19 k_Mo_253 ?_
            refine q_i s_Mo_days_22 rfl (Nat.le_of_ble_eq_true rfl) (Nat.le_of_ble_eq_true rfl) ?_
            refine c_inY 0 2 rfl rfl (by omega) ?_
            refine j_if_ne (tgt := 31) d_Mo_days_25 rfl (fun bq3 => ?_) (fun bq3 => False.elim (absurd bq3 (by decide)))
            refine j_aload_n d_Mo_days_31 rfl rfl ?_
            refine q_i (s_Mo_days_32 rfl (by decide)) rfl (Nat.le_of_ble_eq_true rfl) (Nat.le_of_ble_eq_true rfl) ?_
            refine c_Mo_lacksY mN od hR ?_
            refine j_if_eq (tgt := 41) d_Mo_days_35 rfl (fun bq4 => False.elim (absurd bq4 (by decide))) (fun bq4 => ?_)
            refine j_bipush (v := (-103)) d_Mo_days_38 (by decide) ?_
            refine j_iret d_Mo_days_40 rfl ?_
            exact q_i1 (hF _ r_ey.rf) rfl
          · have hJ : p_J h Z.2.1.2.1 := by rw [← z_w_eq (K := Z.2.1.2.1) hR]; exact mJ0
            by_cases v0 : v = 0
            · have hs : s_days Z x y w = nI (a_days Z.2.1.1 Z.2.1.2.2.2.2 t y.toInt.toNat Z.2.1.2.1).2.1.1 := by simp [s_days, ix1, ix3, c0, y0, hR, v0]
              rw [hs] at hF
              refine r_C_of (by decide +kernel) (Nat.le_of_ble_eq_true rfl) ?_
              refine j_ls (ls' := [(0, _), (1, _), (2, _), (3, _)]) rfl ?_
              refine j_iload_n d_Mo_days_0 rfl rfl ?_
              refine j_i2l d_Mo_days_1 ?_
              refine j_lconst (v := 1) d_Mo_days_2 rfl ?_
              refine j_ldc2 d_Mo_days_3 k_Mo_286 ?_
              refine q_i s_Mo_days_6 rfl (Nat.le_of_ble_eq_true rfl) (Nat.le_of_ble_eq_true rfl) ?_
              refine c_inY 1 60 rfl rfl (by omega) ?_
              refine j_if_eq (tgt := 28) d_Mo_days_9 rfl (fun bq1 => False.elim (absurd bq1 (by decide))) (fun bq1 => ?_)
              refine j_iload_n d_Mo_days_12 rfl rfl ?_
              refine j_if_lt (tgt := 28) d_Mo_days_13 rfl (fun bq2 => False.elim (absurd ((xlt (n := 0) (by decide)).mp bq2) (by omega))) (fun bq2 => ?_)
              refine j_iload_n d_Mo_days_16 rfl rfl ?_
              refine j_i2l d_Mo_days_17 ?_
              refine j_lconst (v := 0) d_Mo_days_18 rfl ?_
              refine j_ldc2 d_Mo_days_19 k_Mo_253 ?_
              refine q_i s_Mo_days_22 rfl (Nat.le_of_ble_eq_true rfl) (Nat.le_of_ble_eq_true rfl) ?_
              refine c_inY 0 2 rfl rfl (by omega) ?_
              refine j_if_ne (tgt := 31) d_Mo_days_25 rfl (fun bq3 => ?_) (fun bq3 => False.elim (absurd bq3 (by decide)))
              refine j_aload_n d_Mo_days_31 rfl rfl ?_
              refine q_i (s_Mo_days_32 rfl (by decide)) rfl (Nat.le_of_ble_eq_true rfl) (Nat.le_of_ble_eq_true rfl) ?_
              refine c_Mo_lacksN mN od hR ?_
              refine j_if_eq (tgt := 41) d_Mo_days_35 rfl (fun bq4 => ?_) (fun bq4 => False.elim (bq4 rfl))
              refine j_aload_n d_Mo_days_41 rfl rfl ?_
              refine j_iload_n d_Mo_days_42 rfl rfl ?_
              refine j_puti d_Mo_days_43 f_Mo_278 (by decide) rfl rfl (by decide) ?_
              have y00 : r_ey [] [26] h (r_up h 47 26 y) := r_ey.rf.fl (by decide)
              refine j_aload_n d_Mo_days_46 rfl rfl ?_
              refine q_v (s_Mo_days_47 rfl (by decide)) rfl (Nat.le_of_ble_eq_true rfl) (Nat.le_of_ble_eq_true rfl) ?_
              refine c_Mo_begin (hJ.ey y00 (by decide) (by decide) (by decide) (by decide) (by decide)) ok3 (fun h1 y1 t1 => ?_)
              refine j_aload_n d_Mo_days_50 rfl rfl ?_
              refine j_iconst (v := 0) d_Mo_days_51 rfl ?_
              refine j_puti d_Mo_days_52 f_Mo_139 (by decide) rfl rfl (by decide) ?_
              refine j_iconst (v := 0) d_Mo_days_55 rfl ?_
              refine j_istore (ls' := [(4, _), (0, _), (1, _), (2, _), (3, _)]) d_Mo_days_56 (by decide) rfl ?_
              refine j_iconst (v := 0) d_Mo_days_58 rfl ?_
              refine j_istore (ls' := [(5, _), (4, _), (0, _), (1, _), (2, _), (3, _)]) d_Mo_days_59 (by decide) rfl ?_
              refine j_pick [2, 3, 4, 5, 1, 0] (ls' := [(0, _), (1, _), (2, _), (3, _), (4, _), (5, _)]) rfl ?_
              have y0' : r_ey [52] r_yd h (r_up h1 47 18 0) := ((r_ey.mono (y00 : r_ey [] [26] h (r_up h 47 26 y)) (by decide) (by decide)).tr y1 (by decide) (by decide)).fl (by decide)
              have e26 : r_up h1 47 18 0 47 26 = nI y.toInt.toNat := by
                show h1 47 26 = _
                rw [y1.2 26 (by decide)]
                exact x_of (show y.toInt = _ by omega)
              refine j_ls ?_ (l_days1 mN od (by omega) okd m6 (times := t) (by omega) (b2 := y) (b3 := w) t 0 _ (y.toInt.toNat, (Z.2.1.2.1.1, Z.2.1.2.1.2.1, Z.2.1.2.1.2.2.1, 0, Z.2.1.2.1.2.2.2.2), 0) _ (by omega) rfl e26 (by have := y.toInt_lt; omega) y0' ⟨t1.1, t1.2.1, t1.2.2.1, rfl, fun i hi => absurd hi (Nat.not_lt_zero i)⟩ ⟨ok1, ok2, Nat.zero_le _, fun i hi => absurd hi (Nat.not_lt_zero i)⟩ (Nat.zero_le _) (show Z.2.1.2.1.1 + 125 * (t + 3) < 2 ^ 25 by omega) (fun h2 y2 e2 t2 => ?_))
              · rw [e1]; rfl
              refine j_iload_n d_Mo_days_157 rfl rfl ?_
              refine j_if_ne (tgt := 168) d_Mo_days_158 rfl (fun bq1 => False.elim (bq1 ((xeq (n := 0) (by decide)).mpr (by omega)))) (fun bq1 => ?_)
              refine j_aload_n d_Mo_days_161 rfl rfl ?_
              refine j_geti d_Mo_days_162 f_Mo_130 rfl rfl (by decide) ?_
              refine j_goto (tgt := 182) d_Mo_days_165 rfl ?_
              refine j_iret d_Mo_days_182 rfl ?_
              exact q_i1 (hF _ (y2.mono (by decide) (by decide))) t2.1
            · by_cases v1 : v = 1
              · have hs : s_days Z x y w = nI (a_days Z.2.1.1 Z.2.1.2.2.2.2 t y.toInt.toNat Z.2.1.2.1).2.2 := by simp [s_days, ix1, ix3, c0, y0, hR, v0, v1]
                rw [hs] at hF
                refine r_C_of (by decide +kernel) (Nat.le_of_ble_eq_true rfl) ?_
                refine j_ls (ls' := [(0, _), (1, _), (2, _), (3, _)]) rfl ?_
                refine j_iload_n d_Mo_days_0 rfl rfl ?_
                refine j_i2l d_Mo_days_1 ?_
                refine j_lconst (v := 1) d_Mo_days_2 rfl ?_
                refine j_ldc2 d_Mo_days_3 k_Mo_286 ?_
                refine q_i s_Mo_days_6 rfl (Nat.le_of_ble_eq_true rfl) (Nat.le_of_ble_eq_true rfl) ?_
                refine c_inY 1 60 rfl rfl (by omega) ?_
                refine j_if_eq (tgt := 28) d_Mo_days_9 rfl (fun bq1 => False.elim (absurd bq1 (by decide))) (fun bq1 => ?_)
                refine j_iload_n d_Mo_days_12 rfl rfl ?_
                refine j_if_lt (tgt := 28) d_Mo_days_13 rfl (fun bq2 => False.elim (absurd ((xlt (n := 0) (by decide)).mp bq2) (by omega))) (fun bq2 => ?_)
                refine j_iload_n d_Mo_days_16 rfl rfl ?_
                refine j_i2l d_Mo_days_17 ?_
                refine j_lconst (v := 0) d_Mo_days_18 rfl ?_
                refine j_ldc2 d_Mo_days_19 k_Mo_253 ?_
                refine q_i s_Mo_days_22 rfl (Nat.le_of_ble_eq_true rfl) (Nat.le_of_ble_eq_true rfl) ?_
                refine c_inY 0 2 rfl rfl (by omega) ?_
                refine j_if_ne (tgt := 31) d_Mo_days_25 rfl (fun bq3 => ?_) (fun bq3 => False.elim (absurd bq3 (by decide)))
                refine j_aload_n d_Mo_days_31 rfl rfl ?_
                refine q_i (s_Mo_days_32 rfl (by decide)) rfl (Nat.le_of_ble_eq_true rfl) (Nat.le_of_ble_eq_true rfl) ?_
                refine c_Mo_lacksN mN od hR ?_
                refine j_if_eq (tgt := 41) d_Mo_days_35 rfl (fun bq4 => ?_) (fun bq4 => False.elim (bq4 rfl))
                refine j_aload_n d_Mo_days_41 rfl rfl ?_
                refine j_iload_n d_Mo_days_42 rfl rfl ?_
                refine j_puti d_Mo_days_43 f_Mo_278 (by decide) rfl rfl (by decide) ?_
                have y00 : r_ey [] [26] h (r_up h 47 26 y) := r_ey.rf.fl (by decide)
                refine j_aload_n d_Mo_days_46 rfl rfl ?_
                refine q_v (s_Mo_days_47 rfl (by decide)) rfl (Nat.le_of_ble_eq_true rfl) (Nat.le_of_ble_eq_true rfl) ?_
                refine c_Mo_begin (hJ.ey y00 (by decide) (by decide) (by decide) (by decide) (by decide)) ok3 (fun h1 y1 t1 => ?_)
                refine j_aload_n d_Mo_days_50 rfl rfl ?_
                refine j_iconst (v := 0) d_Mo_days_51 rfl ?_
                refine j_puti d_Mo_days_52 f_Mo_139 (by decide) rfl rfl (by decide) ?_
                refine j_iconst (v := 0) d_Mo_days_55 rfl ?_
                refine j_istore (ls' := [(4, _), (0, _), (1, _), (2, _), (3, _)]) d_Mo_days_56 (by decide) rfl ?_
                refine j_iconst (v := 0) d_Mo_days_58 rfl ?_
                refine j_istore (ls' := [(5, _), (4, _), (0, _), (1, _), (2, _), (3, _)]) d_Mo_days_59 (by decide) rfl ?_
                refine j_pick [2, 3, 4, 5, 1, 0] (ls' := [(0, _), (1, _), (2, _), (3, _), (4, _), (5, _)]) rfl ?_
                have y0' : r_ey [52] r_yd h (r_up h1 47 18 0) := ((r_ey.mono (y00 : r_ey [] [26] h (r_up h 47 26 y)) (by decide) (by decide)).tr y1 (by decide) (by decide)).fl (by decide)
                have e26 : r_up h1 47 18 0 47 26 = nI y.toInt.toNat := by
                  show h1 47 26 = _
                  rw [y1.2 26 (by decide)]
                  exact x_of (show y.toInt = _ by omega)
                refine j_ls ?_ (l_days1 mN od (by omega) okd m6 (times := t) (by omega) (b2 := y) (b3 := w) t 0 _ (y.toInt.toNat, (Z.2.1.2.1.1, Z.2.1.2.1.2.1, Z.2.1.2.1.2.2.1, 0, Z.2.1.2.1.2.2.2.2), 0) _ (by omega) rfl e26 (by have := y.toInt_lt; omega) y0' ⟨t1.1, t1.2.1, t1.2.2.1, rfl, fun i hi => absurd hi (Nat.not_lt_zero i)⟩ ⟨ok1, ok2, Nat.zero_le _, fun i hi => absurd hi (Nat.not_lt_zero i)⟩ (Nat.zero_le _) (show Z.2.1.2.1.1 + 125 * (t + 3) < 2 ^ 25 by omega) (fun h2 y2 e2 t2 => ?_))
                · rw [e1]; rfl
                refine j_iload_n d_Mo_days_157 rfl rfl ?_
                refine j_if_ne (tgt := 168) d_Mo_days_158 rfl (fun bq1 => ?_) (fun bq1 => False.elim (absurd ((xeq (n := 0) (by decide)).mp bq1) (by omega)))
                refine j_iload_n d_Mo_days_168 rfl rfl ?_
                refine j_iconst (v := 1) d_Mo_days_169 rfl ?_
                refine j_icmp_ne (tgt := 178) d_Mo_days_170 rfl (fun bq2 => False.elim (bq2 ((xeq (n := 1) (by decide)).mpr (by omega)))) (fun bq2 => ?_)
                refine j_iload d_Mo_days_173 rfl ?_
                refine j_goto (tgt := 182) d_Mo_days_175 rfl ?_
                refine j_iret d_Mo_days_182 rfl ?_
                exact q_i1 (hF _ (y2.mono (by decide) (by decide))) rfl
              · have hs : s_days Z x y w = nI (a_days Z.2.1.1 Z.2.1.2.2.2.2 t y.toInt.toNat Z.2.1.2.1).1 := by simp [s_days, ix1, ix3, c0, y0, hR, v0, v1]
                rw [hs] at hF
                refine r_C_of (by decide +kernel) (Nat.le_of_ble_eq_true rfl) ?_
                refine j_ls (ls' := [(0, _), (1, _), (2, _), (3, _)]) rfl ?_
                refine j_iload_n d_Mo_days_0 rfl rfl ?_
                refine j_i2l d_Mo_days_1 ?_
                refine j_lconst (v := 1) d_Mo_days_2 rfl ?_
                refine j_ldc2 d_Mo_days_3 k_Mo_286 ?_
                refine q_i s_Mo_days_6 rfl (Nat.le_of_ble_eq_true rfl) (Nat.le_of_ble_eq_true rfl) ?_
                refine c_inY 1 60 rfl rfl (by omega) ?_
                refine j_if_eq (tgt := 28) d_Mo_days_9 rfl (fun bq1 => False.elim (absurd bq1 (by decide))) (fun bq1 => ?_)
                refine j_iload_n d_Mo_days_12 rfl rfl ?_
                refine j_if_lt (tgt := 28) d_Mo_days_13 rfl (fun bq2 => False.elim (absurd ((xlt (n := 0) (by decide)).mp bq2) (by omega))) (fun bq2 => ?_)
                refine j_iload_n d_Mo_days_16 rfl rfl ?_
                refine j_i2l d_Mo_days_17 ?_
                refine j_lconst (v := 0) d_Mo_days_18 rfl ?_
                refine j_ldc2 d_Mo_days_19 k_Mo_253 ?_
                refine q_i s_Mo_days_22 rfl (Nat.le_of_ble_eq_true rfl) (Nat.le_of_ble_eq_true rfl) ?_
                refine c_inY 0 2 rfl rfl (by omega) ?_
                refine j_if_ne (tgt := 31) d_Mo_days_25 rfl (fun bq3 => ?_) (fun bq3 => False.elim (absurd bq3 (by decide)))
                refine j_aload_n d_Mo_days_31 rfl rfl ?_
                refine q_i (s_Mo_days_32 rfl (by decide)) rfl (Nat.le_of_ble_eq_true rfl) (Nat.le_of_ble_eq_true rfl) ?_
                refine c_Mo_lacksN mN od hR ?_
                refine j_if_eq (tgt := 41) d_Mo_days_35 rfl (fun bq4 => ?_) (fun bq4 => False.elim (bq4 rfl))
                refine j_aload_n d_Mo_days_41 rfl rfl ?_
                refine j_iload_n d_Mo_days_42 rfl rfl ?_
                refine j_puti d_Mo_days_43 f_Mo_278 (by decide) rfl rfl (by decide) ?_
                have y00 : r_ey [] [26] h (r_up h 47 26 y) := r_ey.rf.fl (by decide)
                refine j_aload_n d_Mo_days_46 rfl rfl ?_
                refine q_v (s_Mo_days_47 rfl (by decide)) rfl (Nat.le_of_ble_eq_true rfl) (Nat.le_of_ble_eq_true rfl) ?_
                refine c_Mo_begin (hJ.ey y00 (by decide) (by decide) (by decide) (by decide) (by decide)) ok3 (fun h1 y1 t1 => ?_)
                refine j_aload_n d_Mo_days_50 rfl rfl ?_
                refine j_iconst (v := 0) d_Mo_days_51 rfl ?_
                refine j_puti d_Mo_days_52 f_Mo_139 (by decide) rfl rfl (by decide) ?_
                refine j_iconst (v := 0) d_Mo_days_55 rfl ?_
                refine j_istore (ls' := [(4, _), (0, _), (1, _), (2, _), (3, _)]) d_Mo_days_56 (by decide) rfl ?_
                refine j_iconst (v := 0) d_Mo_days_58 rfl ?_
                refine j_istore (ls' := [(5, _), (4, _), (0, _), (1, _), (2, _), (3, _)]) d_Mo_days_59 (by decide) rfl ?_
                refine j_pick [2, 3, 4, 5, 1, 0] (ls' := [(0, _), (1, _), (2, _), (3, _), (4, _), (5, _)]) rfl ?_
                have y0' : r_ey [52] r_yd h (r_up h1 47 18 0) := ((r_ey.mono (y00 : r_ey [] [26] h (r_up h 47 26 y)) (by decide) (by decide)).tr y1 (by decide) (by decide)).fl (by decide)
                have e26 : r_up h1 47 18 0 47 26 = nI y.toInt.toNat := by
                  show h1 47 26 = _
                  rw [y1.2 26 (by decide)]
                  exact x_of (show y.toInt = _ by omega)
                refine j_ls ?_ (l_days1 mN od (by omega) okd m6 (times := t) (by omega) (b2 := y) (b3 := w) t 0 _ (y.toInt.toNat, (Z.2.1.2.1.1, Z.2.1.2.1.2.1, Z.2.1.2.1.2.2.1, 0, Z.2.1.2.1.2.2.2.2), 0) _ (by omega) rfl e26 (by have := y.toInt_lt; omega) y0' ⟨t1.1, t1.2.1, t1.2.2.1, rfl, fun i hi => absurd hi (Nat.not_lt_zero i)⟩ ⟨ok1, ok2, Nat.zero_le _, fun i hi => absurd hi (Nat.not_lt_zero i)⟩ (Nat.zero_le _) (show Z.2.1.2.1.1 + 125 * (t + 3) < 2 ^ 25 by omega) (fun h2 y2 e2 t2 => ?_))
                · rw [e1]; rfl
                refine j_iload_n d_Mo_days_157 rfl rfl ?_
                refine j_if_ne (tgt := 168) d_Mo_days_158 rfl (fun bq1 => ?_) (fun bq1 => False.elim (absurd ((xeq (n := 0) (by decide)).mp bq1) (by omega)))
                refine j_iload_n d_Mo_days_168 rfl rfl ?_
                refine j_iconst (v := 1) d_Mo_days_169 rfl ?_
                refine j_icmp_ne (tgt := 178) d_Mo_days_170 rfl (fun bq2 => ?_) (fun bq2 => False.elim (absurd ((xeq (n := 1) (by decide)).mp bq2) (by omega)))
                refine j_aload_n d_Mo_days_178 rfl rfl ?_
                refine j_geti d_Mo_days_179 f_Mo_278 rfl rfl (by decide) ?_
                refine j_iret d_Mo_days_182 rfl ?_
                exact q_i1 (hF _ (y2.mono (by decide) (by decide))) e2
